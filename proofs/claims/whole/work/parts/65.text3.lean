/-! PAIRS OF CALLS: text -/
def txR (h : pm_HP) (B i : Nat) : pm_HP := (fun a b => if a = 60 ∧ B + 1 ≤ b ∧ b < B + 1 + i then h.1 67 (b - (B + 1)) else h.1 a b, h.2)
theorem txR_at (h : pm_HP) (B i a b : Nat) : (txR h B i).1 a b = if a = 60 ∧ B + 1 ≤ b ∧ b < B + 1 + i then h.1 67 (b - (B + 1)) else h.1 a b := rfl
theorem txR_0 (h : pm_HP) (B : Nat) : txR h B 0 = h := by
  unfold txR
  congr 1
  funext a b
  rw [if_neg (by omega)]
theorem txR_s (h : pm_HP) (B i : Nat) : pm_si (txR h B i) 60 (B + 1 + i) (h.1 67 i) = txR h B (i + 1) := by
  unfold txR pm_si
  congr 1
  funext a b
  dsimp only
  by_cases q : a = 60 ∧ b = B + 1 + i
  · rw [if_pos q, if_pos ⟨q.1, by omega, by omega⟩, q.2, show B + 1 + i - (B + 1) = i by omega]
  · rw [if_neg q]
    by_cases q2 : a = 60 ∧ B + 1 ≤ b ∧ b < B + 1 + i
    · rw [if_pos q2, if_pos ⟨q2.1, q2.2.1, by omega⟩]
    · rw [if_neg q2, if_neg (by omega)]
def hcT (H : pm_HP) (use : Nat) : pm_HP := pm_si (pm_si (pm_si (pm_si (pm_si H 18 2 (nI use)) 20 1 0) 18 3 0) 18 4 0) 18 5 0
def hrT (h : pm_HP) (use : Nat) : pm_HP := pm_si (pm_si (pm_si (pm_si (pm_si h 59 10 (nI use)) 59 8 0) 59 9 0) 59 11 0) 59 13 0
theorem hcT_at {H : pm_HP} {use a b : Nat} (h1 : ¬ a = 18) (h2 : ¬ a = 20) : (hcT H use).1 a b = H.1 a b := by
  unfold hcT
  rw [si_ne _ _ (by omega), si_ne _ _ (by omega), si_ne _ _ (by omega), si_ne _ _ (by omega), si_ne _ _ (by omega)]
theorem hrT_at {h : pm_HP} {use a b : Nat} (h1 : ¬ (a = 59 ∧ (b = 8 ∨ b = 9 ∨ b = 10 ∨ b = 11 ∨ b = 13))) : (hrT h use).1 a b = h.1 a b := by
  unfold hrT
  rw [si_ne _ _ (by omega), si_ne _ _ (by omega), si_ne _ _ (by omega), si_ne _ _ (by omega), si_ne _ _ (by omega)]
theorem PS_T (H h : pm_HP) (use nn : Nat) : PS (hcT H use) (hrT h use) nn 0 0 0 0 := by
  unfold hcT hrT
  refine ⟨?_, ?_, ?_, ?_, si_same _ _ _ _, ?_, ?_, si_same _ _ _ _, fun i hi => absurd hi (by omega), rfl⟩
  · rw [si_ne _ _ (by omega), si_ne _ _ (by omega), si_same]; rfl
  · rw [si_ne _ _ (by omega), si_ne _ _ (by omega), si_ne _ _ (by omega), si_same]; rfl
  · rw [si_ne _ _ (by omega), si_same]; rfl
  · rw [si_ne _ _ (by omega), si_ne _ _ (by omega), si_same]; rfl
  · rw [si_ne _ _ (by omega), si_same]
  · rw [si_ne _ _ (by omega), si_ne _ _ (by omega), si_ne _ _ (by omega), si_same]; rfl
theorem PXc_T {H : pm_HP} {use nb : Nat} {b : Nat → Int32} (h21 : H.1 21 3 = nI nb) (hb : ∀ i, i < 60 → H.1 46 i = b i) : PXc (hcT H use) nb use b := by
  refine ⟨by rw [hcT_at (by omega) (by omega)]; exact h21, ?_, fun i hi => by rw [hcT_at (by omega) (by omega)]; exact hb i hi⟩
  unfold hcT
  rw [si_ne _ _ (by omega), si_ne _ _ (by omega), si_ne _ _ (by omega), si_ne _ _ (by omega), si_same]
theorem PXr_T {h : pm_HP} {use nb : Nat} {b : Nat → Int32} (h3 : h.1 60 3 = nI nb) (hb : ∀ i, i < 60 → h.1 60 (232 + i) = b i) : PXr (hrT h use) nb use b := by
  refine ⟨by rw [hrT_at (by omega)]; exact h3, ?_, fun i hi => by rw [hrT_at (by omega)]; exact hb i hi⟩
  unfold hrT
  rw [si_ne _ _ (by omega), si_ne _ _ (by omega), si_ne _ _ (by omega), si_ne _ _ (by omega), si_same]
section TX
variable {fb : Bool} {d : Nat} {h : pm_HP}
set_option maxRecDepth 100000 in
theorem lp_tx {use k : Nat} {x : Int32} (hu : use < 2) (hk : k ≤ 60) (h10 : h.1 59 10 = nI use) (h13 : h.1 59 13 = nI k) : ∀ (m i : Nat), i + m = k → pm_ev P_X9_text (rs fb d) (P_X9_text 6) [some (.ref 59), some (.int x), some (.int (nI i))] [] (txR h (316 + 62 * use) i) = some (some (.int 1), txR h (316 + 62 * use) k) := by
  intro m
  induction m with
  | zero =>
    intro i hi
    obtain rfl : i = k := by omega
    have e1 : nI i ≤ nI i := Int32.le_refl _
    have q13 : (txR h (316 + 62 * use) i).1 59 13 = nI i := by rw [txR_at, if_neg (by omega)]; exact h13
    rw [pb_X9_text_6]
    simp only [c20, c2i, c2n, c2r, cs8_0, cs8_1, cs8_2, cs8_3, cs8_4, decide_eq_true_eq, ev_ald0, ev_aldn0, ev_bin, ev_cs3, ev_cv0, ev_cv1, ev_gi, ev_go, ev_gr, ev_i, ev_ia, ev_ias, ev_if0, ev_if2, ev_ild1, ev_ild2, ev_inc2, ev_ist2, ev_pi, ev_pz, ev_ri, i00, i01, i10, not_false_eq_true, not_true_eq_false, pm_bd_s, pm_tl_n, pm_tl_s, ↓reduceIte, pb_X9_text_7, kd_59, rf_59_0, rf_59_1, rf_59_3, rf_59_4, rf_59_5, rf_59_6, rf_59_7, rf_59_12, rf_59_14, rf_59_15, rf_59_16, rf_59_19, rf_59_23, rf_59_24, rf_59_25, rf_59_26, is_9_59, q13, e1, if_true]
  | succ m ih =>
    intro i hi
    have e1 : ¬ nI k ≤ nI i := nI_ge (by omega) (by omega)
    have q13 : (txR h (316 + 62 * use) i).1 59 13 = nI k := by rw [txR_at, if_neg (by omega)]; exact h13
    have q10 : (txR h (316 + 62 * use) i).1 59 10 = nI use := by rw [txR_at, if_neg (by omega)]; exact h10
    have q67 : (txR h (316 + 62 * use) i).1 67 i = h.1 67 i := by rw [txR_at, if_neg (by omega)]
    have e : (316 : Int32) + 62 * nI use + 1 + nI i = nI (316 + 62 * use + 1 + i) := by
      show nI 316 + nI 62 * nI use + nI 1 + nI i = _
      rw [nI_mul, nI_add, nI_add, nI_add]
    have x1 : pm_ix (nI (316 + 62 * use + 1 + i)) 440 = true := pm_ix_n (by omega) (by omega)
    have c1 := nI_clamp (show 316 + 62 * use + 1 + i < 2 ^ 31 by omega)
    have x2 : pm_ix (nI i) 60 = true := pm_ix_n (by omega) (by omega)
    have c2 := nI_clamp (show i < 2 ^ 31 by omega)
    rw [pb_X9_text_6]
    simp only [c20, c2i, c2n, c2r, cs8_0, cs8_1, cs8_2, cs8_3, cs8_4, decide_eq_true_eq, ev_ald0, ev_aldn0, ev_bin, ev_cs3, ev_cv0, ev_cv1, ev_gi, ev_go, ev_gr, ev_i, ev_ia, ev_ias, ev_if0, ev_if2, ev_ild1, ev_ild2, ev_inc2, ev_ist2, ev_pi, ev_pz, ev_ri, i00, i01, i10, not_false_eq_true, not_true_eq_false, pm_bd_s, pm_tl_n, pm_tl_s, ↓reduceIte, kd_59, rf_59_0, rf_59_1, rf_59_3, rf_59_4, rf_59_5, rf_59_6, rf_59_7, rf_59_12, rf_59_14, rf_59_15, rf_59_16, rf_59_19, rf_59_23, rf_59_24, rf_59_25, rf_59_26, is_9_59, kd_60, al_60, kd_67, al_67, q13, q10, q67, e1, e, x1, c1, x2, c2, txR_s, nI_1, if_true, if_false]
    exact ih (i + 1) (by omega)
theorem sp_fault0 {nb a : Nat} {s : Int32} {H hc : pm_HP} (hn : nb ≤ 60) (r0 : rs fb (d + 98) n_X6_take [.ref 21, .ref 6] h = some (none, H)) (r1 : rs fb (d + 98) n_X1_readT [.ref 18] (hcT H 0) = some (none, hc)) (ha : hc.1 18 3 = nI a) (han : a ≤ nb) (hs : hc.1 18 5 = s) (hs2 : s = 0 ∨ s = 1) (h21 : hc.1 21 3 = nI nb) : rs fb (d + 99) n_X1_faultOf [.ref 18, .ref 6, .ref 80] h = some (some (.int (if s = 0 ∧ a = nb then -1 else nI a)), hc) := by
  have cl := fun h => sp_clear (fb := fb) (d := d + 97) (t := 20) (h := h) (by decide)
  have e80 : nI (80 - 80) = nI 0 := rfl
  unfold hcT at r1
  have z10 : ((1 : Int32) = 0) = False := by decide
  rw [en_X1_faultOf]
  rcases hs2 with rfl | rfl
  · by_cases q : a = nb
    · subst q
      have e1 : nI a ≤ nI a := Int32.le_refl _
      simp only [cs8_0, cs8_1, cs8_2, cs8_3, cs8_4, decide_eq_true_eq, ev_ald0, ev_ald1, ev_ald2, ev_aldn0, ev_aldn1, ev_aldn2, ev_cv0, ev_cv1, ev_gi, ev_go, ev_gr, ev_i, ev_if0, ev_if2, ev_pi, ev_ps, ev_pz, ev_ri, i00, i01, i10, is_sw, not_false_eq_true, not_true_eq_false, pm_bd_s, pm_tl_n, pm_tl_s, ↓reduceIte, pb_X1_faultOf_0, pb_X1_faultOf_1, pb_X1_faultOf_2, pb_X1_faultOf_3, kd_6, rf_6_2, fc_6_0, fc_6_1, is_6_3_6, is_3_6_6, kd_18, rf_18_0, rf_18_1, is_1_18, kd_20, rf_20_0, is_0_20, kd_21, rf_21_2, fc_21_0, fc_21_1, is_6_3_21, is_3_6_21, kd_80, rf_80_0, r0, e80, cl, r1, true_or, hs, ha, sp_used, h21, e1, and_self, not_true_eq_false, if_true, if_false]
    · have e1 : ¬ nI nb ≤ nI a := nI_ge (by omega) (by omega)
      simp only [cs8_0, cs8_1, cs8_2, cs8_3, cs8_4, decide_eq_true_eq, ev_ald0, ev_ald1, ev_ald2, ev_aldn0, ev_aldn1, ev_aldn2, ev_cv0, ev_cv1, ev_gi, ev_go, ev_gr, ev_i, ev_if0, ev_if2, ev_pi, ev_ps, ev_pz, ev_ri, i00, i01, i10, is_sw, not_false_eq_true, not_true_eq_false, pm_bd_s, pm_tl_n, pm_tl_s, ↓reduceIte, pb_X1_faultOf_0, pb_X1_faultOf_1, pb_X1_faultOf_2, pb_X1_faultOf_3, kd_6, rf_6_2, fc_6_0, fc_6_1, is_6_3_6, is_3_6_6, kd_18, rf_18_0, rf_18_1, is_1_18, kd_20, rf_20_0, is_0_20, kd_21, rf_21_2, fc_21_0, fc_21_1, is_6_3_21, is_3_6_21, kd_80, rf_80_0, r0, e80, cl, r1, true_or, hs, ha, sp_used, h21, e1, q, and_false, not_true_eq_false, if_true, if_false]
  · simp only [cs8_0, cs8_1, cs8_2, cs8_3, cs8_4, decide_eq_true_eq, ev_ald0, ev_ald1, ev_ald2, ev_aldn0, ev_aldn1, ev_aldn2, ev_cv0, ev_cv1, ev_gi, ev_go, ev_gr, ev_i, ev_if0, ev_if2, ev_pi, ev_ps, ev_pz, ev_ri, i00, i01, i10, is_sw, not_false_eq_true, not_true_eq_false, pm_bd_s, pm_tl_n, pm_tl_s, ↓reduceIte, pb_X1_faultOf_0, pb_X1_faultOf_1, pb_X1_faultOf_2, pb_X1_faultOf_3, kd_6, rf_6_2, fc_6_0, fc_6_1, is_6_3_6, is_3_6_6, kd_18, rf_18_0, rf_18_1, is_1_18, kd_20, rf_20_0, is_0_20, kd_21, rf_21_2, fc_21_0, fc_21_1, is_6_3_21, is_3_6_21, kd_80, rf_80_0, r0, e80, cl, r1, true_or, hs, ha, z10, false_and, not_false_eq_true, if_true, if_false]
theorem pr_text0 (hI : Inv h) : Pr fb (d + 100) n_X8_text n_X9_text [.int 0] h := by
  obtain ⟨⟨n, u, nt, nb, nw, iN⟩, iZ, iM, iS, iT, iB, iW, iX, iY⟩ := id hI.1
  have q1 : (0 ≤ (0 : Int32) ∧ (0 : Int32) ≤ 1) = True := by decide
  have z10 : ((1 : Int32) = 0) = False := by decide
  obtain ⟨b1, b2, b3⟩ := iN.2.2.2.1
  have hB : PBk nb 0 (fun i => h.1 60 (232 + i)) := ⟨b3, by omega, fun i hi => by
    obtain ⟨c, hc, e⟩ := nI_of2 (M := 255) (n := 255) (by decide) (Int32.not_lt.mpr (iB i hi).2.1) (iB i hi).2.2
    exact ⟨c, by omega, e⟩⟩
  have b1' : h.1 6 3 = nI nb := b1
  obtain ⟨H, r0, f0, g0, c0⟩ := sp_tt (fb := fb) (d := d + 95) (h := h) (t := 21) (o := 6) (u := nb) (by decide) (by decide) (by decide +kernel) (by decide +kernel) b1' (by rw [tQ_6]; exact b3)
  rw [show pm_rf 21 2 = 46 by decide] at f0 c0
  rw [show tC 21 * tR 21 = 60 by decide +kernel, show pm_rf 6 2 = 34 by decide] at c0
  have Xc := PXc_T (use := 0) (H := H) (nb := nb) (b := fun i => h.1 60 (232 + i)) (by rw [g0]; exact b1') (fun i hi => by rw [c0 i hi]; exact (iB i hi).1)
  have RT := (TL_all (fb := fb) hB 5 (Nat.le_refl _)).2
  have RR : ∀ h1 : pm_HP, h1.1 60 = h.1 60 → ∃ hc' hr', rs fb (d + 98) n_X1_readT [.ref 18] (hcT H 0) = some (none, hc') ∧ rs fb (d + 99) n_X9_either [.ref 59] (hrT h1 0) = some (none, hr') ∧ FPc (hcT H 0) hc' ∧ FPr (hrT h1 0) hr' ∧ PO hc' hr' (nnF 0) nb 0 0 0 0 := fun h1 e60 => RT (d + 98) (d + 99) 0 0 0 _ _ (by omega) (by omega) Xc (PXr_T (by rw [e60]; exact b2) (fun i hi => by rw [e60])) (PS_T H h1 0 (nnF 0)) (Nat.le_refl _) (Nat.zero_le _)
  obtain ⟨hc, hr0, r1, -, fc, -, out0⟩ := RR h rfl
  have R2 : ∀ h1 : pm_HP, h1.1 60 = h.1 60 → ∃ hr', rs fb (d + 99) n_X9_either [.ref 59] (hrT h1 0) = some (none, hr') ∧ FPr (hrT h1 0) hr' ∧ PO hc hr' (nnF 0) nb 0 0 0 0 := by
    intro h1 e60
    obtain ⟨hc', hr', s1, s2, -, s4, s5⟩ := RR h1 e60
    rw [r1] at s1
    have e2 := (Prod.mk.inj (Option.some.inj s1)).2
    subst e2
    exact ⟨hr', s2, s4, s5⟩
  have Xc' := PXc_t Xc fc
  have us := sp_use (fb := fb) (d := d + 97) (t := 6) (n := 0) (h := hc) (by decide) (Nat.zero_le _)
  rw [nI_0] at us
  have C : ∀ a b, ¬ a = 18 → ¬ a = 20 → ¬ a = 45 → ¬ a = 21 → ¬ a = 46 → hc.1 a b = h.1 a b := by
    intro a b n1 n2 n3 n4 n5
    rw [fc a b (by omega) (by omega) n3, hcT_at n1 n2, f0 a n4 n5]
  have ix3 : pm_ix (3 : Int32) 440 = true := by decide
  have cl3 : (3 : Int32).toNatClampNeg = 3 := by decide
  have RN0 : ∀ h2 : pm_HP, (∀ k, k < 5 → ¬ k = 3 → h2.1 (3 + k) 3 = h.1 (3 + k) 3) → (∀ j, j < 5 → ¬ j = 3 → h2.1 60 j = h.1 60 j) → h2.1 6 3 = 0 → h2.1 60 3 = 0 → RN h2 3 60 n u nt 0 nw := by
    intro h2 e1 e2 e3 e4
    obtain ⟨y1, y2, y3, -, y5⟩ := iN
    have t0 := e1 0 (by omega) (by omega)
    rw [Nat.add_zero] at t0
    refine ⟨⟨t0.trans y1.1, (e2 0 (by omega) (by omega)).trans y1.2.1, y1.2.2⟩, ⟨(e1 1 (by omega) (by omega)).trans y2.1, (e2 1 (by omega) (by omega)).trans y2.2.1, y2.2.2⟩, ⟨(e1 2 (by omega) (by omega)).trans y3.1, (e2 2 (by omega) (by omega)).trans y3.2.1, y3.2.2⟩, ⟨e3, e4, by omega⟩, (e1 4 (by omega) (by omega)).trans y5.1, (e2 4 (by omega) (by omega)).trans y5.2.1, y5.2.2⟩
  have FAIL : ∀ (a : Nat) (s : Int32), hc.1 18 3 = nI a → a ≤ nb → hc.1 18 5 = s → (s = 0 ∨ s = 1) → ¬ (s = 0 ∧ a = nb) → (∀ hr' : pm_HP, PO hc hr' (nnF 0) nb 0 0 0 0 → hr'.1 59 8 = nI a ∧ hr'.1 59 11 = s) → Pr fb (d + 100) n_X8_text n_X9_text [.int 0] h := by
    intro a s e1 e2 e3 e4 e5 e6
    have sf := sp_fault0 (fb := fb) (d := d) b3 r0 r1 e1 e2 e3 e4 Xc'.1
    rw [if_neg e5] at sf
    have e60 : (pm_si hc 6 3 0).1 60 = h.1 60 := by
      funext t
      rw [si_ne _ _ (by omega)]
      exact C 60 t (by omega) (by omega) (by omega) (by omega) (by omega)
    obtain ⟨hr', r2, fr, out⟩ := R2 (pm_si hc 6 3 0) e60
    obtain ⟨e7, e8⟩ := e6 hr' out
    have na : ¬ nI a < 0 := nI_pos (by omega)
    have hr3 : hr'.1 60 3 = nI nb := by
      rw [fr 60 3 (by omega) (by omega), hrT_at (by omega), e60]; exact b2
    have k1 : (pm_si (pm_si hr' 59 11 1) 60 3 0).1 59 11 = 1 := (si_ne _ _ (by omega)).trans (si_same _ _ _ _)
    have k2 : (pm_si (pm_si hr' 59 11 1) 60 3 0).1 59 8 = nI a := (si_ne _ _ (by omega)).trans ((si_ne _ _ (by omega)).trans e7)
    refine ⟨-10 - nI a, pm_si hc 6 3 0, pm_si (pm_si hr' 59 11 1) 60 3 0, ?_, ?_, ?_⟩
    · rw [en_X8_text]
      simp only [c20, c2i, c2n, c2r, cs8_0, cs8_1, cs8_2, cs8_3, cs8_4, decide_eq_true_eq, ev_ald0, ev_aldn0, ev_bin, ev_cs3, ev_cv1, ev_cv2, ev_go, ev_gr, ev_i, ev_if0, ev_ild1, ev_ild2, ev_ist2, ev_ri, ev_v, i00, i01, i10, is_sw, not_false_eq_true, not_true_eq_false, pm_bd_s, pm_tl_n, pm_tl_s, ↓reduceIte, pb_X8_text_0, pb_X8_text_1, pb_X8_text_2, pb_X8_text_3, kd_0, rf_0_0, rf_0_1, rf_0_2, rf_0_3, rf_0_4, rf_0_5, rf_0_6, rf_0_7, rf_0_8, is_8_0, kd_1, rf_1_0, rf_1_1, rf_1_2, rf_1_3, rf_1_4, rf_1_5, rf_1_6, is_5_1, kd_6, rf_6_2, fc_6_0, fc_6_1, is_6_3_6, is_3_6_6, kd_18, rf_18_0, rf_18_1, is_1_18, sp_isIn, bI_n0, q1, z10, sf, us, na, not_true_eq_false, not_false_eq_true, if_true, if_false]
    · unfold hrT at r2
      rw [nI_0] at r2
      rw [en_X9_text]
      rcases e4 with rfl | rfl
      · have an : ¬ nI nb ≤ nI a := nI_ge (by
          rcases Nat.lt_or_ge a nb with t | t
          · exact t
          · exact absurd ⟨rfl, by omega⟩ e5) (by omega)
        simp only [c20, c2i, c2n, c2r, cs8_0, cs8_1, cs8_2, cs8_3, cs8_4, decide_eq_true_eq, ev_ald0, ev_aldn0, ev_bin, ev_cs3, ev_cv0, ev_cv1, ev_gi, ev_go, ev_gr, ev_i, ev_ia, ev_ias, ev_if0, ev_if2, ev_ild1, ev_ild2, ev_inc2, ev_ist2, ev_pi, ev_pz, ev_ri, i00, i01, i10, not_false_eq_true, not_true_eq_false, pm_bd_s, pm_tl_n, pm_tl_s, ↓reduceIte, pb_X9_text_0, pb_X9_text_1, pb_X9_text_2, pb_X9_text_3, pb_X9_text_4, kd_59, rf_59_0, rf_59_1, rf_59_3, rf_59_4, rf_59_5, rf_59_6, rf_59_7, rf_59_12, rf_59_14, rf_59_15, rf_59_16, rf_59_19, rf_59_23, rf_59_24, rf_59_25, rf_59_26, is_9_59, kd_60, al_60, sr_isIn, bI_n0, q1, true_or, or_true, r2, e8, e7, ix3, cl3, hr3, an, k1, k2, z10, not_true_eq_false, if_true, if_false]
      · simp only [c20, c2i, c2n, c2r, cs8_0, cs8_1, cs8_2, cs8_3, cs8_4, decide_eq_true_eq, ev_ald0, ev_aldn0, ev_bin, ev_cs3, ev_cv0, ev_cv1, ev_gi, ev_go, ev_gr, ev_i, ev_ia, ev_ias, ev_if0, ev_if2, ev_ild1, ev_ild2, ev_inc2, ev_ist2, ev_pi, ev_pz, ev_ri, i00, i01, i10, not_false_eq_true, not_true_eq_false, pm_bd_s, pm_tl_n, pm_tl_s, ↓reduceIte, pb_X9_text_0, pb_X9_text_1, pb_X9_text_2, pb_X9_text_3, pb_X9_text_4, kd_59, rf_59_0, rf_59_1, rf_59_3, rf_59_4, rf_59_5, rf_59_6, rf_59_7, rf_59_12, rf_59_14, rf_59_15, rf_59_16, rf_59_19, rf_59_23, rf_59_24, rf_59_25, rf_59_26, is_9_59, kd_60, al_60, sr_isIn, bI_n0, q1, true_or, or_true, r2, e8, ix3, cl3, k1, k2, z10, not_false_eq_true, if_true, if_false]
    · have V : ∀ x y, ¬ x = 59 → ¬ x = 67 → ¬ (x = 60 ∧ y = 3) → ¬ (x = 6 ∧ y = 3) → ¬ x = 18 → ¬ x = 20 → ¬ x = 45 → ¬ x = 21 → ¬ x = 46 → (pm_si (pm_si hr' 59 11 1) 60 3 0).1 x y = h.1 x y := by
        intro x y n1 n2 n3 n4 n5 n6 n7 n8 n9
        rw [si_ne _ _ (by omega), si_ne _ _ (by omega), fr x y (by omega) n2, hrT_at (by omega), si_ne _ _ (by omega)]
        exact C x y n5 n6 n7 n8 n9
      have VV : ∀ x, ¬ x = 59 → ¬ x = 67 → ¬ x = 60 → ¬ x = 6 → ¬ x = 18 → ¬ x = 20 → ¬ x = 45 → ¬ x = 21 → ¬ x = 46 → (pm_si (pm_si hr' 59 11 1) 60 3 0).1 x = h.1 x := fun x n1 n2 n3 n4 n5 n6 n7 n8 n9 => funext fun y => V x y n1 n2 (by omega) (by omega) n5 n6 n7 n8 n9
      have V60 : ∀ y, ¬ y = 3 → (pm_si (pm_si hr' 59 11 1) 60 3 0).1 60 y = h.1 60 y := fun y hy => V 60 y (by omega) (by omega) (by omega) (by omega) (by omega) (by omega) (by omega) (by omega) (by omega)
      have V59 : ∀ y, y = 2 ∨ y = 20 → (pm_si (pm_si hr' 59 11 1) 60 3 0).1 59 y = h.1 59 y := by
        intro y hy
        rw [si_ne _ _ (by omega), si_ne _ _ (by omega), fr 59 y (by omega) (by omega), hrT_at (by omega), si_ne _ _ (by omega)]
        exact C 59 y (by omega) (by omega) (by omega) (by omega) (by omega)
      refine Inv_all hI (fun x h1 h2 h3 => VV x (by omega) (fun t => h1 (by subst t; decide)) (fun t => h1 (by subst t; decide)) (fun t => h1 (by subst t; decide)) (fun t => h1 (by subst t; decide)) (fun t => h1 (by subst t; decide)) (fun t => h1 (by subst t; decide)) (fun t => h1 (by subst t; decide)) (fun t => h1 (by subst t; decide))) (V59 2 (by omega)) ?_ ?_ ⟨⟨n, u, nt, 0, nw, RN0 _ (fun k hk hk3 => by rw [VV (3 + k) (by omega) (by omega) (by omega) (by omega) (by omega) (by omega) (by omega) (by omega) (by omega)]) (fun j hj hj3 => V60 j hj3) ?_ (si_same _ _ _ _)⟩, ?_, ?_, ?_, ?_, ?_, ?_, ?_, ?_⟩
      · obtain ⟨v, v0, v1, v2, v3⟩ := hI.2.2.2.1
        refine ⟨v, v0, ?_, ?_, fun i hi => ?_⟩
        · rw [VV 22 (by omega) (by omega) (by omega) (by omega) (by omega) (by omega) (by omega) (by omega) (by omega)]; exact v1
        · rw [V59 20 (by omega)]; exact v2
        · rw [VV 47 (by omega) (by omega) (by omega) (by omega) (by omega) (by omega) (by omega) (by omega) (by omega), VV 71 (by omega) (by omega) (by omega) (by omega) (by omega) (by omega) (by omega) (by omega) (by omega)]; exact v3 i hi
      · have z := hI.2.2.2.2.2
        unfold R0 at z ⊢
        rw [VV 52 (by omega) (by omega) (by omega) (by omega) (by omega) (by omega) (by omega) (by omega) (by omega), VV 53 (by omega) (by omega) (by omega) (by omega) (by omega) (by omega) (by omega) (by omega) (by omega), VV 63 (by omega) (by omega) (by omega) (by omega) (by omega) (by omega) (by omega) (by omega) (by omega), VV 64 (by omega) (by omega) (by omega) (by omega) (by omega) (by omega) (by omega) (by omega) (by omega)]
        exact z
      · rw [si_ne _ _ (by omega), si_ne _ _ (by omega), fr 6 3 (by omega) (by omega), hrT_at (by omega), si_same]
      · exact RZ_t iZ (by rw [VV 1 (by omega) (by omega) (by omega) (by omega) (by omega) (by omega) (by omega) (by omega) (by omega)]; exact ⟨rfl, rfl, rfl⟩) (fun j _ _ => V60 j (by omega))
      · exact RM_t iM (VV _ (by omega) (by omega) (by omega) (by omega) (by omega) (by omega) (by omega) (by omega) (by omega)) (fun j _ _ => V60 j (by omega))
      · exact RS_t iS (VV _ (by omega) (by omega) (by omega) (by omega) (by omega) (by omega) (by omega) (by omega) (by omega)) (fun j _ _ => V60 j (by omega))
      · exact RT_t iT (VV _ (by omega) (by omega) (by omega) (by omega) (by omega) (by omega) (by omega) (by omega) (by omega)) (fun j _ _ => V60 j (by omega))
      · exact RB_t iB (VV _ (by omega) (by omega) (by omega) (by omega) (by omega) (by omega) (by omega) (by omega) (by omega)) (fun j _ _ => V60 j (by omega))
      · exact RW_t iW (VV _ (by omega) (by omega) (by omega) (by omega) (by omega) (by omega) (by omega) (by omega) (by omega)) (fun j _ _ => V60 j (by omega))
      · exact RX_t iX (by rw [VV 8 (by omega) (by omega) (by omega) (by omega) (by omega) (by omega) (by omega) (by omega) (by omega)]) (VV _ (by omega) (by omega) (by omega) (by omega) (by omega) (by omega) (by omega) (by omega) (by omega)) (fun j _ _ => V60 j (by omega))
      · exact RX_t iY (by rw [VV 9 (by omega) (by omega) (by omega) (by omega) (by omega) (by omega) (by omega) (by omega) (by omega)]) (VV _ (by omega) (by omega) (by omega) (by omega) (by omega) (by omega) (by omega) (by omega) (by omega)) (fun j _ _ => V60 j (by omega))
  rcases out0 with ⟨a, k, P, a1, a2, a3⟩ | Z
  · obtain ⟨p1, p2, p3, p4, p5, p6, p7, p8, p9, p10⟩ := id P
    have inj : ∀ hr' : pm_HP, PO hc hr' (nnF 0) nb 0 0 0 0 → PS hc hr' (nnF 0) a 0 k 1 := by
      intro hr' out
      rcases out with ⟨a', k', P', -, a2', a3'⟩ | Z
      · have ea : a' = a := (nI_eq (by omega) (by omega)).mp (P'.1.symm.trans p1)
        have ek : k' = k := (nI_eq (by omega) (by omega)).mp (P'.2.2.2.2.2.2.1.symm.trans p7)
        subst ea ek
        exact P'
      · obtain ⟨-, -, -, -, -, -, z5, -, -⟩ := Z
        rw [p5] at z5
        exact absurd z5 (by decide)
    by_cases q : a = nb
    · subst q
      have sf := sp_fault0 (fb := fb) (d := d) b3 r0 r1 p1 (Nat.le_refl _) p5 (Or.inl rfl) Xc'.1
      rw [if_pos ⟨rfl, rfl⟩] at sf
      have m1 : (-1 : Int32) < 0 := by decide
      obtain ⟨H2, r3, f3, g3, c3⟩ := sp_lt (fb := fb) (d := d + 98) (h := pm_si hc 6 3 0) (t := 8) (o := 20) (by decide) (by decide)
      rw [show pm_rf 8 0 = 36 by decide] at f3 c3
      rw [show pm_rf 20 0 = 45 by decide] at c3
      have C2 : ∀ x y, ¬ x = 18 → ¬ x = 20 → ¬ x = 45 → ¬ x = 21 → ¬ x = 46 → ¬ (x = 6 ∧ y = 3) → ¬ x = 8 → ¬ x = 36 → H2.1 x y = h.1 x y := by
        intro x y n1 n2 n3 n4 n5 n6 n7 n8
        rw [f3 x n7 n8, si_ne _ _ (by omega)]
        exact C x y n1 n2 n3 n4 n5
      have e60 : H2.1 60 = h.1 60 := funext fun y => C2 60 y (by omega) (by omega) (by omega) (by omega) (by omega) (by omega) (by omega) (by omega)
      obtain ⟨hr', r2, fr, out⟩ := R2 H2 e60
      have P' := inj hr' out
      obtain ⟨y1, y2, y3, y4, y5, y6, y7, y8, y9, y10⟩ := id P'
      have hr3 : hr'.1 60 3 = nI a := by
        rw [fr 60 3 (by omega) (by omega), hrT_at (by omega), e60]; exact b2
      have hr10 : hr'.1 59 10 = nI 0 := by
        rw [fr 59 10 (by omega) (by omega)]
        unfold hrT
        rw [si_ne _ _ (by omega), si_ne _ _ (by omega), si_ne _ _ (by omega), si_ne _ _ (by omega), si_same]
      have i1 : pm_si hr' 59 11 0 = hr' := si_selfv y6
      have k1 : (pm_si hr' 60 3 0).1 59 11 = 0 := (si_ne _ _ (by omega)).trans y6
      have k2 : (pm_si hr' 60 3 0).1 59 10 = nI 0 := (si_ne _ _ (by omega)).trans hr10
      have k3 : (pm_si hr' 60 3 0).1 59 13 = nI k := (si_ne _ _ (by omega)).trans y8
      have an : nI a ≤ nI a := Int32.le_refl _
      have eb : (316 : Int32) + 62 * nI 0 = nI 316 := by decide
      have xb : pm_ix (nI 316) 440 = true := by decide
      have cb : (nI 316).toNatClampNeg = 316 := by decide
      have lt := lp_tx (fb := fb) (d := d + 99) (h := pm_si (pm_si hr' 60 3 0) 60 316 (nI k)) (use := 0) (k := k) (x := 0) (by omega) (by omega) ((si_ne _ _ (by omega)).trans k2) ((si_ne _ _ (by omega)).trans k3) k 0 (by omega)
      rw [txR_0, nI_0, show 316 + 62 * 0 = 316 from rfl] at lt
      have V : ∀ x y, (txR (pm_si (pm_si hr' 60 3 0) 60 316 (nI k)) 316 k).1 x y = if x = 60 ∧ 317 ≤ y ∧ y < 317 + k then hr'.1 67 (y - 317) else if x = 60 ∧ y = 316 then nI k else if x = 60 ∧ y = 3 then 0 else hr'.1 x y := by
        intro x y
        rw [txR_at]
        by_cases q : x = 60 ∧ 316 + 1 ≤ y ∧ y < 316 + 1 + k
        · rw [if_pos q, if_pos (by omega), si_ne _ _ (by omega), si_ne _ _ (by omega)]
        · rw [if_neg q, if_neg (by omega), si_at, si_at]
      have W : ∀ x y, ¬ (x = 60 ∧ y = 3) → ¬ (x = 60 ∧ 316 ≤ y ∧ y < 316 + 61) → ¬ x = 67 → ¬ (x = 59 ∧ ¬ (y = 2 ∨ y = 20)) → (txR (pm_si (pm_si hr' 60 3 0) 60 316 (nI k)) 316 k).1 x y = H2.1 x y := by
        intro x y n1 n2 n3 n4
        rw [V, if_neg (by omega), if_neg (by omega), if_neg (by omega), fr x y (by omega) n3, hrT_at (by omega)]
      have U : ∀ x y, ¬ (x = 60 ∧ y = 3) → ¬ (x = 60 ∧ 316 ≤ y ∧ y < 316 + 61) → ¬ x = 67 → ¬ (x = 59 ∧ ¬ (y = 2 ∨ y = 20)) → ¬ x = 18 → ¬ x = 20 → ¬ x = 45 → ¬ x = 21 → ¬ x = 46 → ¬ (x = 6 ∧ y = 3) → ¬ x = 8 → ¬ x = 36 → (txR (pm_si (pm_si hr' 60 3 0) 60 316 (nI k)) 316 k).1 x y = h.1 x y := fun x y n1 n2 n3 n4 n5 n6 n7 n8 n9 n10 n11 n12 => (W x y n1 n2 n3 n4).trans (C2 x y n5 n6 n7 n8 n9 n10 n11 n12)
      have UU : ∀ x, ¬ x = 60 → ¬ x = 67 → ¬ x = 59 → ¬ x = 18 → ¬ x = 20 → ¬ x = 45 → ¬ x = 21 → ¬ x = 46 → ¬ x = 6 → ¬ x = 8 → ¬ x = 36 → (txR (pm_si (pm_si hr' 60 3 0) 60 316 (nI k)) 316 k).1 x = h.1 x := fun x n1 n2 n3 n4 n5 n6 n7 n8 n9 n10 n11 => funext fun y => U x y (by omega) (by omega) n2 (by omega) n4 n5 n6 n7 n8 (by omega) n10 n11
      have U60 : ∀ y, ¬ y = 3 → ¬ (316 ≤ y ∧ y < 316 + 61) → (txR (pm_si (pm_si hr' 60 3 0) 60 316 (nI k)) 316 k).1 60 y = h.1 60 y := fun y n1 n2 => U 60 y (by omega) (by omega) (by omega) (by omega) (by omega) (by omega) (by omega) (by omega) (by omega) (by omega) (by omega) (by omega)
      refine ⟨1, H2, txR (pm_si (pm_si hr' 60 3 0) 60 316 (nI k)) 316 k, ?_, ?_, ?_⟩
      · rw [en_X8_text]
        simp only [c20, c2i, c2n, c2r, cs8_0, cs8_1, cs8_2, cs8_3, cs8_4, decide_eq_true_eq, ev_ald0, ev_aldn0, ev_bin, ev_cs3, ev_cv1, ev_cv2, ev_go, ev_gr, ev_i, ev_if0, ev_ild1, ev_ild2, ev_ist2, ev_ri, ev_v, i00, i01, i10, is_sw, not_false_eq_true, not_true_eq_false, pm_bd_s, pm_tl_n, pm_tl_s, ↓reduceIte, pb_X8_text_0, pb_X8_text_1, pb_X8_text_2, pb_X8_text_3, pb_X8_text_4, kd_0, rf_0_0, rf_0_1, rf_0_2, rf_0_3, rf_0_4, rf_0_5, rf_0_6, rf_0_7, rf_0_8, is_8_0, kd_1, rf_1_0, rf_1_1, rf_1_2, rf_1_3, rf_1_4, rf_1_5, rf_1_6, is_5_1, kd_6, rf_6_2, fc_6_0, fc_6_1, is_6_3_6, is_3_6_6, kd_18, rf_18_0, rf_18_1, is_1_18, kd_20, rf_20_0, is_0_20, kd_8, rf_8_0, is_0_8, sp_isIn, bI_n0, q1, z10, sf, us, m1, sp_lawOf0, r3, not_true_eq_false, not_false_eq_true, if_true, if_false]
      · unfold hrT at r2
        rw [nI_0] at r2
        rw [en_X9_text]
        simp only [c20, c2i, c2n, c2r, cs8_0, cs8_1, cs8_2, cs8_3, cs8_4, decide_eq_true_eq, ev_ald0, ev_aldn0, ev_bin, ev_cs3, ev_cv0, ev_cv1, ev_gi, ev_go, ev_gr, ev_i, ev_ia, ev_ias, ev_if0, ev_if2, ev_ild1, ev_ild2, ev_inc2, ev_ist2, ev_pi, ev_pz, ev_ri, i00, i01, i10, not_false_eq_true, not_true_eq_false, pm_bd_s, pm_tl_n, pm_tl_s, ↓reduceIte, pb_X9_text_0, pb_X9_text_1, pb_X9_text_2, pb_X9_text_3, pb_X9_text_4, pb_X9_text_5, kd_59, rf_59_0, rf_59_1, rf_59_3, rf_59_4, rf_59_5, rf_59_6, rf_59_7, rf_59_12, rf_59_14, rf_59_15, rf_59_16, rf_59_19, rf_59_23, rf_59_24, rf_59_25, rf_59_26, is_9_59, kd_60, al_60, sr_isIn, bI_n0, q1, true_or, or_true, r2, y6, y2, ix3, cl3, hr3, an, i1, k1, k2, k3, eb, xb, cb, not_true_eq_false, if_true, if_false]
        exact lt
      · refine Inv_all hI (fun x h1 h2 h3 => UU x (fun t => h1 (by subst t; decide)) (fun t => h1 (by subst t; decide)) (by omega) (fun t => h1 (by subst t; decide)) (fun t => h1 (by subst t; decide)) (fun t => h1 (by subst t; decide)) (fun t => h1 (by subst t; decide)) (fun t => h1 (by subst t; decide)) (fun t => h1 (by subst t; decide)) (fun t => h1 (by subst t; decide)) (fun t => h1 (by subst t; decide))) (U 59 2 (by omega) (by omega) (by omega) (by omega) (by omega) (by omega) (by omega) (by omega) (by omega) (by omega) (by omega) (by omega)) ?_ ?_ ⟨⟨n, u, nt, 0, nw, RN0 _ (fun j hj hj3 => by rw [UU (3 + j) (by omega) (by omega) (by omega) (by omega) (by omega) (by omega) (by omega) (by omega) (by omega) (by omega) (by omega)]) (fun j hj hj3 => U60 j hj3 (by omega)) ?_ ?_⟩, ?_, ?_, ?_, ?_, ?_, ?_, ?_, ?_⟩
        · obtain ⟨v, v0, v1, v2, v3⟩ := hI.2.2.2.1
          refine ⟨v, v0, ?_, ?_, fun i hi => ?_⟩
          · rw [UU 22 (by omega) (by omega) (by omega) (by omega) (by omega) (by omega) (by omega) (by omega) (by omega) (by omega) (by omega)]; exact v1
          · rw [U 59 20 (by omega) (by omega) (by omega) (by omega) (by omega) (by omega) (by omega) (by omega) (by omega) (by omega) (by omega) (by omega)]; exact v2
          · rw [UU 47 (by omega) (by omega) (by omega) (by omega) (by omega) (by omega) (by omega) (by omega) (by omega) (by omega) (by omega), UU 71 (by omega) (by omega) (by omega) (by omega) (by omega) (by omega) (by omega) (by omega) (by omega) (by omega) (by omega)]; exact v3 i hi
        · have z := hI.2.2.2.2.2
          unfold R0 at z ⊢
          rw [UU 52 (by omega) (by omega) (by omega) (by omega) (by omega) (by omega) (by omega) (by omega) (by omega) (by omega) (by omega), UU 53 (by omega) (by omega) (by omega) (by omega) (by omega) (by omega) (by omega) (by omega) (by omega) (by omega) (by omega), UU 63 (by omega) (by omega) (by omega) (by omega) (by omega) (by omega) (by omega) (by omega) (by omega) (by omega) (by omega), UU 64 (by omega) (by omega) (by omega) (by omega) (by omega) (by omega) (by omega) (by omega) (by omega) (by omega) (by omega)]
          exact z
        · rw [W 6 3 (by omega) (by omega) (by omega) (by omega), f3 6 (by omega) (by omega), si_same]
        · rw [V, if_neg (by omega), if_neg (by omega), if_pos ⟨rfl, rfl⟩]
        · exact RZ_t iZ (by rw [UU 1 (by omega) (by omega) (by omega) (by omega) (by omega) (by omega) (by omega) (by omega) (by omega) (by omega) (by omega)]; exact ⟨rfl, rfl, rfl⟩) (fun j _ _ => U60 j (by omega) (by omega))
        · exact RM_t iM (UU _ (by omega) (by omega) (by omega) (by omega) (by omega) (by omega) (by omega) (by omega) (by omega) (by omega) (by omega)) (fun j _ _ => U60 j (by omega) (by omega))
        · exact RS_t iS (UU _ (by omega) (by omega) (by omega) (by omega) (by omega) (by omega) (by omega) (by omega) (by omega) (by omega) (by omega)) (fun j _ _ => U60 j (by omega) (by omega))
        · exact RT_t iT (UU _ (by omega) (by omega) (by omega) (by omega) (by omega) (by omega) (by omega) (by omega) (by omega) (by omega) (by omega)) (fun j _ _ => U60 j (by omega) (by omega))
        · exact RB_t iB (UU _ (by omega) (by omega) (by omega) (by omega) (by omega) (by omega) (by omega) (by omega) (by omega) (by omega) (by omega)) (fun j _ _ => U60 j (by omega) (by omega))
        · exact RW_t iW (UU _ (by omega) (by omega) (by omega) (by omega) (by omega) (by omega) (by omega) (by omega) (by omega) (by omega) (by omega)) (fun j _ _ => U60 j (by omega) (by omega))
        · refine ⟨k, by omega, ?_, ?_, fun i hi => ?_, Or.inr ?_⟩
          · show (txR (pm_si (pm_si hr' 60 3 0) 60 316 (nI k)) 316 k).1 8 1 = nI k
            rw [W 8 1 (by omega) (by omega) (by omega) (by omega), g3, si_ne _ _ (by omega)]; exact p7
          · rw [V, if_neg (by omega), if_pos ⟨rfl, rfl⟩]
          · show cod ((txR (pm_si (pm_si hr' 60 3 0) 60 316 (nI k)) 316 k).1 36 i) = _
            rw [W 36 i (by omega) (by omega) (by omega) (by omega), c3 i (by omega), si_ne _ _ (by omega), V, if_pos ⟨rfl, by omega, by omega⟩, show 316 + 1 + i - 317 = i by omega]
            exact y9 i hi
          · show dpF 5 ((txR (pm_si (pm_si hr' 60 3 0) 60 316 (nI k)) 316 k).1 36) k = some 1
            rw [dp_congr (q := hc.1 45) (fun i hi => by rw [W 36 i (by omega) (by omega) (by omega) (by omega), c3 i (by omega), si_ne _ _ (by omega)])]
            exact p10
        · exact RX_t iY (by rw [UU 9 (by omega) (by omega) (by omega) (by omega) (by omega) (by omega) (by omega) (by omega) (by omega) (by omega) (by omega)]) (UU _ (by omega) (by omega) (by omega) (by omega) (by omega) (by omega) (by omega) (by omega) (by omega) (by omega) (by omega)) (fun j _ _ => U60 j (by omega) (by omega))
    · exact FAIL a 0 p1 a2 p5 (Or.inl rfl) (fun t => q t.2) (fun hr' out => ⟨(inj hr' out).2.1, (inj hr' out).2.2.2.2.2.1⟩)
  · obtain ⟨a, k, z1, z2, z3, z4, z5, z6, z7⟩ := id Z
    exact FAIL a 1 z3 z1 z5 (Or.inr rfl) (fun t => absurd t.1 (by decide)) (fun hr' out => by
      rcases out with ⟨a', k', P', -, -, -⟩ | Z'
      · have := P'.2.2.2.2.1
        rw [z5] at this
        exact absurd this (by decide)
      · obtain ⟨a', k', y1, y2, y3, y4, y5, y6, y7⟩ := Z'
        have ea : a' = a := (nI_eq (by omega) (by omega)).mp (y3.symm.trans z3)
        subst ea
        exact ⟨y4, y6⟩)
theorem sp_fault1 {nb a : Nat} {s : Int32} {H hc : pm_HP} (hn : nb ≤ 60) (r0 : rs fb (d + 98) n_X6_take [.ref 21, .ref 6] h = some (none, H)) (r1 : rs fb (d + 98) n_X1_readT [.ref 18] (hcT H 1) = some (none, hc)) (ha : hc.1 18 3 = nI a) (han : a ≤ nb) (hs : hc.1 18 5 = s) (hs2 : s = 0 ∨ s = 1) (h21 : hc.1 21 3 = nI nb) : rs fb (d + 99) n_X1_faultOf [.ref 18, .ref 6, .ref 81] h = some (some (.int (if s = 0 ∧ a = nb then -1 else nI a)), hc) := by
  have cl := fun h => sp_clear (fb := fb) (d := d + 97) (t := 20) (h := h) (by decide)
  have e80 : nI (81 - 80) = nI 1 := rfl
  unfold hcT at r1
  have z10 : ((1 : Int32) = 0) = False := by decide
  rw [en_X1_faultOf]
  rcases hs2 with rfl | rfl
  · by_cases q : a = nb
    · subst q
      have e1 : nI a ≤ nI a := Int32.le_refl _
      simp only [cs8_0, cs8_1, cs8_2, cs8_3, cs8_4, decide_eq_true_eq, ev_ald0, ev_ald1, ev_ald2, ev_aldn0, ev_aldn1, ev_aldn2, ev_cv0, ev_cv1, ev_gi, ev_go, ev_gr, ev_i, ev_if0, ev_if2, ev_pi, ev_ps, ev_pz, ev_ri, i00, i01, i10, is_sw, not_false_eq_true, not_true_eq_false, pm_bd_s, pm_tl_n, pm_tl_s, ↓reduceIte, pb_X1_faultOf_0, pb_X1_faultOf_1, pb_X1_faultOf_2, pb_X1_faultOf_3, kd_6, rf_6_2, fc_6_0, fc_6_1, is_6_3_6, is_3_6_6, kd_18, rf_18_0, rf_18_1, is_1_18, kd_20, rf_20_0, is_0_20, kd_21, rf_21_2, fc_21_0, fc_21_1, is_6_3_21, is_3_6_21, kd_81, rf_81_0, r0, e80, cl, r1, true_or, hs, ha, sp_used, h21, e1, and_self, not_true_eq_false, if_true, if_false]
    · have e1 : ¬ nI nb ≤ nI a := nI_ge (by omega) (by omega)
      simp only [cs8_0, cs8_1, cs8_2, cs8_3, cs8_4, decide_eq_true_eq, ev_ald0, ev_ald1, ev_ald2, ev_aldn0, ev_aldn1, ev_aldn2, ev_cv0, ev_cv1, ev_gi, ev_go, ev_gr, ev_i, ev_if0, ev_if2, ev_pi, ev_ps, ev_pz, ev_ri, i00, i01, i10, is_sw, not_false_eq_true, not_true_eq_false, pm_bd_s, pm_tl_n, pm_tl_s, ↓reduceIte, pb_X1_faultOf_0, pb_X1_faultOf_1, pb_X1_faultOf_2, pb_X1_faultOf_3, kd_6, rf_6_2, fc_6_0, fc_6_1, is_6_3_6, is_3_6_6, kd_18, rf_18_0, rf_18_1, is_1_18, kd_20, rf_20_0, is_0_20, kd_21, rf_21_2, fc_21_0, fc_21_1, is_6_3_21, is_3_6_21, kd_81, rf_81_0, r0, e80, cl, r1, true_or, hs, ha, sp_used, h21, e1, q, and_false, not_true_eq_false, if_true, if_false]
  · simp only [cs8_0, cs8_1, cs8_2, cs8_3, cs8_4, decide_eq_true_eq, ev_ald0, ev_ald1, ev_ald2, ev_aldn0, ev_aldn1, ev_aldn2, ev_cv0, ev_cv1, ev_gi, ev_go, ev_gr, ev_i, ev_if0, ev_if2, ev_pi, ev_ps, ev_pz, ev_ri, i00, i01, i10, is_sw, not_false_eq_true, not_true_eq_false, pm_bd_s, pm_tl_n, pm_tl_s, ↓reduceIte, pb_X1_faultOf_0, pb_X1_faultOf_1, pb_X1_faultOf_2, pb_X1_faultOf_3, kd_6, rf_6_2, fc_6_0, fc_6_1, is_6_3_6, is_3_6_6, kd_18, rf_18_0, rf_18_1, is_1_18, kd_20, rf_20_0, is_0_20, kd_21, rf_21_2, fc_21_0, fc_21_1, is_6_3_21, is_3_6_21, kd_81, rf_81_0, r0, e80, cl, r1, true_or, hs, ha, z10, false_and, not_false_eq_true, if_true, if_false]
theorem pr_text1 (hI : Inv h) : Pr fb (d + 100) n_X8_text n_X9_text [.int 1] h := by
  obtain ⟨⟨n, u, nt, nb, nw, iN⟩, iZ, iM, iS, iT, iB, iW, iX, iY⟩ := id hI.1
  have q1 : (0 ≤ (1 : Int32) ∧ (1 : Int32) ≤ 1) = True := by decide
  have z10 : ((1 : Int32) = 0) = False := by decide
  obtain ⟨b1, b2, b3⟩ := iN.2.2.2.1
  have hB : PBk nb 1 (fun i => h.1 60 (232 + i)) := ⟨b3, by omega, fun i hi => by
    obtain ⟨c, hc, e⟩ := nI_of2 (M := 255) (n := 255) (by decide) (Int32.not_lt.mpr (iB i hi).2.1) (iB i hi).2.2
    exact ⟨c, by omega, e⟩⟩
  have b1' : h.1 6 3 = nI nb := b1
  obtain ⟨H, r0, f0, g0, c0⟩ := sp_tt (fb := fb) (d := d + 95) (h := h) (t := 21) (o := 6) (u := nb) (by decide) (by decide) (by decide +kernel) (by decide +kernel) b1' (by rw [tQ_6]; exact b3)
  rw [show pm_rf 21 2 = 46 by decide] at f0 c0
  rw [show tC 21 * tR 21 = 60 by decide +kernel, show pm_rf 6 2 = 34 by decide] at c0
  have Xc := PXc_T (use := 1) (H := H) (nb := nb) (b := fun i => h.1 60 (232 + i)) (by rw [g0]; exact b1') (fun i hi => by rw [c0 i hi]; exact (iB i hi).1)
  have RT := (TL_all (fb := fb) hB 5 (Nat.le_refl _)).2
  have RR : ∀ h1 : pm_HP, h1.1 60 = h.1 60 → ∃ hc' hr', rs fb (d + 98) n_X1_readT [.ref 18] (hcT H 1) = some (none, hc') ∧ rs fb (d + 99) n_X9_either [.ref 59] (hrT h1 1) = some (none, hr') ∧ FPc (hcT H 1) hc' ∧ FPr (hrT h1 1) hr' ∧ PO hc' hr' (nnF 1) nb 0 0 0 0 := fun h1 e60 => RT (d + 98) (d + 99) 0 0 0 _ _ (by omega) (by omega) Xc (PXr_T (by rw [e60]; exact b2) (fun i hi => by rw [e60])) (PS_T H h1 1 (nnF 1)) (Nat.le_refl _) (Nat.zero_le _)
  obtain ⟨hc, hr0, r1, -, fc, -, out0⟩ := RR h rfl
  have R2 : ∀ h1 : pm_HP, h1.1 60 = h.1 60 → ∃ hr', rs fb (d + 99) n_X9_either [.ref 59] (hrT h1 1) = some (none, hr') ∧ FPr (hrT h1 1) hr' ∧ PO hc hr' (nnF 1) nb 0 0 0 0 := by
    intro h1 e60
    obtain ⟨hc', hr', s1, s2, -, s4, s5⟩ := RR h1 e60
    rw [r1] at s1
    have e2 := (Prod.mk.inj (Option.some.inj s1)).2
    subst e2
    exact ⟨hr', s2, s4, s5⟩
  have Xc' := PXc_t Xc fc
  have us := sp_use (fb := fb) (d := d + 97) (t := 6) (n := 0) (h := hc) (by decide) (Nat.zero_le _)
  rw [nI_0] at us
  have C : ∀ a b, ¬ a = 18 → ¬ a = 20 → ¬ a = 45 → ¬ a = 21 → ¬ a = 46 → hc.1 a b = h.1 a b := by
    intro a b n1 n2 n3 n4 n5
    rw [fc a b (by omega) (by omega) n3, hcT_at n1 n2, f0 a n4 n5]
  have ix3 : pm_ix (3 : Int32) 440 = true := by decide
  have cl3 : (3 : Int32).toNatClampNeg = 3 := by decide
  have RN0 : ∀ h2 : pm_HP, (∀ k, k < 5 → ¬ k = 3 → h2.1 (3 + k) 3 = h.1 (3 + k) 3) → (∀ j, j < 5 → ¬ j = 3 → h2.1 60 j = h.1 60 j) → h2.1 6 3 = 0 → h2.1 60 3 = 0 → RN h2 3 60 n u nt 0 nw := by
    intro h2 e1 e2 e3 e4
    obtain ⟨y1, y2, y3, -, y5⟩ := iN
    have t0 := e1 0 (by omega) (by omega)
    rw [Nat.add_zero] at t0
    refine ⟨⟨t0.trans y1.1, (e2 0 (by omega) (by omega)).trans y1.2.1, y1.2.2⟩, ⟨(e1 1 (by omega) (by omega)).trans y2.1, (e2 1 (by omega) (by omega)).trans y2.2.1, y2.2.2⟩, ⟨(e1 2 (by omega) (by omega)).trans y3.1, (e2 2 (by omega) (by omega)).trans y3.2.1, y3.2.2⟩, ⟨e3, e4, by omega⟩, (e1 4 (by omega) (by omega)).trans y5.1, (e2 4 (by omega) (by omega)).trans y5.2.1, y5.2.2⟩
  have FAIL : ∀ (a : Nat) (s : Int32), hc.1 18 3 = nI a → a ≤ nb → hc.1 18 5 = s → (s = 0 ∨ s = 1) → ¬ (s = 0 ∧ a = nb) → (∀ hr' : pm_HP, PO hc hr' (nnF 1) nb 0 0 0 0 → hr'.1 59 8 = nI a ∧ hr'.1 59 11 = s) → Pr fb (d + 100) n_X8_text n_X9_text [.int 1] h := by
    intro a s e1 e2 e3 e4 e5 e6
    have sf := sp_fault1 (fb := fb) (d := d) b3 r0 r1 e1 e2 e3 e4 Xc'.1
    rw [if_neg e5] at sf
    have e60 : (pm_si hc 6 3 0).1 60 = h.1 60 := by
      funext t
      rw [si_ne _ _ (by omega)]
      exact C 60 t (by omega) (by omega) (by omega) (by omega) (by omega)
    obtain ⟨hr', r2, fr, out⟩ := R2 (pm_si hc 6 3 0) e60
    obtain ⟨e7, e8⟩ := e6 hr' out
    have na : ¬ nI a < 0 := nI_pos (by omega)
    have hr3 : hr'.1 60 3 = nI nb := by
      rw [fr 60 3 (by omega) (by omega), hrT_at (by omega), e60]; exact b2
    have k1 : (pm_si (pm_si hr' 59 11 1) 60 3 0).1 59 11 = 1 := (si_ne _ _ (by omega)).trans (si_same _ _ _ _)
    have k2 : (pm_si (pm_si hr' 59 11 1) 60 3 0).1 59 8 = nI a := (si_ne _ _ (by omega)).trans ((si_ne _ _ (by omega)).trans e7)
    refine ⟨-10 - nI a, pm_si hc 6 3 0, pm_si (pm_si hr' 59 11 1) 60 3 0, ?_, ?_, ?_⟩
    · rw [en_X8_text]
      simp only [c20, c2i, c2n, c2r, cs8_0, cs8_1, cs8_2, cs8_3, cs8_4, decide_eq_true_eq, ev_ald0, ev_aldn0, ev_bin, ev_cs3, ev_cv1, ev_cv2, ev_go, ev_gr, ev_i, ev_if0, ev_ild1, ev_ild2, ev_ist2, ev_ri, ev_v, i00, i01, i10, is_sw, not_false_eq_true, not_true_eq_false, pm_bd_s, pm_tl_n, pm_tl_s, ↓reduceIte, pb_X8_text_0, pb_X8_text_1, pb_X8_text_2, pb_X8_text_3, kd_0, rf_0_0, rf_0_1, rf_0_2, rf_0_3, rf_0_4, rf_0_5, rf_0_6, rf_0_7, rf_0_8, is_8_0, kd_1, rf_1_0, rf_1_1, rf_1_2, rf_1_3, rf_1_4, rf_1_5, rf_1_6, is_5_1, kd_6, rf_6_2, fc_6_0, fc_6_1, is_6_3_6, is_3_6_6, kd_18, rf_18_0, rf_18_1, is_1_18, sp_isIn, bI_n0, q1, z10, sf, us, na, not_true_eq_false, not_false_eq_true, if_true, if_false]
    · unfold hrT at r2
      rw [n1] at r2
      rw [en_X9_text]
      rcases e4 with rfl | rfl
      · have an : ¬ nI nb ≤ nI a := nI_ge (by
          rcases Nat.lt_or_ge a nb with t | t
          · exact t
          · exact absurd ⟨rfl, by omega⟩ e5) (by omega)
        simp only [c20, c2i, c2n, c2r, cs8_0, cs8_1, cs8_2, cs8_3, cs8_4, decide_eq_true_eq, ev_ald0, ev_aldn0, ev_bin, ev_cs3, ev_cv0, ev_cv1, ev_gi, ev_go, ev_gr, ev_i, ev_ia, ev_ias, ev_if0, ev_if2, ev_ild1, ev_ild2, ev_inc2, ev_ist2, ev_pi, ev_pz, ev_ri, i00, i01, i10, not_false_eq_true, not_true_eq_false, pm_bd_s, pm_tl_n, pm_tl_s, ↓reduceIte, pb_X9_text_0, pb_X9_text_1, pb_X9_text_2, pb_X9_text_3, pb_X9_text_4, kd_59, rf_59_0, rf_59_1, rf_59_3, rf_59_4, rf_59_5, rf_59_6, rf_59_7, rf_59_12, rf_59_14, rf_59_15, rf_59_16, rf_59_19, rf_59_23, rf_59_24, rf_59_25, rf_59_26, is_9_59, kd_60, al_60, sr_isIn, bI_n0, q1, true_or, or_true, r2, e8, e7, ix3, cl3, hr3, an, k1, k2, z10, not_true_eq_false, if_true, if_false]
      · simp only [c20, c2i, c2n, c2r, cs8_0, cs8_1, cs8_2, cs8_3, cs8_4, decide_eq_true_eq, ev_ald0, ev_aldn0, ev_bin, ev_cs3, ev_cv0, ev_cv1, ev_gi, ev_go, ev_gr, ev_i, ev_ia, ev_ias, ev_if0, ev_if2, ev_ild1, ev_ild2, ev_inc2, ev_ist2, ev_pi, ev_pz, ev_ri, i00, i01, i10, not_false_eq_true, not_true_eq_false, pm_bd_s, pm_tl_n, pm_tl_s, ↓reduceIte, pb_X9_text_0, pb_X9_text_1, pb_X9_text_2, pb_X9_text_3, pb_X9_text_4, kd_59, rf_59_0, rf_59_1, rf_59_3, rf_59_4, rf_59_5, rf_59_6, rf_59_7, rf_59_12, rf_59_14, rf_59_15, rf_59_16, rf_59_19, rf_59_23, rf_59_24, rf_59_25, rf_59_26, is_9_59, kd_60, al_60, sr_isIn, bI_n0, q1, true_or, or_true, r2, e8, ix3, cl3, k1, k2, z10, not_false_eq_true, if_true, if_false]
    · have V : ∀ x y, ¬ x = 59 → ¬ x = 67 → ¬ (x = 60 ∧ y = 3) → ¬ (x = 6 ∧ y = 3) → ¬ x = 18 → ¬ x = 20 → ¬ x = 45 → ¬ x = 21 → ¬ x = 46 → (pm_si (pm_si hr' 59 11 1) 60 3 0).1 x y = h.1 x y := by
        intro x y n1 n2 n3 n4 n5 n6 n7 n8 n9
        rw [si_ne _ _ (by omega), si_ne _ _ (by omega), fr x y (by omega) n2, hrT_at (by omega), si_ne _ _ (by omega)]
        exact C x y n5 n6 n7 n8 n9
      have VV : ∀ x, ¬ x = 59 → ¬ x = 67 → ¬ x = 60 → ¬ x = 6 → ¬ x = 18 → ¬ x = 20 → ¬ x = 45 → ¬ x = 21 → ¬ x = 46 → (pm_si (pm_si hr' 59 11 1) 60 3 0).1 x = h.1 x := fun x n1 n2 n3 n4 n5 n6 n7 n8 n9 => funext fun y => V x y n1 n2 (by omega) (by omega) n5 n6 n7 n8 n9
      have V60 : ∀ y, ¬ y = 3 → (pm_si (pm_si hr' 59 11 1) 60 3 0).1 60 y = h.1 60 y := fun y hy => V 60 y (by omega) (by omega) (by omega) (by omega) (by omega) (by omega) (by omega) (by omega) (by omega)
      have V59 : ∀ y, y = 2 ∨ y = 20 → (pm_si (pm_si hr' 59 11 1) 60 3 0).1 59 y = h.1 59 y := by
        intro y hy
        rw [si_ne _ _ (by omega), si_ne _ _ (by omega), fr 59 y (by omega) (by omega), hrT_at (by omega), si_ne _ _ (by omega)]
        exact C 59 y (by omega) (by omega) (by omega) (by omega) (by omega)
      refine Inv_all hI (fun x h1 h2 h3 => VV x (by omega) (fun t => h1 (by subst t; decide)) (fun t => h1 (by subst t; decide)) (fun t => h1 (by subst t; decide)) (fun t => h1 (by subst t; decide)) (fun t => h1 (by subst t; decide)) (fun t => h1 (by subst t; decide)) (fun t => h1 (by subst t; decide)) (fun t => h1 (by subst t; decide))) (V59 2 (by omega)) ?_ ?_ ⟨⟨n, u, nt, 0, nw, RN0 _ (fun k hk hk3 => by rw [VV (3 + k) (by omega) (by omega) (by omega) (by omega) (by omega) (by omega) (by omega) (by omega) (by omega)]) (fun j hj hj3 => V60 j hj3) ?_ (si_same _ _ _ _)⟩, ?_, ?_, ?_, ?_, ?_, ?_, ?_, ?_⟩
      · obtain ⟨v, v0, v1, v2, v3⟩ := hI.2.2.2.1
        refine ⟨v, v0, ?_, ?_, fun i hi => ?_⟩
        · rw [VV 22 (by omega) (by omega) (by omega) (by omega) (by omega) (by omega) (by omega) (by omega) (by omega)]; exact v1
        · rw [V59 20 (by omega)]; exact v2
        · rw [VV 47 (by omega) (by omega) (by omega) (by omega) (by omega) (by omega) (by omega) (by omega) (by omega), VV 71 (by omega) (by omega) (by omega) (by omega) (by omega) (by omega) (by omega) (by omega) (by omega)]; exact v3 i hi
      · have z := hI.2.2.2.2.2
        unfold R0 at z ⊢
        rw [VV 52 (by omega) (by omega) (by omega) (by omega) (by omega) (by omega) (by omega) (by omega) (by omega), VV 53 (by omega) (by omega) (by omega) (by omega) (by omega) (by omega) (by omega) (by omega) (by omega), VV 63 (by omega) (by omega) (by omega) (by omega) (by omega) (by omega) (by omega) (by omega) (by omega), VV 64 (by omega) (by omega) (by omega) (by omega) (by omega) (by omega) (by omega) (by omega) (by omega)]
        exact z
      · rw [si_ne _ _ (by omega), si_ne _ _ (by omega), fr 6 3 (by omega) (by omega), hrT_at (by omega), si_same]
      · exact RZ_t iZ (by rw [VV 1 (by omega) (by omega) (by omega) (by omega) (by omega) (by omega) (by omega) (by omega) (by omega)]; exact ⟨rfl, rfl, rfl⟩) (fun j _ _ => V60 j (by omega))
      · exact RM_t iM (VV _ (by omega) (by omega) (by omega) (by omega) (by omega) (by omega) (by omega) (by omega) (by omega)) (fun j _ _ => V60 j (by omega))
      · exact RS_t iS (VV _ (by omega) (by omega) (by omega) (by omega) (by omega) (by omega) (by omega) (by omega) (by omega)) (fun j _ _ => V60 j (by omega))
      · exact RT_t iT (VV _ (by omega) (by omega) (by omega) (by omega) (by omega) (by omega) (by omega) (by omega) (by omega)) (fun j _ _ => V60 j (by omega))
      · exact RB_t iB (VV _ (by omega) (by omega) (by omega) (by omega) (by omega) (by omega) (by omega) (by omega) (by omega)) (fun j _ _ => V60 j (by omega))
      · exact RW_t iW (VV _ (by omega) (by omega) (by omega) (by omega) (by omega) (by omega) (by omega) (by omega) (by omega)) (fun j _ _ => V60 j (by omega))
      · exact RX_t iX (by rw [VV 8 (by omega) (by omega) (by omega) (by omega) (by omega) (by omega) (by omega) (by omega) (by omega)]) (VV _ (by omega) (by omega) (by omega) (by omega) (by omega) (by omega) (by omega) (by omega) (by omega)) (fun j _ _ => V60 j (by omega))
      · exact RX_t iY (by rw [VV 9 (by omega) (by omega) (by omega) (by omega) (by omega) (by omega) (by omega) (by omega) (by omega)]) (VV _ (by omega) (by omega) (by omega) (by omega) (by omega) (by omega) (by omega) (by omega) (by omega)) (fun j _ _ => V60 j (by omega))
  rcases out0 with ⟨a, k, P, a1, a2, a3⟩ | Z
  · obtain ⟨p1, p2, p3, p4, p5, p6, p7, p8, p9, p10⟩ := id P
    have inj : ∀ hr' : pm_HP, PO hc hr' (nnF 1) nb 0 0 0 0 → PS hc hr' (nnF 1) a 0 k 1 := by
      intro hr' out
      rcases out with ⟨a', k', P', -, a2', a3'⟩ | Z
      · have ea : a' = a := (nI_eq (by omega) (by omega)).mp (P'.1.symm.trans p1)
        have ek : k' = k := (nI_eq (by omega) (by omega)).mp (P'.2.2.2.2.2.2.1.symm.trans p7)
        subst ea ek
        exact P'
      · obtain ⟨-, -, -, -, -, -, z5, -, -⟩ := Z
        rw [p5] at z5
        exact absurd z5 (by decide)
    by_cases q : a = nb
    · subst q
      have sf := sp_fault1 (fb := fb) (d := d) b3 r0 r1 p1 (Nat.le_refl _) p5 (Or.inl rfl) Xc'.1
      rw [if_pos ⟨rfl, rfl⟩] at sf
      have m1 : (-1 : Int32) < 0 := by decide
      obtain ⟨H2, r3, f3, g3, c3⟩ := sp_lt (fb := fb) (d := d + 98) (h := pm_si hc 6 3 0) (t := 9) (o := 20) (by decide) (by decide)
      rw [show pm_rf 9 0 = 37 by decide] at f3 c3
      rw [show pm_rf 20 0 = 45 by decide] at c3
      have C2 : ∀ x y, ¬ x = 18 → ¬ x = 20 → ¬ x = 45 → ¬ x = 21 → ¬ x = 46 → ¬ (x = 6 ∧ y = 3) → ¬ x = 9 → ¬ x = 37 → H2.1 x y = h.1 x y := by
        intro x y n1 n2 n3 n4 n5 n6 n7 n8
        rw [f3 x n7 n8, si_ne _ _ (by omega)]
        exact C x y n1 n2 n3 n4 n5
      have e60 : H2.1 60 = h.1 60 := funext fun y => C2 60 y (by omega) (by omega) (by omega) (by omega) (by omega) (by omega) (by omega) (by omega)
      obtain ⟨hr', r2, fr, out⟩ := R2 H2 e60
      have P' := inj hr' out
      obtain ⟨y1, y2, y3, y4, y5, y6, y7, y8, y9, y10⟩ := id P'
      have hr3 : hr'.1 60 3 = nI a := by
        rw [fr 60 3 (by omega) (by omega), hrT_at (by omega), e60]; exact b2
      have hr10 : hr'.1 59 10 = nI 1 := by
        rw [fr 59 10 (by omega) (by omega)]
        unfold hrT
        rw [si_ne _ _ (by omega), si_ne _ _ (by omega), si_ne _ _ (by omega), si_ne _ _ (by omega), si_same]
      have i1 : pm_si hr' 59 11 0 = hr' := si_selfv y6
      have k1 : (pm_si hr' 60 3 0).1 59 11 = 0 := (si_ne _ _ (by omega)).trans y6
      have k2 : (pm_si hr' 60 3 0).1 59 10 = nI 1 := (si_ne _ _ (by omega)).trans hr10
      have k3 : (pm_si hr' 60 3 0).1 59 13 = nI k := (si_ne _ _ (by omega)).trans y8
      have an : nI a ≤ nI a := Int32.le_refl _
      have eb : (316 : Int32) + 62 * nI 1 = nI 378 := by decide
      have xb : pm_ix (nI 378) 440 = true := by decide
      have cb : (nI 378).toNatClampNeg = 378 := by decide
      have lt := lp_tx (fb := fb) (d := d + 99) (h := pm_si (pm_si hr' 60 3 0) 60 378 (nI k)) (use := 1) (k := k) (x := 1) (by omega) (by omega) ((si_ne _ _ (by omega)).trans k2) ((si_ne _ _ (by omega)).trans k3) k 0 (by omega)
      rw [txR_0, nI_0, show 316 + 62 * 1 = 378 from rfl] at lt
      have V : ∀ x y, (txR (pm_si (pm_si hr' 60 3 0) 60 378 (nI k)) 378 k).1 x y = if x = 60 ∧ 379 ≤ y ∧ y < 379 + k then hr'.1 67 (y - 379) else if x = 60 ∧ y = 378 then nI k else if x = 60 ∧ y = 3 then 0 else hr'.1 x y := by
        intro x y
        rw [txR_at]
        by_cases q : x = 60 ∧ 378 + 1 ≤ y ∧ y < 378 + 1 + k
        · rw [if_pos q, if_pos (by omega), si_ne _ _ (by omega), si_ne _ _ (by omega)]
        · rw [if_neg q, if_neg (by omega), si_at, si_at]
      have W : ∀ x y, ¬ (x = 60 ∧ y = 3) → ¬ (x = 60 ∧ 378 ≤ y ∧ y < 378 + 61) → ¬ x = 67 → ¬ (x = 59 ∧ ¬ (y = 2 ∨ y = 20)) → (txR (pm_si (pm_si hr' 60 3 0) 60 378 (nI k)) 378 k).1 x y = H2.1 x y := by
        intro x y n1 n2 n3 n4
        rw [V, if_neg (by omega), if_neg (by omega), if_neg (by omega), fr x y (by omega) n3, hrT_at (by omega)]
      have U : ∀ x y, ¬ (x = 60 ∧ y = 3) → ¬ (x = 60 ∧ 378 ≤ y ∧ y < 378 + 61) → ¬ x = 67 → ¬ (x = 59 ∧ ¬ (y = 2 ∨ y = 20)) → ¬ x = 18 → ¬ x = 20 → ¬ x = 45 → ¬ x = 21 → ¬ x = 46 → ¬ (x = 6 ∧ y = 3) → ¬ x = 9 → ¬ x = 37 → (txR (pm_si (pm_si hr' 60 3 0) 60 378 (nI k)) 378 k).1 x y = h.1 x y := fun x y n1 n2 n3 n4 n5 n6 n7 n8 n9 n10 n11 n12 => (W x y n1 n2 n3 n4).trans (C2 x y n5 n6 n7 n8 n9 n10 n11 n12)
      have UU : ∀ x, ¬ x = 60 → ¬ x = 67 → ¬ x = 59 → ¬ x = 18 → ¬ x = 20 → ¬ x = 45 → ¬ x = 21 → ¬ x = 46 → ¬ x = 6 → ¬ x = 9 → ¬ x = 37 → (txR (pm_si (pm_si hr' 60 3 0) 60 378 (nI k)) 378 k).1 x = h.1 x := fun x n1 n2 n3 n4 n5 n6 n7 n8 n9 n10 n11 => funext fun y => U x y (by omega) (by omega) n2 (by omega) n4 n5 n6 n7 n8 (by omega) n10 n11
      have U60 : ∀ y, ¬ y = 3 → ¬ (378 ≤ y ∧ y < 378 + 61) → (txR (pm_si (pm_si hr' 60 3 0) 60 378 (nI k)) 378 k).1 60 y = h.1 60 y := fun y n1 n2 => U 60 y (by omega) (by omega) (by omega) (by omega) (by omega) (by omega) (by omega) (by omega) (by omega) (by omega) (by omega) (by omega)
      refine ⟨1, H2, txR (pm_si (pm_si hr' 60 3 0) 60 378 (nI k)) 378 k, ?_, ?_, ?_⟩
      · rw [en_X8_text]
        simp only [c20, c2i, c2n, c2r, cs8_0, cs8_1, cs8_2, cs8_3, cs8_4, decide_eq_true_eq, ev_ald0, ev_aldn0, ev_bin, ev_cs3, ev_cv1, ev_cv2, ev_go, ev_gr, ev_i, ev_if0, ev_ild1, ev_ild2, ev_ist2, ev_ri, ev_v, i00, i01, i10, is_sw, not_false_eq_true, not_true_eq_false, pm_bd_s, pm_tl_n, pm_tl_s, ↓reduceIte, pb_X8_text_0, pb_X8_text_1, pb_X8_text_2, pb_X8_text_3, pb_X8_text_4, kd_0, rf_0_0, rf_0_1, rf_0_2, rf_0_3, rf_0_4, rf_0_5, rf_0_6, rf_0_7, rf_0_8, is_8_0, kd_1, rf_1_0, rf_1_1, rf_1_2, rf_1_3, rf_1_4, rf_1_5, rf_1_6, is_5_1, kd_6, rf_6_2, fc_6_0, fc_6_1, is_6_3_6, is_3_6_6, kd_18, rf_18_0, rf_18_1, is_1_18, kd_20, rf_20_0, is_0_20, kd_9, rf_9_0, is_0_9, sp_isIn, bI_n0, q1, z10, sf, us, m1, sp_lawOf1, r3, not_true_eq_false, not_false_eq_true, if_true, if_false]
      · unfold hrT at r2
        rw [n1] at r2
        rw [en_X9_text]
        simp only [c20, c2i, c2n, c2r, cs8_0, cs8_1, cs8_2, cs8_3, cs8_4, decide_eq_true_eq, ev_ald0, ev_aldn0, ev_bin, ev_cs3, ev_cv0, ev_cv1, ev_gi, ev_go, ev_gr, ev_i, ev_ia, ev_ias, ev_if0, ev_if2, ev_ild1, ev_ild2, ev_inc2, ev_ist2, ev_pi, ev_pz, ev_ri, i00, i01, i10, not_false_eq_true, not_true_eq_false, pm_bd_s, pm_tl_n, pm_tl_s, ↓reduceIte, pb_X9_text_0, pb_X9_text_1, pb_X9_text_2, pb_X9_text_3, pb_X9_text_4, pb_X9_text_5, kd_59, rf_59_0, rf_59_1, rf_59_3, rf_59_4, rf_59_5, rf_59_6, rf_59_7, rf_59_12, rf_59_14, rf_59_15, rf_59_16, rf_59_19, rf_59_23, rf_59_24, rf_59_25, rf_59_26, is_9_59, kd_60, al_60, sr_isIn, bI_n0, q1, true_or, or_true, r2, y6, y2, ix3, cl3, hr3, an, i1, k1, k2, k3, eb, xb, cb, not_true_eq_false, if_true, if_false]
        exact lt
      · refine Inv_all hI (fun x h1 h2 h3 => UU x (fun t => h1 (by subst t; decide)) (fun t => h1 (by subst t; decide)) (by omega) (fun t => h1 (by subst t; decide)) (fun t => h1 (by subst t; decide)) (fun t => h1 (by subst t; decide)) (fun t => h1 (by subst t; decide)) (fun t => h1 (by subst t; decide)) (fun t => h1 (by subst t; decide)) (fun t => h1 (by subst t; decide)) (fun t => h1 (by subst t; decide))) (U 59 2 (by omega) (by omega) (by omega) (by omega) (by omega) (by omega) (by omega) (by omega) (by omega) (by omega) (by omega) (by omega)) ?_ ?_ ⟨⟨n, u, nt, 0, nw, RN0 _ (fun j hj hj3 => by rw [UU (3 + j) (by omega) (by omega) (by omega) (by omega) (by omega) (by omega) (by omega) (by omega) (by omega) (by omega) (by omega)]) (fun j hj hj3 => U60 j hj3 (by omega)) ?_ ?_⟩, ?_, ?_, ?_, ?_, ?_, ?_, ?_, ?_⟩
        · obtain ⟨v, v0, v1, v2, v3⟩ := hI.2.2.2.1
          refine ⟨v, v0, ?_, ?_, fun i hi => ?_⟩
          · rw [UU 22 (by omega) (by omega) (by omega) (by omega) (by omega) (by omega) (by omega) (by omega) (by omega) (by omega) (by omega)]; exact v1
          · rw [U 59 20 (by omega) (by omega) (by omega) (by omega) (by omega) (by omega) (by omega) (by omega) (by omega) (by omega) (by omega) (by omega)]; exact v2
          · rw [UU 47 (by omega) (by omega) (by omega) (by omega) (by omega) (by omega) (by omega) (by omega) (by omega) (by omega) (by omega), UU 71 (by omega) (by omega) (by omega) (by omega) (by omega) (by omega) (by omega) (by omega) (by omega) (by omega) (by omega)]; exact v3 i hi
        · have z := hI.2.2.2.2.2
          unfold R0 at z ⊢
          rw [UU 52 (by omega) (by omega) (by omega) (by omega) (by omega) (by omega) (by omega) (by omega) (by omega) (by omega) (by omega), UU 53 (by omega) (by omega) (by omega) (by omega) (by omega) (by omega) (by omega) (by omega) (by omega) (by omega) (by omega), UU 63 (by omega) (by omega) (by omega) (by omega) (by omega) (by omega) (by omega) (by omega) (by omega) (by omega) (by omega), UU 64 (by omega) (by omega) (by omega) (by omega) (by omega) (by omega) (by omega) (by omega) (by omega) (by omega) (by omega)]
          exact z
        · rw [W 6 3 (by omega) (by omega) (by omega) (by omega), f3 6 (by omega) (by omega), si_same]
        · rw [V, if_neg (by omega), if_neg (by omega), if_pos ⟨rfl, rfl⟩]
        · exact RZ_t iZ (by rw [UU 1 (by omega) (by omega) (by omega) (by omega) (by omega) (by omega) (by omega) (by omega) (by omega) (by omega) (by omega)]; exact ⟨rfl, rfl, rfl⟩) (fun j _ _ => U60 j (by omega) (by omega))
        · exact RM_t iM (UU _ (by omega) (by omega) (by omega) (by omega) (by omega) (by omega) (by omega) (by omega) (by omega) (by omega) (by omega)) (fun j _ _ => U60 j (by omega) (by omega))
        · exact RS_t iS (UU _ (by omega) (by omega) (by omega) (by omega) (by omega) (by omega) (by omega) (by omega) (by omega) (by omega) (by omega)) (fun j _ _ => U60 j (by omega) (by omega))
        · exact RT_t iT (UU _ (by omega) (by omega) (by omega) (by omega) (by omega) (by omega) (by omega) (by omega) (by omega) (by omega) (by omega)) (fun j _ _ => U60 j (by omega) (by omega))
        · exact RB_t iB (UU _ (by omega) (by omega) (by omega) (by omega) (by omega) (by omega) (by omega) (by omega) (by omega) (by omega) (by omega)) (fun j _ _ => U60 j (by omega) (by omega))
        · exact RW_t iW (UU _ (by omega) (by omega) (by omega) (by omega) (by omega) (by omega) (by omega) (by omega) (by omega) (by omega) (by omega)) (fun j _ _ => U60 j (by omega) (by omega))
        · exact RX_t iX (by rw [UU 8 (by omega) (by omega) (by omega) (by omega) (by omega) (by omega) (by omega) (by omega) (by omega) (by omega) (by omega)]) (UU _ (by omega) (by omega) (by omega) (by omega) (by omega) (by omega) (by omega) (by omega) (by omega) (by omega) (by omega)) (fun j _ _ => U60 j (by omega) (by omega))
        · refine ⟨k, by omega, ?_, ?_, fun i hi => ?_, Or.inr ?_⟩
          · show (txR (pm_si (pm_si hr' 60 3 0) 60 378 (nI k)) 378 k).1 9 1 = nI k
            rw [W 9 1 (by omega) (by omega) (by omega) (by omega), g3, si_ne _ _ (by omega)]; exact p7
          · rw [V, if_neg (by omega), if_pos ⟨rfl, rfl⟩]
          · show cod ((txR (pm_si (pm_si hr' 60 3 0) 60 378 (nI k)) 378 k).1 37 i) = _
            rw [W 37 i (by omega) (by omega) (by omega) (by omega), c3 i (by omega), si_ne _ _ (by omega), V, if_pos ⟨rfl, by omega, by omega⟩, show 378 + 1 + i - 379 = i by omega]
            exact y9 i hi
          · show dpF 4 ((txR (pm_si (pm_si hr' 60 3 0) 60 378 (nI k)) 378 k).1 37) k = some 1
            rw [dp_congr (q := hc.1 45) (fun i hi => by rw [W 37 i (by omega) (by omega) (by omega) (by omega), c3 i (by omega), si_ne _ _ (by omega)])]
            exact p10
    · exact FAIL a 0 p1 a2 p5 (Or.inl rfl) (fun t => q t.2) (fun hr' out => ⟨(inj hr' out).2.1, (inj hr' out).2.2.2.2.2.1⟩)
  · obtain ⟨a, k, z1, z2, z3, z4, z5, z6, z7⟩ := id Z
    exact FAIL a 1 z3 z1 z5 (Or.inr rfl) (fun t => absurd t.1 (by decide)) (fun hr' out => by
      rcases out with ⟨a', k', P', -, -, -⟩ | Z'
      · have := P'.2.2.2.2.1
        rw [z5] at this
        exact absurd this (by decide)
      · obtain ⟨a', k', y1, y2, y3, y4, y5, y6, y7⟩ := Z'
        have ea : a' = a := (nI_eq (by omega) (by omega)).mp (y3.symm.trans z3)
        subst ea
        exact ⟨y4, y6⟩)
theorem pr_text (hI : Inv h) (x : Int32) : Pr fb (d + 100) n_X8_text n_X9_text [.int x] h := by
  by_cases q1 : 0 ≤ x ∧ x ≤ 1
  · rcases b01 q1 with rfl | rfl
    · exact pr_text0 hI
    · exact pr_text1 hI
  · refine Pr_e (e := 1) (x := -1000000001) hI (by omega) (by omega) ?_ ?_
    · rw [en_X8_text]
      simp only [c20, c2i, c2n, c2r, cs8_0, cs8_1, cs8_2, cs8_3, cs8_4, decide_eq_true_eq, ev_ald0, ev_aldn0, ev_bin, ev_cs3, ev_cv1, ev_cv2, ev_go, ev_gr, ev_i, ev_if0, ev_ild1, ev_ild2, ev_ist2, ev_ri, ev_v, i00, i01, i10, is_sw, not_false_eq_true, not_true_eq_false, pm_bd_s, pm_tl_n, pm_tl_s, ↓reduceIte, pb_X8_text_0, kd_0, rf_0_0, rf_0_1, rf_0_2, rf_0_3, rf_0_4, rf_0_5, rf_0_6, rf_0_7, rf_0_8, is_8_0, sp_isIn, bI_n0, eq_false q1, fail_1, F1]
    · rw [en_X9_text]
      simp only [c20, c2i, c2n, c2r, cs8_0, cs8_1, cs8_2, cs8_3, cs8_4, decide_eq_true_eq, ev_ald0, ev_aldn0, ev_bin, ev_cs3, ev_cv0, ev_cv1, ev_gi, ev_go, ev_gr, ev_i, ev_ia, ev_ias, ev_if0, ev_if2, ev_ild1, ev_ild2, ev_inc2, ev_ist2, ev_pi, ev_pz, ev_ri, i00, i01, i10, not_false_eq_true, not_true_eq_false, pm_bd_s, pm_tl_n, pm_tl_s, ↓reduceIte, pb_X9_text_0, kd_59, rf_59_0, rf_59_1, rf_59_3, rf_59_4, rf_59_5, rf_59_6, rf_59_7, rf_59_12, rf_59_14, rf_59_15, rf_59_16, rf_59_19, rf_59_23, rf_59_24, rf_59_25, rf_59_26, is_9_59, sr_isIn, bI_n0, eq_false q1, find_1]
end TX
