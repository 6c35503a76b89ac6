/-! PAIRS OF CALLS: which -/
def offH (h : pm_HP) (s : Nat) : pm_HP := pm_si h 60 (128 + 5 * s + 4) 0
def whA (W : Nat → Int32) (on : Nat → Bool) : Nat → Nat → Int32 × Int32 → Int32 × Int32
  | _, 0, b => b
  | i, k + 1, b => whA W on (i + 1) k (if on i = true then (if b.1 = -1 ∨ W i < b.2 then (nI i, W i) else b) else b)
def whW (h : pm_HP) (n u s : Nat) : Int32 := ab32 (SDf (offH h s) u n - h.1 60 6) + ab32 (ALf (offH h s) u n - h.1 60 7)
def whO (h : pm_HP) (s : Nat) : Bool := decide (rl h 4 s = 1)
def whI (b : Int32) : Prop := b = -1 ∨ ∃ t, t < 8 ∧ b = nI t
theorem whA_i {W : Nat → Int32} {on : Nat → Bool} : ∀ (k i : Nat) (b : Int32 × Int32), i + k ≤ 8 → whI b.1 → whI (whA W on i k b).1
  | 0, _, _, _, hb => hb
  | k + 1, i, b, hi, hb => by
    rw [whA]
    refine whA_i k (i + 1) _ (by omega) ?_
    by_cases q : on i = true
    · rw [if_pos q]
      by_cases q2 : b.1 = -1 ∨ W i < b.2
      · rw [if_pos q2]; exact Or.inr ⟨i, by omega, rfl⟩
      · rw [if_neg q2]; exact hb
    · rw [if_neg q]; exact hb
theorem whI_neg {b : Int32} (hb : whI b) : (b < 0) = (b = -1) := by
  rcases hb with rfl | ⟨t, ht, rfl⟩
  · exact propext ⟨fun _ => rfl, fun _ => by decide⟩
  · refine propext ⟨fun c => absurd c (nI_pos (by omega)), fun c => ?_⟩
    have h1 := nI_pos (n := t) (by omega)
    rw [c] at h1 ⊢
    exact absurd (by decide) h1
section PS
variable {fb : Bool} {d : Nat} {h : pm_HP}
theorem off_rl {s s' c : Nat} (hc : c < 5) : rl (offH h s) c s' = if s' = s ∧ c = 4 then 0 else rl h c s' := by
  unfold rl offH
  rw [si_at]
  by_cases q : s' = s ∧ c = 4
  · rw [if_pos q, if_pos ⟨rfl, by omega⟩]
  · rw [if_neg q, if_neg (by omega)]
theorem off_rm {s i c : Nat} (hc : c < 5) (hi : i < 24) : rm (offH h s) c i = rm h c i := by
  unfold rm offH
  rw [si_ne _ _ (by omega)]
theorem off_on {s s' : Nat} (iS : RS h (31 + 1) 60) (hs : s < 8) (hs' : s' < 8) : onP h (nI s) s' = decide (rl (offH h s) 4 s' = 1) := by
  rw [off_rl (by omega)]
  unfold onP
  rw [eq_sl iS hs' (by omega)]
  by_cases q : s' = s
  · subst q
    rw [if_pos ⟨rfl, rfl⟩]
    simp
  · rw [if_neg (fun t => q t.1)]
    have e : ¬ nI s' = nI s := fun c => q ((nI_eq (by omega) (by omega)).mp c)
    simp [e]
theorem go_w {hA : pm_HP} {n u nt nb nw s : Nat} (hI : Inv h) (iN : RN h 3 60 n u nt nb nw) (hs : s < 8) (hf : frm wkC h hA) (h52 : hA.1 52 0 = 0) (h53 : hA.1 53 0 = 0) : ∃ h1, rs fb (d + 99) n_X7_go [.ref 17, .ref 1, .int (nI s)] hA = some (none, h1) ∧ frm wkC h h1 ∧ h1.1 17 7 = nI n ∧ h1.1 17 8 = h.1 60 6 ∧ h1.1 17 9 = h.1 60 7 ∧ ∀ j, j ≤ n → h1.1 52 j = SDf (offH h s) u j ∧ h1.1 53 j = ALf (offH h s) u j := by
  obtain ⟨-, iZ, iM, iS, iT, iB, iW, iX, iY⟩ := hI.1
  obtain ⟨h1, r, hf1, h7, h8, h9, k1, k2⟩ := sp_go (fb := fb) (d := d + 93) (wo := nI s) (h := hA) (n := n) (u := u) (by rw [hf.1 3 (by decide)]; exact iN.1.1) iN.1.2.2.2 (by rw [hf.1 4 (by decide)]; exact iN.2.1.1) iN.2.1.2.2 h52 h53
  have hn := iN.1.2.2.2
  have hu := iN.2.1.2.2
  rw [frm_mi hf (by decide), frm_cLe hf (by decide), frm_cPu hf (by decide) (by decide), frm_cSh hf (by decide) (by decide)] at k1
  have eM : ∀ i, i < n → ∀ c, c < 5 → mi h c i = rm (offH h s) c i := fun i hi c hc => by rw [off_rm hc (by omega)]; exact eq_mi iM (by omega) hc
  have R : ∀ c s', c < 4 → rl (offH h s) c s' = rl h c s' := fun c s' hc => by rw [off_rl (by omega), if_neg (by omega)]
  have eL : ∀ i, i < n → cLe h u (nI s) i = rLe (offH h s) u i := by
    intro i hi
    unfold cLe rLe
    refine smA_congr u 0 0 (fun s' _ h2 => ⟨off_on iS hs (by omega), ?_⟩)
    have hs' : s' < 8 := by omega
    rw [R 0 s' (by omega), R 1 s' (by omega), R 2 s' (by omega), R 3 s' (by omega), eq_sl iS hs' (c := 0) (by omega), eq_sl iS hs' (c := 1) (by omega), eq_sl iS hs' (c := 2) (by omega), eq_sl iS hs' (c := 3) (by omega)]
  have eP : ∀ i, i < n → cPu h u (nI s) i = rPu (offH h s) u i := by
    intro i hi
    unfold cPu rPu
    refine smA_congr u 0 0 (fun s' _ h2 => ⟨off_on iS hs (by omega), ?_⟩)
    have hs' : s' < 8 := by omega
    rw [R 0 s' (by omega), R 1 s' (by omega), R 2 s' (by omega), R 3 s' (by omega), eq_sl iS hs' (c := 0) (by omega), eq_sl iS hs' (c := 1) (by omega), eq_sl iS hs' (c := 2) (by omega), eq_sl iS hs' (c := 3) (by omega), eM i hi 2 (by omega)]
  have eS : ∀ i, i < n → cSh h u (nI s) i = rSh (offH h s) u i := by
    intro i hi
    unfold cSh rSh
    refine smA_congr u 0 0 (fun s' _ h2 => ⟨off_on iS hs (by omega), ?_⟩)
    have hs' : s' < 8 := by omega
    rw [R 0 s' (by omega), R 1 s' (by omega), R 2 s' (by omega), R 3 s' (by omega), eq_sl iS hs' (c := 0) (by omega), eq_sl iS hs' (c := 1) (by omega), eq_sl iS hs' (c := 2) (by omega), eq_sl iS hs' (c := 3) (by omega), eM i hi 1 (by omega)]
  refine ⟨h1, r, hf.tr hf1, h7, by rw [h8, hf.1 1 (by decide)]; exact iZ.2.1, by rw [h9, hf.1 1 (by decide)]; exact iZ.2.2, fun j hj => ?_⟩
  rw [(k1 j hj).1, (k1 j hj).2]
  exact ⟨sdF_congr eM eL eP j hj, alF_congr eM eS j hj⟩
theorem go_rw {h1 : pm_HP} {n u nt nb nw s : Nat} (iS : RS h (31 + 1) 60) (iN : RN h 3 60 n u nt nb nw) (hs : s < 8) (h60 : h1.1 60 = (offH h s).1 60) (h63 : h1.1 63 0 = 0) (h64 : h1.1 64 0 = 0) : ∃ h2, rs fb (d + 99) n_X9_goes [.ref 59] h1 = some (none, h2) ∧ frm [63, 64, 65] h1 h2 ∧ ∀ j, j ≤ n → h2.1 63 j = SDf (offH h s) u j ∧ h2.1 64 j = ALf (offH h s) u j := by
  have er : rm h1 = rm (offH h s) := by funext c i; unfold rm; rw [h60]
  have el : rl h1 = rl (offH h s) := by funext c i; unfold rl; rw [h60]
  have e1 : rLe h1 u = rLe (offH h s) u := by funext i; unfold rLe; rw [el]
  have e2 : rPu h1 u = rPu (offH h s) u := by funext i; unfold rPu; rw [el, er]
  have e3 : rSh h1 u = rSh (offH h s) u := by funext i; unfold rSh; rw [el, er]
  obtain ⟨h2, r, hf, k1, k2⟩ := sr_goes (fb := fb) (d := d + 95) (h := h1) (n := n) (u := u) iN.1.2.2.2 iN.2.1.2.2 (by
    rw [h60]
    show (pm_si h 60 (128 + 5 * s + 4) 0).1 60 1 = _
    rw [si_ne _ _ (by omega)]; exact iN.2.1.2.1) (by
    rw [h60]
    show (pm_si h 60 (128 + 5 * s + 4) 0).1 60 0 = _
    rw [si_ne _ _ (by omega)]; exact iN.1.2.1) (fun s' hs' => by
    rw [el, off_rl (by omega), off_rl (by omega), if_neg (by omega), if_neg (by omega)]
    exact (iS s' hs').2.2.2.1) h63 h64
  rw [er, e1, e2, e3] at k1
  exact ⟨h2, r, hf, k1⟩
set_option maxRecDepth 100000 in
theorem lp_whC {n u nt nb nw : Nat} {x : Int32} (hI : Inv h) (iN : RN h 3 60 n u nt nb nw) : ∀ (k i : Nat) (b : Int32 × Int32) (h' : pm_HP) (p : Option Value), i + k = u → frm wkC h h' → h'.1 52 0 = 0 → h'.1 53 0 = 0 → ∃ h'' p', frm wkC h h'' ∧ h''.1 52 0 = 0 ∧ h''.1 53 0 = 0 ∧ pm_ev P_X8_which (rs fb (d + 99)) (P_X8_which 2) [some (.ref 0), some (.int x), some (.int b.1), some (.int b.2), some (.int (nI i)), p] [] h' = pm_ev P_X8_which (rs fb (d + 99)) (P_X8_which 5) [some (.ref 0), some (.int x), some (.int (whA (whW h n u) (whO h) i k b).1), some (.int (whA (whW h n u) (whO h) i k b).2), some (.int (nI u)), p'] [] h'' := by
  have iS : RS h (31 + 1) 60 := hI.1.2.2.2.1
  have hn := iN.1.2.2.2
  have hu := iN.2.1.2.2
  intro k
  induction k with
  | zero =>
    intro i b h' p hi hf z1 z2
    obtain rfl : i = u := by omega
    have hu4 : h'.1 4 3 = nI i := by rw [hf.1 4 (by decide)]; exact iN.2.1.1
    have e1 : nI i ≤ nI i := Int32.le_refl _
    refine ⟨h', p, hf, z1, z2, ?_⟩
    rw [whA, pb_X8_which_2]
    simp only [c20, c2i, c2n, c2r, cs8_0, cs8_1, cs8_2, cs8_3, cs8_4, decide_eq_true_eq, ev_ald0, ev_aldn0, ev_cs3, ev_cv0, ev_cv1, ev_cv2, ev_go, ev_gr, ev_i, ev_if0, ev_if2, ev_ild1, ev_ild2, ev_ild3, ev_ild4, ev_ild5, ev_inc4, ev_ist2, ev_ist3, ev_ist4, ev_ist5, ev_ri, i00, i01, i10, not_false_eq_true, not_true_eq_false, pm_bd_s, pm_tl_n, pm_tl_s, ↓reduceIte, kd_0, rf_0_0, rf_0_1, rf_0_2, rf_0_3, rf_0_4, rf_0_5, rf_0_6, rf_0_7, rf_0_8, is_8_0, kd_1, rf_1_0, rf_1_1, rf_1_2, rf_1_3, rf_1_4, rf_1_5, rf_1_6, is_5_1, kd_4, rf_4_2, fc_4_0, fc_4_1, is_6_3_4, is_3_6_4, is_3_4, sp_used, hu4, e1, if_true]
  | succ k ih =>
    intro i b h' p hi hf z1 z2
    have hu4 : h'.1 4 3 = nI u := by rw [hf.1 4 (by decide)]; exact iN.2.1.1
    have e1 : ¬ nI u ≤ nI i := nI_ge (by omega) (by omega)
    have at4 := at_4_4 (fb := fb) (d := d + 97) (h := h') (s := i) (by omega)
    rw [show sl h' 4 i = rl h 4 i by rw [frm_sl hf (by decide)]; exact eq_sl iS (by omega) (by omega)] at at4
    rw [whA]
    by_cases q : rl h 4 i = 1
    · have eo : whO h i = true := by unfold whO; simp [q]
      obtain ⟨h1, r1, f1, w7, w8, w9, w5⟩ := go_w (fb := fb) (d := d) (hA := h') hI iN (show i < 8 by omega) hf z1 z2
      have wm := sp_wholeMiss (fb := fb) (d := d + 97) (h := h1) w7 hn
      rw [(w5 n (Nat.le_refl _)).1, (w5 n (Nat.le_refl _)).2, w8, w9] at wm
      have ew : ab32 (SDf (offH h i) u n - h.1 60 6) + ab32 (ALf (offH h i) u n - h.1 60 7) = whW h n u i := rfl
      rw [ew] at wm
      have z := w5 0 (by omega)
      by_cases q2 : b.1 = -1
      · obtain ⟨h2, p', g1, g2, g3, g5⟩ := ih (i + 1) (nI i, whW h n u i) h1 (some (.int (whW h n u i))) (by omega) f1 z.1 z.2
        refine ⟨h2, p', g1, g2, g3, ?_⟩
        rw [if_pos eo, if_pos (Or.inl q2), pb_X8_which_2]
        simp only [c20, c2i, c2n, c2r, cs8_0, cs8_1, cs8_2, cs8_3, cs8_4, decide_eq_true_eq, ev_ald0, ev_aldn0, ev_cs3, ev_cv0, ev_cv1, ev_cv2, ev_go, ev_gr, ev_i, ev_if0, ev_if2, ev_ild1, ev_ild2, ev_ild3, ev_ild4, ev_ild5, ev_inc4, ev_ist2, ev_ist3, ev_ist4, ev_ist5, ev_ri, i00, i01, i10, not_false_eq_true, not_true_eq_false, pm_bd_s, pm_tl_n, pm_tl_s, ↓reduceIte, pb_X8_which_3, pb_X8_which_4, kd_0, rf_0_0, rf_0_1, rf_0_2, rf_0_3, rf_0_4, rf_0_5, rf_0_6, rf_0_7, rf_0_8, is_8_0, kd_1, rf_1_0, rf_1_1, rf_1_2, rf_1_3, rf_1_4, rf_1_5, rf_1_6, is_5_1, kd_4, rf_4_2, fc_4_0, fc_4_1, is_6_3_4, is_3_6_4, is_3_4, kd_17, rf_17_0, rf_17_1, rf_17_2, rf_17_3, rf_17_4, rf_17_5, rf_17_6, is_7_17, sp_used, hu4, e1, at4, q, r1, wm, q2, nI_1, not_true_eq_false, if_true, if_false]
        exact g5
      · by_cases q3 : b.2 ≤ whW h n u i
        · obtain ⟨h2, p', g1, g2, g3, g5⟩ := ih (i + 1) b h1 (some (.int (whW h n u i))) (by omega) f1 z.1 z.2
          refine ⟨h2, p', g1, g2, g3, ?_⟩
          rw [if_pos eo, if_neg (fun t => t.elim q2 (Int32.not_lt.mpr q3)), pb_X8_which_2]
          simp only [c20, c2i, c2n, c2r, cs8_0, cs8_1, cs8_2, cs8_3, cs8_4, decide_eq_true_eq, ev_ald0, ev_aldn0, ev_cs3, ev_cv0, ev_cv1, ev_cv2, ev_go, ev_gr, ev_i, ev_if0, ev_if2, ev_ild1, ev_ild2, ev_ild3, ev_ild4, ev_ild5, ev_inc4, ev_ist2, ev_ist3, ev_ist4, ev_ist5, ev_ri, i00, i01, i10, not_false_eq_true, not_true_eq_false, pm_bd_s, pm_tl_n, pm_tl_s, ↓reduceIte, pb_X8_which_3, pb_X8_which_4, kd_0, rf_0_0, rf_0_1, rf_0_2, rf_0_3, rf_0_4, rf_0_5, rf_0_6, rf_0_7, rf_0_8, is_8_0, kd_1, rf_1_0, rf_1_1, rf_1_2, rf_1_3, rf_1_4, rf_1_5, rf_1_6, is_5_1, kd_4, rf_4_2, fc_4_0, fc_4_1, is_6_3_4, is_3_6_4, is_3_4, kd_17, rf_17_0, rf_17_1, rf_17_2, rf_17_3, rf_17_4, rf_17_5, rf_17_6, is_7_17, sp_used, hu4, e1, at4, q, r1, wm, q2, q3, nI_1, not_true_eq_false, if_true, if_false]
          exact g5
        · obtain ⟨h2, p', g1, g2, g3, g5⟩ := ih (i + 1) (nI i, whW h n u i) h1 (some (.int (whW h n u i))) (by omega) f1 z.1 z.2
          refine ⟨h2, p', g1, g2, g3, ?_⟩
          rw [if_pos eo, if_pos (Or.inr (Int32.not_le.mp q3)), pb_X8_which_2]
          simp only [c20, c2i, c2n, c2r, cs8_0, cs8_1, cs8_2, cs8_3, cs8_4, decide_eq_true_eq, ev_ald0, ev_aldn0, ev_cs3, ev_cv0, ev_cv1, ev_cv2, ev_go, ev_gr, ev_i, ev_if0, ev_if2, ev_ild1, ev_ild2, ev_ild3, ev_ild4, ev_ild5, ev_inc4, ev_ist2, ev_ist3, ev_ist4, ev_ist5, ev_ri, i00, i01, i10, not_false_eq_true, not_true_eq_false, pm_bd_s, pm_tl_n, pm_tl_s, ↓reduceIte, pb_X8_which_3, pb_X8_which_4, kd_0, rf_0_0, rf_0_1, rf_0_2, rf_0_3, rf_0_4, rf_0_5, rf_0_6, rf_0_7, rf_0_8, is_8_0, kd_1, rf_1_0, rf_1_1, rf_1_2, rf_1_3, rf_1_4, rf_1_5, rf_1_6, is_5_1, kd_4, rf_4_2, fc_4_0, fc_4_1, is_6_3_4, is_3_6_4, is_3_4, kd_17, rf_17_0, rf_17_1, rf_17_2, rf_17_3, rf_17_4, rf_17_5, rf_17_6, is_7_17, sp_used, hu4, e1, at4, q, r1, wm, q2, q3, nI_1, not_true_eq_false, if_true, if_false]
          exact g5
    · have eo : ¬ whO h i = true := by unfold whO; simp [q]
      obtain ⟨h2, p', g1, g2, g3, g5⟩ := ih (i + 1) b h' p (by omega) hf z1 z2
      refine ⟨h2, p', g1, g2, g3, ?_⟩
      rw [if_neg eo, pb_X8_which_2]
      simp only [c20, c2i, c2n, c2r, cs8_0, cs8_1, cs8_2, cs8_3, cs8_4, decide_eq_true_eq, ev_ald0, ev_aldn0, ev_cs3, ev_cv0, ev_cv1, ev_cv2, ev_go, ev_gr, ev_i, ev_if0, ev_if2, ev_ild1, ev_ild2, ev_ild3, ev_ild4, ev_ild5, ev_inc4, ev_ist2, ev_ist3, ev_ist4, ev_ist5, ev_ri, i00, i01, i10, not_false_eq_true, not_true_eq_false, pm_bd_s, pm_tl_n, pm_tl_s, ↓reduceIte, pb_X8_which_3, pb_X8_which_4, kd_0, rf_0_0, rf_0_1, rf_0_2, rf_0_3, rf_0_4, rf_0_5, rf_0_6, rf_0_7, rf_0_8, is_8_0, kd_1, rf_1_0, rf_1_1, rf_1_2, rf_1_3, rf_1_4, rf_1_5, rf_1_6, is_5_1, kd_4, rf_4_2, fc_4_0, fc_4_1, is_6_3_4, is_3_6_4, is_3_4, kd_17, rf_17_0, rf_17_1, rf_17_2, rf_17_3, rf_17_4, rf_17_5, rf_17_6, is_7_17, sp_used, hu4, e1, at4, q, nI_1, not_false_eq_true, if_true, if_false]
      exact g5
set_option maxRecDepth 100000 in
theorem lp_whR {h1 : pm_HP} {n u nt nb nw : Nat} {x : Int32} (iS : RS h (31 + 1) 60) (iN : RN h 3 60 n u nt nb nw) (h60 : h1.1 60 = h.1 60) : ∀ (k i : Nat) (b : Int32 × Int32) (h' : pm_HP), i + k = u → whI b.1 → frm [60, 63, 64, 65] h1 h' → h'.1 60 = h.1 60 → h'.1 63 0 = 0 → h'.1 64 0 = 0 → ∃ h'', frm [60, 63, 64, 65] h1 h'' ∧ h''.1 60 = h.1 60 ∧ h''.1 63 0 = 0 ∧ h''.1 64 0 = 0 ∧ pm_ev P_X9_which (rs fb (d + 99)) (P_X9_which 2) [some (.ref 59), some (.int x), some (.int b.1), some (.int b.2), some (.int (nI i))] [] h' = pm_ev P_X9_which (rs fb (d + 99)) (P_X9_which 5) [some (.ref 59), some (.int x), some (.int (whA (whW h n u) (whO h) i k b).1), some (.int (whA (whW h n u) (whO h) i k b).2), some (.int (nI u))] [] h'' := by
  have hn := iN.1.2.2.2
  have hu := iN.2.1.2.2
  have ix1 : pm_ix (1 : Int32) 440 = true := by decide
  have cl1 : (1 : Int32).toNatClampNeg = 1 := by decide
  intro k
  induction k with
  | zero =>
    intro i b h' hi hb hf z0 z1 z2
    obtain rfl : i = u := by omega
    have hu4 : h'.1 60 1 = nI i := by rw [z0]; exact iN.2.1.2.1
    have e1 : nI i ≤ nI i := Int32.le_refl _
    refine ⟨h', hf, z0, z1, z2, ?_⟩
    rw [whA, pb_X9_which_2]
    simp only [c20, c2i, c2n, c2r, cs8_0, cs8_1, cs8_2, cs8_3, cs8_4, decide_eq_true_eq, ev_ald0, ev_aldn0, ev_bin, ev_cs3, ev_cv0, ev_cv1, ev_cv2, ev_go, ev_gr, ev_i, ev_ia, ev_ias, ev_if0, ev_if2, ev_ild1, ev_ild2, ev_ild3, ev_ild4, ev_inc4, ev_ist2, ev_ist3, ev_ist4, ev_ri, i00, i01, i10, not_false_eq_true, not_true_eq_false, pm_bd_s, pm_tl_n, pm_tl_s, ↓reduceIte, kd_59, rf_59_0, rf_59_1, rf_59_3, rf_59_4, rf_59_5, rf_59_6, rf_59_7, rf_59_12, rf_59_14, rf_59_15, rf_59_16, rf_59_19, rf_59_23, rf_59_24, rf_59_25, rf_59_26, is_9_59, kd_60, al_60, ix1, cl1, hu4, e1, if_true]
  | succ k ih =>
    intro i b h' hi hb hf z0 z1 z2
    have hu4 : h'.1 60 1 = nI u := by rw [z0]; exact iN.2.1.2.1
    have e1 : ¬ nI u ≤ nI i := nI_ge (by omega) (by omega)
    have at4 := rl_4 (fb := fb) (d := d + 98) (h := h') (s := i) (by omega)
    have er : rl h' 4 i = rl h 4 i := by unfold rl; rw [z0]
    rw [er] at at4
    rw [whA]
    by_cases q : rl h 4 i = 1
    · have eo : whO h i = true := by unfold whO; simp [q]
      have e : (128 : Int32) + 5 * nI i + 4 = nI (128 + 5 * i + 4) := by
        show nI 128 + nI 5 * nI i + nI 4 = _
        rw [nI_mul, nI_add, nI_add]
      have x1 : pm_ix (nI (128 + 5 * i + 4)) 440 = true := pm_ix_n (by omega) (by omega)
      have c1 := nI_clamp (show 128 + 5 * i + 4 < 2 ^ 31 by omega)
      obtain ⟨h2, r2, f2, w2⟩ := go_rw (fb := fb) (d := d) (h := h) (h1 := pm_si h' 60 (128 + 5 * i + 4) 0) (n := n) (u := u) iS iN (show i < 8 by omega) (by
        funext t
        unfold offH
        rw [si_at, si_at, z0]) ((si_ne _ _ (by omega)).trans z1) ((si_ne _ _ (by omega)).trans z2)
      have y60 : (pm_si h2 60 (128 + 5 * i + 4) 1).1 60 = h.1 60 := by
        funext t
        rw [si_at, f2.1 60 (by decide), si_at, z0]
        by_cases c : t = 128 + 5 * i + 4
        · subst c
          rw [if_pos ⟨rfl, rfl⟩]
          exact q.symm
        · rw [if_neg (fun t => c t.2), if_neg (fun t => c t.2)]
      have g2 : frm [60, 63, 64, 65] h1 (pm_si h2 60 (128 + 5 * i + 4) 1) := ((hf.si (by decide)).tr (f2.sub (by decide))).si (by decide)
      have y63 : (pm_si h2 60 (128 + 5 * i + 4) 1).1 63 = h2.1 63 := by funext t; rw [si_ne _ _ (by omega)]
      have y64 : (pm_si h2 60 (128 + 5 * i + 4) 1).1 64 = h2.1 64 := by funext t; rw [si_ne _ _ (by omega)]
      have ms := sr_miss2 (fb := fb) (d := d + 98) (h := pm_si h2 60 (128 + 5 * i + 4) 1) (n := n) (by rw [y60]; exact iN.1.2.1) hn
      rw [y60, y63, y64, (w2 n (Nat.le_refl _)).1, (w2 n (Nat.le_refl _)).2] at ms
      have ew : ab32 (SDf (offH h i) u n - h.1 60 6) + ab32 (ALf (offH h i) u n - h.1 60 7) = whW h n u i := rfl
      rw [ew] at ms
      have z3 : (pm_si h2 60 (128 + 5 * i + 4) 1).1 63 0 = 0 := by rw [y63]; exact (w2 0 (by omega)).1
      have z4 : (pm_si h2 60 (128 + 5 * i + 4) 1).1 64 0 = 0 := by rw [y64]; exact (w2 0 (by omega)).2
      have wn := whI_neg hb
      by_cases q2 : b.1 = -1
      · obtain ⟨h3, t1, t2, t3, t4, t5⟩ := ih (i + 1) (nI i, whW h n u i) _ (by omega) (Or.inr ⟨i, by omega, rfl⟩) g2 y60 z3 z4
        refine ⟨h3, t1, t2, t3, t4, ?_⟩
        have q2' : b.1 < 0 := by rw [wn]; exact q2
        rw [if_pos eo, if_pos (Or.inl q2), pb_X9_which_2]
        simp only [c20, c2i, c2n, c2r, cs8_0, cs8_1, cs8_2, cs8_3, cs8_4, decide_eq_true_eq, ev_ald0, ev_aldn0, ev_bin, ev_cs3, ev_cv0, ev_cv1, ev_cv2, ev_go, ev_gr, ev_i, ev_ia, ev_ias, ev_if0, ev_if2, ev_ild1, ev_ild2, ev_ild3, ev_ild4, ev_inc4, ev_ist2, ev_ist3, ev_ist4, ev_ri, i00, i01, i10, not_false_eq_true, not_true_eq_false, pm_bd_s, pm_tl_n, pm_tl_s, ↓reduceIte, pb_X9_which_3, pb_X9_which_4, kd_59, rf_59_0, rf_59_1, rf_59_3, rf_59_4, rf_59_5, rf_59_6, rf_59_7, rf_59_12, rf_59_14, rf_59_15, rf_59_16, rf_59_19, rf_59_23, rf_59_24, rf_59_25, rf_59_26, is_9_59, kd_60, al_60, ix1, cl1, hu4, e1, at4, q, e, x1, c1, r2, ms, q2', nI_1, not_true_eq_false, if_true, if_false]
        exact t5
      · have q2' : ¬ b.1 < 0 := by rw [wn]; exact q2
        by_cases q3 : b.2 ≤ whW h n u i
        · obtain ⟨h3, t1, t2, t3, t4, t5⟩ := ih (i + 1) b _ (by omega) hb g2 y60 z3 z4
          refine ⟨h3, t1, t2, t3, t4, ?_⟩
          rw [if_pos eo, if_neg (fun t => t.elim q2 (Int32.not_lt.mpr q3)), pb_X9_which_2]
          simp only [c20, c2i, c2n, c2r, cs8_0, cs8_1, cs8_2, cs8_3, cs8_4, decide_eq_true_eq, ev_ald0, ev_aldn0, ev_bin, ev_cs3, ev_cv0, ev_cv1, ev_cv2, ev_go, ev_gr, ev_i, ev_ia, ev_ias, ev_if0, ev_if2, ev_ild1, ev_ild2, ev_ild3, ev_ild4, ev_inc4, ev_ist2, ev_ist3, ev_ist4, ev_ri, i00, i01, i10, not_false_eq_true, not_true_eq_false, pm_bd_s, pm_tl_n, pm_tl_s, ↓reduceIte, pb_X9_which_3, pb_X9_which_4, kd_59, rf_59_0, rf_59_1, rf_59_3, rf_59_4, rf_59_5, rf_59_6, rf_59_7, rf_59_12, rf_59_14, rf_59_15, rf_59_16, rf_59_19, rf_59_23, rf_59_24, rf_59_25, rf_59_26, is_9_59, kd_60, al_60, ix1, cl1, hu4, e1, at4, q, e, x1, c1, r2, ms, q2', q3, nI_1, not_true_eq_false, if_true, if_false]
          exact t5
        · obtain ⟨h3, t1, t2, t3, t4, t5⟩ := ih (i + 1) (nI i, whW h n u i) _ (by omega) (Or.inr ⟨i, by omega, rfl⟩) g2 y60 z3 z4
          refine ⟨h3, t1, t2, t3, t4, ?_⟩
          rw [if_pos eo, if_pos (Or.inr (Int32.not_le.mp q3)), pb_X9_which_2]
          simp only [c20, c2i, c2n, c2r, cs8_0, cs8_1, cs8_2, cs8_3, cs8_4, decide_eq_true_eq, ev_ald0, ev_aldn0, ev_bin, ev_cs3, ev_cv0, ev_cv1, ev_cv2, ev_go, ev_gr, ev_i, ev_ia, ev_ias, ev_if0, ev_if2, ev_ild1, ev_ild2, ev_ild3, ev_ild4, ev_inc4, ev_ist2, ev_ist3, ev_ist4, ev_ri, i00, i01, i10, not_false_eq_true, not_true_eq_false, pm_bd_s, pm_tl_n, pm_tl_s, ↓reduceIte, pb_X9_which_3, pb_X9_which_4, kd_59, rf_59_0, rf_59_1, rf_59_3, rf_59_4, rf_59_5, rf_59_6, rf_59_7, rf_59_12, rf_59_14, rf_59_15, rf_59_16, rf_59_19, rf_59_23, rf_59_24, rf_59_25, rf_59_26, is_9_59, kd_60, al_60, ix1, cl1, hu4, e1, at4, q, e, x1, c1, r2, ms, q2', q3, nI_1, not_true_eq_false, if_true, if_false]
          exact t5
    · have eo : ¬ whO h i = true := by unfold whO; simp [q]
      obtain ⟨h3, t1, t2, t3, t4, t5⟩ := ih (i + 1) b _ (by omega) hb hf z0 z1 z2
      refine ⟨h3, t1, t2, t3, t4, ?_⟩
      rw [if_neg eo, pb_X9_which_2]
      simp only [c20, c2i, c2n, c2r, cs8_0, cs8_1, cs8_2, cs8_3, cs8_4, decide_eq_true_eq, ev_ald0, ev_aldn0, ev_bin, ev_cs3, ev_cv0, ev_cv1, ev_cv2, ev_go, ev_gr, ev_i, ev_ia, ev_ias, ev_if0, ev_if2, ev_ild1, ev_ild2, ev_ild3, ev_ild4, ev_inc4, ev_ist2, ev_ist3, ev_ist4, ev_ri, i00, i01, i10, not_false_eq_true, not_true_eq_false, pm_bd_s, pm_tl_n, pm_tl_s, ↓reduceIte, pb_X9_which_3, pb_X9_which_4, kd_59, rf_59_0, rf_59_1, rf_59_3, rf_59_4, rf_59_5, rf_59_6, rf_59_7, rf_59_12, rf_59_14, rf_59_15, rf_59_16, rf_59_19, rf_59_23, rf_59_24, rf_59_25, rf_59_26, is_9_59, kd_60, al_60, ix1, cl1, hu4, e1, at4, q, nI_1, not_false_eq_true, if_true, if_false]
      exact t5
theorem pr_which (hI : Inv h) (x : Int32) : Pr fb (d + 100) n_X8_which n_X9_which [.int x] h := by
  obtain ⟨⟨n, u, nt, nb, nw, iN⟩, iZ, iM, iS, iT, iB, iW, iX, iY⟩ := id hI.1
  have hu := iN.2.1.2.2
  by_cases q1 : 0 ≤ x ∧ x ≤ 1
  · obtain ⟨hc, p, f1, z1, z2, e1⟩ := lp_whC (fb := fb) (d := d) (x := x) hI iN u 0 (-1, 0) h none (by omega) (frm.rf _ _) hI.2.2.2.2.2.1 hI.2.2.2.2.2.2.1
    have hb : whI ((-1 : Int32), (0 : Int32)).1 := Or.inl rfl
    have wi := whA_i (W := whW h n u) (on := whO h) u 0 (-1, 0) (by omega) hb
    have wn := whI_neg wi
    have c60 : hc.1 60 = h.1 60 := f1.1 60 (by decide)
    have c63 : hc.1 63 0 = 0 := by rw [f1.1 63 (by decide)]; exact hI.2.2.2.2.2.2.2.1
    have c64 : hc.1 64 0 = 0 := by rw [f1.1 64 (by decide)]; exact hI.2.2.2.2.2.2.2.2
    have Ic : Inv hc := Inv_frm hI f1 (by decide) ⟨z1, z2, c63, c64⟩
    have R : ∀ h1 : pm_HP, h1.1 60 = h.1 60 → h1.1 63 0 = 0 → h1.1 64 0 = 0 → ∃ h2, frm [60, 63, 64, 65] h1 h2 ∧ h2.1 60 = h.1 60 ∧ h2.1 63 0 = 0 ∧ h2.1 64 0 = 0 ∧ pm_ev P_X9_which (rs fb (d + 99)) (P_X9_which 2) [some (.ref 59), some (.int x), some (.int (-1)), some (.int 0), some (.int 0)] [] h1 = pm_ev P_X9_which (rs fb (d + 99)) (P_X9_which 5) [some (.ref 59), some (.int x), some (.int (whA (whW h n u) (whO h) 0 u (-1, 0)).1), some (.int (whA (whW h n u) (whO h) 0 u (-1, 0)).2), some (.int (nI u))] [] h2 := by
      intro h1 a1 a2 a3
      have e := lp_whR (fb := fb) (d := d) (h := h) (h1 := h1) (x := x) iS iN a1 u 0 (-1, 0) h1 (by omega) hb (frm.rf _ _) a1 a2 a3
      rw [nI_0] at e
      exact e
    rw [nI_0] at e1
    generalize whA (whW h n u) (whO h) 0 u (-1, 0) = b at e1 wi wn R
    by_cases q2 : b.1 = -1
    · have q2' : ¬ 0 ≤ b.1 := Int32.not_le.mpr (by rw [wn]; exact q2)
      obtain ⟨h2, f2, y60, y63, y64, e2⟩ := R (pm_si hc 28 2 (hc.1 28 2 + 1)) (by rw [← c60]; funext t; rw [si_ne _ _ (by omega)]) ((si_ne _ _ (by omega)).trans c63) ((si_ne _ _ (by omega)).trans c64)
      have IE := Inv_err (e := 2) Ic (by omega) (by omega)
      have e62 : h2.1 62 = (pm_si hc 28 2 (hc.1 28 2 + 1)).1 62 := f2.1 62 (by decide)
      refine ⟨-1000000002, pm_si hc 28 2 (hc.1 28 2 + 1), pm_si h2 62 2 (h2.1 62 2 + 1), ?_, ?_, ?_⟩
      · rw [en_X8_which]
        simp only [c20, c2i, c2n, c2r, cs8_0, cs8_1, cs8_2, cs8_3, cs8_4, decide_eq_true_eq, ev_ald0, ev_aldn0, ev_cs3, ev_cv0, ev_cv1, ev_cv2, ev_go, ev_gr, ev_i, ev_if0, ev_if2, ev_ild1, ev_ild2, ev_ild3, ev_ild4, ev_ild5, ev_inc4, ev_ist2, ev_ist3, ev_ist4, ev_ist5, ev_ri, i00, i01, i10, not_false_eq_true, not_true_eq_false, pm_bd_s, pm_tl_n, pm_tl_s, ↓reduceIte, pb_X8_which_0, pb_X8_which_1, kd_0, rf_0_0, rf_0_1, rf_0_2, rf_0_3, rf_0_4, rf_0_5, rf_0_6, rf_0_7, rf_0_8, is_8_0, sp_isIn, bI_n0, eq_true q1, if_true, if_false]
        rw [e1, pb_X8_which_5]
        simp only [c20, c2i, c2n, c2r, cs8_0, cs8_1, cs8_2, cs8_3, cs8_4, decide_eq_true_eq, ev_ald0, ev_aldn0, ev_cs3, ev_cv0, ev_cv1, ev_cv2, ev_go, ev_gr, ev_i, ev_if0, ev_if2, ev_ild1, ev_ild2, ev_ild3, ev_ild4, ev_ild5, ev_inc4, ev_ist2, ev_ist3, ev_ist4, ev_ist5, ev_ri, i00, i01, i10, not_false_eq_true, not_true_eq_false, pm_bd_s, pm_tl_n, pm_tl_s, ↓reduceIte, kd_0, rf_0_0, rf_0_1, rf_0_2, rf_0_3, rf_0_4, rf_0_5, rf_0_6, rf_0_7, rf_0_8, is_8_0, q2, not_true_eq_false, if_true, if_false, fail_2, F2]
      · rw [en_X9_which]
        simp only [c20, c2i, c2n, c2r, cs8_0, cs8_1, cs8_2, cs8_3, cs8_4, decide_eq_true_eq, ev_ald0, ev_aldn0, ev_bin, ev_cs3, ev_cv0, ev_cv1, ev_cv2, ev_go, ev_gr, ev_i, ev_ia, ev_ias, ev_if0, ev_if2, ev_ild1, ev_ild2, ev_ild3, ev_ild4, ev_inc4, ev_ist2, ev_ist3, ev_ist4, ev_ri, i00, i01, i10, not_false_eq_true, not_true_eq_false, pm_bd_s, pm_tl_n, pm_tl_s, ↓reduceIte, pb_X9_which_0, pb_X9_which_1, kd_59, rf_59_0, rf_59_1, rf_59_3, rf_59_4, rf_59_5, rf_59_6, rf_59_7, rf_59_12, rf_59_14, rf_59_15, rf_59_16, rf_59_19, rf_59_23, rf_59_24, rf_59_25, rf_59_26, is_9_59, sr_isIn, bI_n0, eq_true q1, if_true, if_false]
        rw [e2, pb_X9_which_5]
        simp only [c20, c2i, c2n, c2r, cs8_0, cs8_1, cs8_2, cs8_3, cs8_4, decide_eq_true_eq, ev_ald0, ev_aldn0, ev_bin, ev_cs3, ev_cv0, ev_cv1, ev_cv2, ev_go, ev_gr, ev_i, ev_ia, ev_ias, ev_if0, ev_if2, ev_ild1, ev_ild2, ev_ild3, ev_ild4, ev_inc4, ev_ist2, ev_ist3, ev_ist4, ev_ri, i00, i01, i10, not_false_eq_true, not_true_eq_false, pm_bd_s, pm_tl_n, pm_tl_s, ↓reduceIte, pb_X9_which_8, kd_59, rf_59_0, rf_59_1, rf_59_3, rf_59_4, rf_59_5, rf_59_6, rf_59_7, rf_59_12, rf_59_14, rf_59_15, rf_59_16, rf_59_19, rf_59_23, rf_59_24, rf_59_25, rf_59_26, is_9_59, q2', if_true, if_false, find_2]
      · refine Inv_frm (cs := [63, 64, 65]) IE ⟨fun a ha => ?_, f2.2⟩ (by decide) ⟨?_, ?_, ?_, ?_⟩
        · funext t
          rw [si_at, si_at, e62]
          by_cases c : a = 60
          · subst c
            rw [if_neg (by omega), if_neg (by omega), y60, si_ne _ _ (by omega), c60]
          · rw [f2.1 a (by simp at ha ⊢; omega)]
        · rw [si_ne _ _ (by omega), f2.1 52 (by decide), si_ne _ _ (by omega)]; exact z1
        · rw [si_ne _ _ (by omega), f2.1 53 (by decide), si_ne _ _ (by omega)]; exact z2
        · rw [si_ne _ _ (by omega)]; exact y63
        · rw [si_ne _ _ (by omega)]; exact y64
    · have q2' : 0 ≤ b.1 := Int32.not_lt.mp (by rw [wn]; exact q2)
      obtain ⟨h2, f2, y60, y63, y64, e2⟩ := R hc c60 c63 c64
      have I2 : Inv h2 := by
        refine Inv_frm (cs := [63, 64, 65]) Ic ⟨fun a ha => ?_, f2.2⟩ (by decide) ⟨?_, ?_, y63, y64⟩
        · by_cases c : a = 60
          · subst c
            rw [y60, c60]
          · exact f2.1 a (by simp at ha ⊢; omega)
        · rw [f2.1 52 (by decide)]; exact z1
        · rw [f2.1 53 (by decide)]; exact z2
      rcases b01 q1 with rfl | rfl
      · refine ⟨b.1, hc, h2, ?_, ?_, I2⟩
        · rw [en_X8_which]
          simp only [c20, c2i, c2n, c2r, cs8_0, cs8_1, cs8_2, cs8_3, cs8_4, decide_eq_true_eq, ev_ald0, ev_aldn0, ev_cs3, ev_cv0, ev_cv1, ev_cv2, ev_go, ev_gr, ev_i, ev_if0, ev_if2, ev_ild1, ev_ild2, ev_ild3, ev_ild4, ev_ild5, ev_inc4, ev_ist2, ev_ist3, ev_ist4, ev_ist5, ev_ri, i00, i01, i10, not_false_eq_true, not_true_eq_false, pm_bd_s, pm_tl_n, pm_tl_s, ↓reduceIte, pb_X8_which_0, pb_X8_which_1, kd_0, rf_0_0, rf_0_1, rf_0_2, rf_0_3, rf_0_4, rf_0_5, rf_0_6, rf_0_7, rf_0_8, is_8_0, sp_isIn, bI_n0, eq_true q1, if_true, if_false]
          rw [e1, pb_X8_which_5]
          simp only [c20, c2i, c2n, c2r, cs8_0, cs8_1, cs8_2, cs8_3, cs8_4, decide_eq_true_eq, ev_ald0, ev_aldn0, ev_cs3, ev_cv0, ev_cv1, ev_cv2, ev_go, ev_gr, ev_i, ev_if0, ev_if2, ev_ild1, ev_ild2, ev_ild3, ev_ild4, ev_ild5, ev_inc4, ev_ist2, ev_ist3, ev_ist4, ev_ist5, ev_ri, i00, i01, i10, not_false_eq_true, not_true_eq_false, pm_bd_s, pm_tl_n, pm_tl_s, ↓reduceIte, pb_X8_which_6, pb_X8_which_7, pb_X8_which_8, kd_0, rf_0_0, rf_0_1, rf_0_2, rf_0_3, rf_0_4, rf_0_5, rf_0_6, rf_0_7, rf_0_8, is_8_0, q2, not_true_eq_false, not_false_eq_true, if_true, if_false]
        · rw [en_X9_which]
          simp only [c20, c2i, c2n, c2r, cs8_0, cs8_1, cs8_2, cs8_3, cs8_4, decide_eq_true_eq, ev_ald0, ev_aldn0, ev_bin, ev_cs3, ev_cv0, ev_cv1, ev_cv2, ev_go, ev_gr, ev_i, ev_ia, ev_ias, ev_if0, ev_if2, ev_ild1, ev_ild2, ev_ild3, ev_ild4, ev_inc4, ev_ist2, ev_ist3, ev_ist4, ev_ri, i00, i01, i10, not_false_eq_true, not_true_eq_false, pm_bd_s, pm_tl_n, pm_tl_s, ↓reduceIte, pb_X9_which_0, pb_X9_which_1, kd_59, rf_59_0, rf_59_1, rf_59_3, rf_59_4, rf_59_5, rf_59_6, rf_59_7, rf_59_12, rf_59_14, rf_59_15, rf_59_16, rf_59_19, rf_59_23, rf_59_24, rf_59_25, rf_59_26, is_9_59, sr_isIn, bI_n0, eq_true q1, if_true, if_false]
          rw [e2, pb_X9_which_5]
          simp only [c20, c2i, c2n, c2r, cs8_0, cs8_1, cs8_2, cs8_3, cs8_4, decide_eq_true_eq, ev_ald0, ev_aldn0, ev_bin, ev_cs3, ev_cv0, ev_cv1, ev_cv2, ev_go, ev_gr, ev_i, ev_ia, ev_ias, ev_if0, ev_if2, ev_ild1, ev_ild2, ev_ild3, ev_ild4, ev_inc4, ev_ist2, ev_ist3, ev_ist4, ev_ri, i00, i01, i10, not_false_eq_true, not_true_eq_false, pm_bd_s, pm_tl_n, pm_tl_s, ↓reduceIte, pb_X9_which_6, pb_X9_which_7, pb_X9_which_8, kd_59, rf_59_0, rf_59_1, rf_59_3, rf_59_4, rf_59_5, rf_59_6, rf_59_7, rf_59_12, rf_59_14, rf_59_15, rf_59_16, rf_59_19, rf_59_23, rf_59_24, rf_59_25, rf_59_26, is_9_59, q2', not_true_eq_false, if_true, if_false]
      · have z10 : ((1 : Int32) = 0) = False := by decide
        refine ⟨b.2, hc, h2, ?_, ?_, I2⟩
        · rw [en_X8_which]
          simp only [c20, c2i, c2n, c2r, cs8_0, cs8_1, cs8_2, cs8_3, cs8_4, decide_eq_true_eq, ev_ald0, ev_aldn0, ev_cs3, ev_cv0, ev_cv1, ev_cv2, ev_go, ev_gr, ev_i, ev_if0, ev_if2, ev_ild1, ev_ild2, ev_ild3, ev_ild4, ev_ild5, ev_inc4, ev_ist2, ev_ist3, ev_ist4, ev_ist5, ev_ri, i00, i01, i10, not_false_eq_true, not_true_eq_false, pm_bd_s, pm_tl_n, pm_tl_s, ↓reduceIte, pb_X8_which_0, pb_X8_which_1, kd_0, rf_0_0, rf_0_1, rf_0_2, rf_0_3, rf_0_4, rf_0_5, rf_0_6, rf_0_7, rf_0_8, is_8_0, sp_isIn, bI_n0, eq_true q1, if_true, if_false]
          rw [e1, pb_X8_which_5]
          simp only [c20, c2i, c2n, c2r, cs8_0, cs8_1, cs8_2, cs8_3, cs8_4, decide_eq_true_eq, ev_ald0, ev_aldn0, ev_cs3, ev_cv0, ev_cv1, ev_cv2, ev_go, ev_gr, ev_i, ev_if0, ev_if2, ev_ild1, ev_ild2, ev_ild3, ev_ild4, ev_ild5, ev_inc4, ev_ist2, ev_ist3, ev_ist4, ev_ist5, ev_ri, i00, i01, i10, not_false_eq_true, not_true_eq_false, pm_bd_s, pm_tl_n, pm_tl_s, ↓reduceIte, pb_X8_which_6, pb_X8_which_7, pb_X8_which_8, kd_0, rf_0_0, rf_0_1, rf_0_2, rf_0_3, rf_0_4, rf_0_5, rf_0_6, rf_0_7, rf_0_8, is_8_0, q2, z10, not_true_eq_false, not_false_eq_true, if_true, if_false]
        · rw [en_X9_which]
          simp only [c20, c2i, c2n, c2r, cs8_0, cs8_1, cs8_2, cs8_3, cs8_4, decide_eq_true_eq, ev_ald0, ev_aldn0, ev_bin, ev_cs3, ev_cv0, ev_cv1, ev_cv2, ev_go, ev_gr, ev_i, ev_ia, ev_ias, ev_if0, ev_if2, ev_ild1, ev_ild2, ev_ild3, ev_ild4, ev_inc4, ev_ist2, ev_ist3, ev_ist4, ev_ri, i00, i01, i10, not_false_eq_true, not_true_eq_false, pm_bd_s, pm_tl_n, pm_tl_s, ↓reduceIte, pb_X9_which_0, pb_X9_which_1, kd_59, rf_59_0, rf_59_1, rf_59_3, rf_59_4, rf_59_5, rf_59_6, rf_59_7, rf_59_12, rf_59_14, rf_59_15, rf_59_16, rf_59_19, rf_59_23, rf_59_24, rf_59_25, rf_59_26, is_9_59, sr_isIn, bI_n0, eq_true q1, if_true, if_false]
          rw [e2, pb_X9_which_5]
          simp only [c20, c2i, c2n, c2r, cs8_0, cs8_1, cs8_2, cs8_3, cs8_4, decide_eq_true_eq, ev_ald0, ev_aldn0, ev_bin, ev_cs3, ev_cv0, ev_cv1, ev_cv2, ev_go, ev_gr, ev_i, ev_ia, ev_ias, ev_if0, ev_if2, ev_ild1, ev_ild2, ev_ild3, ev_ild4, ev_inc4, ev_ist2, ev_ist3, ev_ist4, ev_ri, i00, i01, i10, not_false_eq_true, not_true_eq_false, pm_bd_s, pm_tl_n, pm_tl_s, ↓reduceIte, pb_X9_which_6, pb_X9_which_7, pb_X9_which_8, kd_59, rf_59_0, rf_59_1, rf_59_3, rf_59_4, rf_59_5, rf_59_6, rf_59_7, rf_59_12, rf_59_14, rf_59_15, rf_59_16, rf_59_19, rf_59_23, rf_59_24, rf_59_25, rf_59_26, is_9_59, q2', z10, not_false_eq_true, if_true, if_false]
  · refine Pr_e (e := 1) (x := -1000000001) hI (by omega) (by omega) ?_ ?_
    · rw [en_X8_which]
      simp only [c20, c2i, c2n, c2r, cs8_0, cs8_1, cs8_2, cs8_3, cs8_4, decide_eq_true_eq, ev_ald0, ev_aldn0, ev_cs3, ev_cv0, ev_cv1, ev_cv2, ev_go, ev_gr, ev_i, ev_if0, ev_if2, ev_ild1, ev_ild2, ev_ild3, ev_ild4, ev_ild5, ev_inc4, ev_ist2, ev_ist3, ev_ist4, ev_ist5, ev_ri, i00, i01, i10, not_false_eq_true, not_true_eq_false, pm_bd_s, pm_tl_n, pm_tl_s, ↓reduceIte, pb_X8_which_0, kd_0, rf_0_0, rf_0_1, rf_0_2, rf_0_3, rf_0_4, rf_0_5, rf_0_6, rf_0_7, rf_0_8, is_8_0, sp_isIn, bI_n0, eq_false q1, fail_1, F1]
    · rw [en_X9_which]
      simp only [c20, c2i, c2n, c2r, cs8_0, cs8_1, cs8_2, cs8_3, cs8_4, decide_eq_true_eq, ev_ald0, ev_aldn0, ev_bin, ev_cs3, ev_cv0, ev_cv1, ev_cv2, ev_go, ev_gr, ev_i, ev_ia, ev_ias, ev_if0, ev_if2, ev_ild1, ev_ild2, ev_ild3, ev_ild4, ev_inc4, ev_ist2, ev_ist3, ev_ist4, ev_ri, i00, i01, i10, not_false_eq_true, not_true_eq_false, pm_bd_s, pm_tl_n, pm_tl_s, ↓reduceIte, pb_X9_which_0, kd_59, rf_59_0, rf_59_1, rf_59_3, rf_59_4, rf_59_5, rf_59_6, rf_59_7, rf_59_12, rf_59_14, rf_59_15, rf_59_16, rf_59_19, rf_59_23, rf_59_24, rf_59_25, rf_59_26, is_9_59, sr_isIn, bI_n0, eq_false q1, find_1]
end PS
