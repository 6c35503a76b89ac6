/-! PAIRS OF CALLS: feed -/
theorem bvS (v : BitVec 64) (s : Nat) (hs : s ≤ 56) : BitVec.signExtend 32 (v.sshiftRight s) &&& 255#32 = BitVec.signExtend 32 (v >>> s) &&& 255#32 := by
  apply BitVec.eq_of_getElem_eq
  intro j hj
  simp only [BitVec.getElem_and]
  by_cases c : j < 8
  · congr 1
    rw [BitVec.getElem_signExtend, BitVec.getElem_signExtend, dif_pos (show j < 64 by omega), dif_pos (show j < 64 by omega), BitVec.getElem_sshiftRight, BitVec.getElem_ushiftRight, dif_pos (show s + j < 64 by omega)]
    rw [BitVec.getLsbD_eq_getElem (by omega)]
  · have e : (255#32)[j] = false := by
      have : ∀ j, j < 32 → ¬ j < 8 → (255#32).getLsbD j = false := by decide
      rw [← BitVec.getLsbD_eq_getElem]
      exact this j hj c
    rw [e, Bool.and_false, Bool.and_false]
def fB (x : Int64) (s : Int32) : Int32 := ((x.toUInt64 >>> (s.toInt64.toUInt64 &&& Int64.toUInt64 63)).toInt64).toInt32 &&& 255
theorem fB_0 (x : Int64) (i : Nat) (hi : i < 8) : ((x >>> ((8 * Int32.ofNat i).toInt64 &&& 63)) &&& 255).toInt32 = fB x (8 * Int32.ofNat i) := by
  unfold fB
  apply Int32.toBitVec_inj.1
  rcases (show i = 0 ∨ i = 1 ∨ i = 2 ∨ i = 3 ∨ i = 4 ∨ i = 5 ∨ i = 6 ∨ i = 7 by omega) with rfl | rfl | rfl | rfl | rfl | rfl | rfl | rfl
  · rw [show ((8 : Int32) * Int32.ofNat 0).toInt64 &&& 63 = 0 by decide, show ((8 : Int32) * Int32.ofNat 0).toInt64.toUInt64 &&& Int64.toUInt64 63 = 0 by decide]
    simp
  · rw [show ((8 : Int32) * Int32.ofNat 1).toInt64 &&& 63 = 8 by decide, show ((8 : Int32) * Int32.ofNat 1).toInt64.toUInt64 &&& Int64.toUInt64 63 = 8 by decide]
    simpa using bvS x.toBitVec 8 (by omega)
  · rw [show ((8 : Int32) * Int32.ofNat 2).toInt64 &&& 63 = 16 by decide, show ((8 : Int32) * Int32.ofNat 2).toInt64.toUInt64 &&& Int64.toUInt64 63 = 16 by decide]
    simpa using bvS x.toBitVec 16 (by omega)
  · rw [show ((8 : Int32) * Int32.ofNat 3).toInt64 &&& 63 = 24 by decide, show ((8 : Int32) * Int32.ofNat 3).toInt64.toUInt64 &&& Int64.toUInt64 63 = 24 by decide]
    simpa using bvS x.toBitVec 24 (by omega)
  · rw [show ((8 : Int32) * Int32.ofNat 4).toInt64 &&& 63 = 32 by decide, show ((8 : Int32) * Int32.ofNat 4).toInt64.toUInt64 &&& Int64.toUInt64 63 = 32 by decide]
    simpa using bvS x.toBitVec 32 (by omega)
  · rw [show ((8 : Int32) * Int32.ofNat 5).toInt64 &&& 63 = 40 by decide, show ((8 : Int32) * Int32.ofNat 5).toInt64.toUInt64 &&& Int64.toUInt64 63 = 40 by decide]
    simpa using bvS x.toBitVec 40 (by omega)
  · rw [show ((8 : Int32) * Int32.ofNat 6).toInt64 &&& 63 = 48 by decide, show ((8 : Int32) * Int32.ofNat 6).toInt64.toUInt64 &&& Int64.toUInt64 63 = 48 by decide]
    simpa using bvS x.toBitVec 48 (by omega)
  · rw [show ((8 : Int32) * Int32.ofNat 7).toInt64 &&& 63 = 56 by decide, show ((8 : Int32) * Int32.ofNat 7).toInt64.toUInt64 &&& Int64.toUInt64 63 = 56 by decide]
    simpa using bvS x.toBitVec 56 (by omega)
theorem fB_1 (x : Int64) (s : Int32) : 0 ≤ fB x s ∧ fB x s ≤ 255 := by
  unfold fB
  generalize ((x.toUInt64 >>> (s.toInt64.toUInt64 &&& Int64.toUInt64 63)).toInt64).toInt32 = y
  have e : (y &&& 255).toBitVec.toNat ≤ 255 := by
    show (y.toBitVec &&& 255#32).toNat ≤ 255
    rw [BitVec.toNat_and]
    exact Nat.and_le_right
  have f : (y &&& 255).toInt = ((y &&& 255).toBitVec.toNat : Int) := by
    show (y &&& 255).toBitVec.toInt = _
    rw [BitVec.toInt_eq_toNat_cond]
    rw [if_pos (by omega)]
  constructor
  · rw [Int32.le_iff_toInt_le, f]; exact Int.natCast_nonneg _
  · rw [Int32.le_iff_toInt_le, f]
    show _ ≤ (255 : Int)
    omega
def fdC (h h' : pm_HP) (b : Nat) (f : Nat → Int32) (i : Nat) : Prop := frm [6, 34] h h' ∧ h'.1 6 3 = nI (b + i) ∧ ∀ j, h'.1 34 j = if b ≤ j ∧ j < b + i then f (j - b) else h.1 34 j
def fdR (h h' : pm_HP) (b : Nat) (f : Nat → Int32) (i : Nat) : Prop := frm [60] h h' ∧ h'.1 60 3 = nI (b + i) ∧ (∀ j, ¬ j = 3 → ¬ (232 ≤ j ∧ j < 292) → h'.1 60 j = h.1 60 j) ∧ ∀ j, j < 60 → h'.1 60 (232 + j) = if b ≤ j ∧ j < b + i then f (j - b) else h.1 60 (232 + j)
section PD
variable {fb : Bool} {d : Nat} {h : pm_HP}
set_option maxRecDepth 100000 in
theorem lp_fdC {x : Int64} {b c : Nat} (hc : c ≤ 8) (hb : b + c ≤ 60) : ∀ (m i : Nat) (h' : pm_HP), i + m = c → fdC h h' b (fun t => fB x (8 * nI t)) i → ∃ h1, pm_ev P_X8_feed (rs fb (d + 3)) (P_X8_feed 3) [some (.ref 0), some (.long x), none, some (.int (nI c)), some (.int (nI i))] [] h' = some (some (.int (nI (b + c))), h1) ∧ fdC h h1 b (fun t => fB x (8 * nI t)) c := by
  intro m
  induction m with
  | zero =>
    intro i h' hi g
    obtain rfl : i = c := by omega
    have e1 : nI i ≤ nI i := Int32.le_refl _
    refine ⟨h', ?_, g⟩
    rw [pb_X8_feed_3]
    simp only [c20, c2i, c2n, c2r, cs8_0, cs8_1, cs8_2, cs8_3, cs8_4, decide_eq_true_eq, ev_ald0, ev_aldn0, ev_bin, ev_cs3, ev_cv0, ev_cv1, ev_go, ev_gr, ev_i, ev_if0, ev_if2, ev_ild3, ev_ild4, ev_inc4, ev_ist4, ev_l2i, ev_lld1, ev_lsh, ev_pop_i, ev_pop_r, ev_ri, i00, i01, i10, is_sw, not_false_eq_true, not_true_eq_false, pm_bd_s, pm_tl_n, pm_tl_s, ↓reduceIte, pb_X8_feed_4, kd_0, rf_0_0, rf_0_1, rf_0_2, rf_0_3, rf_0_4, rf_0_5, rf_0_6, rf_0_7, rf_0_8, is_8_0, kd_1, rf_1_0, rf_1_1, rf_1_2, rf_1_3, rf_1_4, rf_1_5, rf_1_6, is_5_1, kd_6, rf_6_2, fc_6_0, fc_6_1, is_6_3_6, is_3_6_6, e1, sp_used, g.2.1]
  | succ m ih =>
    intro i h' hi g
    have e1 : ¬ nI c ≤ nI i := nI_ge (by omega) (by omega)
    have sa := sp_add (fb := fb) (d := d) (t := 6) (u := b + i) (v := fB x (8 * nI i)) (h := h') (by decide) g.2.1 (by show b + i < 60; omega)
    obtain ⟨h1, r, f⟩ := ih (i + 1) (pm_si (pm_si h' 6 3 (nI (b + i + 1))) 34 (b + i) (fB x (8 * nI i))) (by omega) ⟨(g.1.si (by decide)).si (by decide), by rw [si_ne _ _ (by omega), si_same]; rfl, fun j => by
      rw [si_at, si_ne _ _ (by omega), g.2.2]
      by_cases q : j = b + i
      · subst q
        rw [if_pos ⟨rfl, rfl⟩, if_pos ⟨by omega, by omega⟩, show b + i - b = i by omega]
      · rw [if_neg (by omega)]
        by_cases q2 : b ≤ j ∧ j < b + i
        · rw [if_pos q2, if_pos ⟨q2.1, by omega⟩]
        · rw [if_neg q2, if_neg (by omega)]⟩
    refine ⟨h1, ?_, f⟩
    unfold fB at sa r
    rw [pb_X8_feed_3]
    simp only [c20, c2i, c2n, c2r, cs8_0, cs8_1, cs8_2, cs8_3, cs8_4, decide_eq_true_eq, ev_ald0, ev_aldn0, ev_bin, ev_cs3, ev_cv0, ev_cv1, ev_go, ev_gr, ev_i, ev_if0, ev_if2, ev_ild3, ev_ild4, ev_inc4, ev_ist4, ev_l2i, ev_lld1, ev_lsh, ev_pop_i, ev_pop_r, ev_ri, i00, i01, i10, is_sw, not_false_eq_true, not_true_eq_false, pm_bd_s, pm_tl_n, pm_tl_s, ↓reduceIte, pb_X8_feed_4, kd_0, rf_0_0, rf_0_1, rf_0_2, rf_0_3, rf_0_4, rf_0_5, rf_0_6, rf_0_7, rf_0_8, is_8_0, kd_1, rf_1_0, rf_1_1, rf_1_2, rf_1_3, rf_1_4, rf_1_5, rf_1_6, is_5_1, kd_6, rf_6_2, fc_6_0, fc_6_1, is_6_3_6, is_3_6_6, e1, sa, nI_1]
    exact r
set_option maxRecDepth 100000 in
theorem lp_fdR {h0 : pm_HP} {x : Int64} {b c : Nat} (hc : c ≤ 8) (hb : b + c ≤ 60) : ∀ (m i : Nat) (h' : pm_HP), i + m = c → fdR h0 h' b (fun t => fB x (8 * nI t)) i → ∃ h1, pm_ev P_X9_feed (rs fb d) (P_X9_feed 3) [some (.ref 59), some (.long x), none, some (.int (nI c)), some (.int (nI i))] [] h' = some (some (.int (nI (b + c))), h1) ∧ fdR h0 h1 b (fun t => fB x (8 * nI t)) c := by
  have ix3 : pm_ix (3 : Int32) 440 = true := by decide
  have cl3 : (3 : Int32).toNatClampNeg = 3 := by decide
  intro m
  induction m with
  | zero =>
    intro i h' hi g
    obtain rfl : i = c := by omega
    have e1 : nI i ≤ nI i := Int32.le_refl _
    refine ⟨h', ?_, g⟩
    rw [pb_X9_feed_3]
    simp only [c20, c2i, c2n, c2r, cs8_0, cs8_1, cs8_2, cs8_3, cs8_4, decide_eq_true_eq, ev_ald0, ev_aldn0, ev_bin, ev_cs3, ev_cv1, ev_dup2_ii, ev_dup2_ir, ev_go, ev_gr, ev_i, ev_ia, ev_ias, ev_if0, ev_if2, ev_ild3, ev_ild4, ev_inc4, ev_ist4, ev_l, ev_l2i, ev_lbin, ev_lld1, ev_lsh, ev_ri, i00, i01, i10, not_false_eq_true, not_true_eq_false, pm_bd_s, pm_tl_n, pm_tl_s, ↓reduceIte, pb_X9_feed_4, kd_59, rf_59_0, rf_59_1, rf_59_3, rf_59_4, rf_59_5, rf_59_6, rf_59_7, rf_59_12, rf_59_14, rf_59_15, rf_59_16, rf_59_19, rf_59_23, rf_59_24, rf_59_25, rf_59_26, is_9_59, kd_60, al_60, ix3, cl3, e1, g.2.1]
  | succ m ih =>
    intro i h' hi g
    have e1 : ¬ nI c ≤ nI i := nI_ge (by omega) (by omega)
    have e2 : (232 : Int32) + nI (b + i) = nI (232 + (b + i)) := by
      show nI 232 + _ = _
      rw [nI_add]
    have xi : pm_ix (nI (232 + (b + i))) 440 = true := pm_ix_n (by omega) (by omega)
    have ci := nI_clamp (show 232 + (b + i) < 2 ^ 31 by omega)
    have fe := fB_0 x i (by omega)
    have e3 : ∀ v : Int32, (pm_si h' 60 (232 + (b + i)) v).1 60 3 = nI (b + i) := fun v => by rw [si_ne _ _ (by omega)]; exact g.2.1
    obtain ⟨h1, r, f⟩ := ih (i + 1) (pm_si (pm_si h' 60 (232 + (b + i)) (fB x (8 * nI i))) 60 3 (nI (b + i + 1))) (by omega) ⟨(g.1.si (by decide)).si (by decide), by rw [si_same]; rfl, fun j h1 h2 => by
      rw [si_ne _ _ (by omega), si_ne _ _ (by omega)]
      exact g.2.2.1 j h1 h2, fun j hj => by
      rw [si_ne _ _ (by omega), si_at, g.2.2.2 j hj]
      by_cases q : j = b + i
      · subst q
        rw [if_pos ⟨rfl, rfl⟩, if_pos ⟨by omega, by omega⟩, show b + i - b = i by omega]
      · rw [if_neg (by omega)]
        by_cases q2 : b ≤ j ∧ j < b + i
        · rw [if_pos q2, if_pos ⟨q2.1, by omega⟩]
        · rw [if_neg q2, if_neg (by omega)]⟩
    refine ⟨h1, ?_, f⟩
    have fe' : ((x >>> ((8 * nI i).toInt64 &&& 63)) &&& 255).toInt32 = fB x (8 * nI i) := fe
    rw [pb_X9_feed_3]
    simp only [c20, c2i, c2n, c2r, cs8_0, cs8_1, cs8_2, cs8_3, cs8_4, decide_eq_true_eq, ev_ald0, ev_aldn0, ev_bin, ev_cs3, ev_cv1, ev_dup2_ii, ev_dup2_ir, ev_go, ev_gr, ev_i, ev_ia, ev_ias, ev_if0, ev_if2, ev_ild3, ev_ild4, ev_inc4, ev_ist4, ev_l, ev_l2i, ev_lbin, ev_lld1, ev_lsh, ev_ri, i00, i01, i10, not_false_eq_true, not_true_eq_false, pm_bd_s, pm_tl_n, pm_tl_s, ↓reduceIte, pb_X9_feed_4, kd_59, rf_59_0, rf_59_1, rf_59_3, rf_59_4, rf_59_5, rf_59_6, rf_59_7, rf_59_12, rf_59_14, rf_59_15, rf_59_16, rf_59_19, rf_59_23, rf_59_24, rf_59_25, rf_59_26, is_9_59, kd_60, al_60, ix3, cl3, g.2.1, e1, e2, xi, ci, fe', e3, nI_1]
    exact r
theorem Inv_fd {h1 h2 : pm_HP} {n u nt b nw c : Nat} {f : Nat → Int32} (hI : Inv h) (iN : RN h 3 60 n u nt b nw) (hb : b + c ≤ 60) (hf : ∀ t, inB 0 255 (f t)) (g1 : fdC h h1 b f c) (g2 : fdR h1 h2 b f c) : Inv h2 := by
  obtain ⟨-, iZ, iM, iS, iT, iB, iW, iX, iY⟩ := hI.1
  have E : ∀ a, a ∉ [6, 34, 60] → h2.1 a = h.1 a := fun a ha => by
    simp only [List.mem_cons, List.not_mem_nil, or_false, not_or] at ha
    rw [g2.1.1 a (by simp [ha]), g1.1.1 a (by simp [ha])]
  have E60 : ∀ j, ¬ j = 3 → ¬ (232 ≤ j ∧ j < 292) → h2.1 60 j = h.1 60 j := fun j h1 h2 => by
    rw [g2.2.2.1 j h1 h2, g1.1.1 60 (by decide)]
  have z := hI.2.2.2.2.2
  refine Inv_now hI (fun a ha _ => E a (fun c => ha ?_)) ?_ ⟨⟨n, u, nt, b + c, nw, ?_⟩, ?_, ?_, ?_, ?_, ?_, ?_, ?_, ?_⟩
  · simp only [List.mem_cons, List.not_mem_nil, or_false] at c
    rcases c with rfl | rfl | rfl <;> decide
  · unfold R0
    rw [E 52 (by decide), E 53 (by decide), E 63 (by decide), E 64 (by decide)]
    exact z
  · unfold RN
    rw [E 3 (by decide), E (3 + 1) (by decide), E (3 + 2) (by decide), E (3 + 4) (by decide), E60 0 (by omega) (by omega), E60 1 (by omega) (by omega), E60 2 (by omega) (by omega), E60 4 (by omega) (by omega), g2.1.1 (3 + 3) (by decide)]
    exact ⟨iN.1, iN.2.1, iN.2.2.1, ⟨g1.2.1, g2.2.1, hb⟩, iN.2.2.2.2⟩
  · refine RZ_t iZ ⟨by rw [E 1 (by decide)], by rw [E 1 (by decide)], by rw [E 1 (by decide)]⟩ (fun j h1 h2 => E60 j (by omega) (by omega))
  · exact RM_t iM (E _ (by decide)) (fun j h1 h2 => E60 j (by omega) (by omega))
  · exact RS_t iS (E _ (by decide)) (fun j h1 h2 => E60 j (by omega) (by omega))
  · exact RT_t iT (E _ (by decide)) (fun j h1 h2 => E60 j (by omega) (by omega))
  · intro j hj
    rw [g2.2.2.2 j hj, g2.1.1 (31 + 3) (by decide), g1.2.2 j, g1.1.1 60 (by decide)]
    by_cases q : b ≤ j ∧ j < b + c
    · rw [if_pos q, if_pos q]
      exact ⟨rfl, hf _⟩
    · rw [if_neg q, if_neg q]
      exact iB j hj
  · exact RW_t iW (E _ (by decide)) (fun j h1 h2 => E60 j (by omega) (by omega))
  · exact RX_t iX (by rw [E _ (by decide)]) (E _ (by decide)) (fun j h1 h2 => E60 j (by omega) (by omega))
  · exact RX_t iY (by rw [E _ (by decide)]) (E _ (by decide)) (fun j h1 h2 => E60 j (by omega) (by omega))
theorem pr_feed (hI : Inv h) (x : Int64) (y : Int32) : Pr fb (d + 100) n_X8_feed n_X9_feed [.long x, .int y] h := by
  obtain ⟨⟨n, u, nt, b, nw, iN⟩, iZ, iM, iS, iT, iB, iW, iX, iY⟩ := id hI.1
  have ix3 : pm_ix (3 : Int32) 440 = true := by decide
  have cl3 : (3 : Int32).toNatClampNeg = 3 := by decide
  have h63 : h.1 6 3 = nI b := iN.2.2.2.1.1
  have h603 := iN.2.2.2.1.2.1
  have hb6 := iN.2.2.2.1.2.2
  by_cases q1 : 1 ≤ y ∧ y ≤ 8
  · obtain ⟨c, hc, rfl⟩ := nI_of2 (M := 8) (n := 8) (by decide) (Int32.not_lt.mpr (Int32.le_trans (by decide) q1.1)) q1.2
    have q1' := eq_true q1
    by_cases q2 : b + c ≤ 60
    · have e2 : nI (b + c) ≤ 60 := nI_le (b := 60) q2 (by omega)
      obtain ⟨h1, r1, g1⟩ := lp_fdC (fb := fb) (d := d + 96) (h := h) (x := x) (b := b) (c := c) hc q2 c 0 h (by omega) ⟨frm.rf _ _, h63, fun j => by rw [if_neg (by omega)]⟩
      obtain ⟨h2, r2, g2⟩ := lp_fdR (fb := fb) (d := d + 99) (h0 := h1) (x := x) (b := b) (c := c) hc q2 c 0 h1 (by omega) ⟨frm.rf _ _, by rw [g1.1.1 60 (by decide)]; exact h603, fun j _ _ => rfl, fun j _ => by rw [if_neg (by omega)]⟩
      have h13 : h1.1 60 3 = nI b := by rw [g1.1.1 60 (by decide)]; exact h603
      rw [nI_0] at r1 r2
      refine ⟨nI (b + c), h1, h2, ?_, ?_, Inv_fd hI iN q2 (fun t => fB_1 _ _) g1 g2⟩
      · rw [en_X8_feed]
        simp only [c20, c2i, c2n, c2r, cs8_0, cs8_1, cs8_2, cs8_3, cs8_4, decide_eq_true_eq, ev_ald0, ev_aldn0, ev_bin, ev_cs3, ev_cv0, ev_cv1, ev_go, ev_gr, ev_i, ev_if0, ev_if2, ev_ild3, ev_ild4, ev_inc4, ev_ist4, ev_l2i, ev_lld1, ev_lsh, ev_pop_i, ev_pop_r, ev_ri, i00, i01, i10, is_sw, not_false_eq_true, not_true_eq_false, pm_bd_s, pm_tl_n, pm_tl_s, ↓reduceIte, pb_X8_feed_0, pb_X8_feed_1, pb_X8_feed_2, kd_0, rf_0_0, rf_0_1, rf_0_2, rf_0_3, rf_0_4, rf_0_5, rf_0_6, rf_0_7, rf_0_8, is_8_0, kd_1, rf_1_0, rf_1_1, rf_1_2, rf_1_3, rf_1_4, rf_1_5, rf_1_6, is_5_1, kd_6, rf_6_2, fc_6_0, fc_6_1, is_6_3_6, is_3_6_6, sp_isIn, bI_n0, q1', sp_used, h63, nI_add, e2]
        exact r1
      · rw [en_X9_feed]
        simp only [c20, c2i, c2n, c2r, cs8_0, cs8_1, cs8_2, cs8_3, cs8_4, decide_eq_true_eq, ev_ald0, ev_aldn0, ev_bin, ev_cs3, ev_cv1, ev_dup2_ii, ev_dup2_ir, ev_go, ev_gr, ev_i, ev_ia, ev_ias, ev_if0, ev_if2, ev_ild3, ev_ild4, ev_inc4, ev_ist4, ev_l, ev_l2i, ev_lbin, ev_lld1, ev_lsh, ev_ri, i00, i01, i10, not_false_eq_true, not_true_eq_false, pm_bd_s, pm_tl_n, pm_tl_s, ↓reduceIte, pb_X9_feed_0, pb_X9_feed_1, pb_X9_feed_2, kd_59, rf_59_0, rf_59_1, rf_59_3, rf_59_4, rf_59_5, rf_59_6, rf_59_7, rf_59_12, rf_59_14, rf_59_15, rf_59_16, rf_59_19, rf_59_23, rf_59_24, rf_59_25, rf_59_26, is_9_59, kd_60, al_60, sr_isIn, bI_n0, q1', ix3, cl3, h13, nI_add, e2]
        exact r2
    · have e2 : ¬ nI (b + c) ≤ 60 := nI_ge (a := 60) (by omega) (by omega)
      refine Pr_e (e := 4) (x := -1000000004) hI (by omega) (by omega) ?_ ?_
      · rw [en_X8_feed]
        simp only [c20, c2i, c2n, c2r, cs8_0, cs8_1, cs8_2, cs8_3, cs8_4, decide_eq_true_eq, ev_ald0, ev_aldn0, ev_bin, ev_cs3, ev_cv0, ev_cv1, ev_go, ev_gr, ev_i, ev_if0, ev_if2, ev_ild3, ev_ild4, ev_inc4, ev_ist4, ev_l2i, ev_lld1, ev_lsh, ev_pop_i, ev_pop_r, ev_ri, i00, i01, i10, is_sw, not_false_eq_true, not_true_eq_false, pm_bd_s, pm_tl_n, pm_tl_s, ↓reduceIte, pb_X8_feed_0, pb_X8_feed_1, pb_X8_feed_2, kd_0, rf_0_0, rf_0_1, rf_0_2, rf_0_3, rf_0_4, rf_0_5, rf_0_6, rf_0_7, rf_0_8, is_8_0, kd_1, rf_1_0, rf_1_1, rf_1_2, rf_1_3, rf_1_4, rf_1_5, rf_1_6, is_5_1, kd_6, rf_6_2, fc_6_0, fc_6_1, is_6_3_6, is_3_6_6, sp_isIn, bI_n0, q1', sp_used, h63, nI_add, e2, fail_4, F4]
      · have h13 : (pm_si h 28 4 (h.1 28 4 + 1)).1 60 3 = nI b := h603
        rw [en_X9_feed]
        simp only [c20, c2i, c2n, c2r, cs8_0, cs8_1, cs8_2, cs8_3, cs8_4, decide_eq_true_eq, ev_ald0, ev_aldn0, ev_bin, ev_cs3, ev_cv1, ev_dup2_ii, ev_dup2_ir, ev_go, ev_gr, ev_i, ev_ia, ev_ias, ev_if0, ev_if2, ev_ild3, ev_ild4, ev_inc4, ev_ist4, ev_l, ev_l2i, ev_lbin, ev_lld1, ev_lsh, ev_ri, i00, i01, i10, not_false_eq_true, not_true_eq_false, pm_bd_s, pm_tl_n, pm_tl_s, ↓reduceIte, pb_X9_feed_0, pb_X9_feed_1, pb_X9_feed_2, kd_59, rf_59_0, rf_59_1, rf_59_3, rf_59_4, rf_59_5, rf_59_6, rf_59_7, rf_59_12, rf_59_14, rf_59_15, rf_59_16, rf_59_19, rf_59_23, rf_59_24, rf_59_25, rf_59_26, is_9_59, kd_60, al_60, sr_isIn, bI_n0, q1', ix3, cl3, h13, nI_add, e2, find_4]
  · refine Pr_e (e := 1) (x := -1000000001) hI (by omega) (by omega) ?_ ?_
    · rw [en_X8_feed]
      simp only [c20, c2i, c2n, c2r, cs8_0, cs8_1, cs8_2, cs8_3, cs8_4, decide_eq_true_eq, ev_ald0, ev_aldn0, ev_bin, ev_cs3, ev_cv0, ev_cv1, ev_go, ev_gr, ev_i, ev_if0, ev_if2, ev_ild3, ev_ild4, ev_inc4, ev_ist4, ev_l2i, ev_lld1, ev_lsh, ev_pop_i, ev_pop_r, ev_ri, i00, i01, i10, is_sw, not_false_eq_true, not_true_eq_false, pm_bd_s, pm_tl_n, pm_tl_s, ↓reduceIte, pb_X8_feed_0, kd_0, rf_0_0, rf_0_1, rf_0_2, rf_0_3, rf_0_4, rf_0_5, rf_0_6, rf_0_7, rf_0_8, is_8_0, sp_isIn, bI_n0, eq_false q1, fail_1, F1]
    · rw [en_X9_feed]
      simp only [c20, c2i, c2n, c2r, cs8_0, cs8_1, cs8_2, cs8_3, cs8_4, decide_eq_true_eq, ev_ald0, ev_aldn0, ev_bin, ev_cs3, ev_cv1, ev_dup2_ii, ev_dup2_ir, ev_go, ev_gr, ev_i, ev_ia, ev_ias, ev_if0, ev_if2, ev_ild3, ev_ild4, ev_inc4, ev_ist4, ev_l, ev_l2i, ev_lbin, ev_lld1, ev_lsh, ev_ri, i00, i01, i10, not_false_eq_true, not_true_eq_false, pm_bd_s, pm_tl_n, pm_tl_s, ↓reduceIte, pb_X9_feed_0, kd_59, rf_59_0, rf_59_1, rf_59_3, rf_59_4, rf_59_5, rf_59_6, rf_59_7, rf_59_12, rf_59_14, rf_59_15, rf_59_16, rf_59_19, rf_59_23, rf_59_24, rf_59_25, rf_59_26, is_9_59, sr_isIn, bI_n0, eq_false q1, find_1]
end PD
