/-! PAIRS OF CALLS: straight, offIt -/
/-- a pair of calls that answers a long alike -/
def PrL (fb : Bool) (d y y' : Nat) (as : List Value) (h : pm_HP) : Prop := ∃ (x : Int64) (h1 h2 : pm_HP), rs fb d y (.ref 0 :: as) h = some (some (.long x), h1) ∧ rs fb d y' (.ref 59 :: as) h1 = some (some (.long x), h2) ∧ Inv h2
theorem Inv_1 {h h' : pm_HP} (hI : Inv h) (e : h'.1 = h.1) : Inv h' := by
  obtain ⟨a, b⟩ := h
  obtain ⟨a', b'⟩ := h'
  obtain rfl : a' = a := e
  exact hI
def slF (h : pm_HP) (A B : Int64) : pm_HP := (h.1, fun a b => if a = 59 ∧ b = 18 then B else if a = 59 ∧ b = 17 then A else h.2 a b)
theorem slF_17 (h : pm_HP) (A B : Int64) : (slF h A B).2 59 17 = A := by
  show (if 59 = 59 ∧ 17 = 18 then B else if 59 = 59 ∧ 17 = 17 then A else h.2 59 17) = A
  rw [if_neg (by omega), if_pos ⟨rfl, rfl⟩]
theorem slF_18 (h : pm_HP) (A B : Int64) : (slF h A B).2 59 18 = B := by
  show (if 59 = 59 ∧ 18 = 18 then B else if 59 = 59 ∧ 18 = 17 then A else h.2 59 18) = B
  rw [if_pos ⟨rfl, rfl⟩]
theorem slF_s17 (h : pm_HP) (A B A' : Int64) : pm_sl (slF h A B) 59 17 A' = slF h A' B := by
  unfold slF pm_sl
  congr 1
  funext a b
  dsimp only
  by_cases q : a = 59 ∧ b = 17
  · rw [if_pos q, if_neg (by omega), if_pos q]
  · rw [if_neg q]
    by_cases q2 : a = 59 ∧ b = 18
    · rw [if_pos q2, if_pos q2]
    · rw [if_neg q2, if_neg q2, if_neg q, if_neg q]
theorem slF_s18 (h : pm_HP) (A B B' : Int64) : pm_sl (slF h A B) 59 18 B' = slF h A B' := by
  unfold slF pm_sl
  congr 1
  funext a b
  dsimp only
  by_cases q : a = 59 ∧ b = 18
  · rw [if_pos q, if_pos q]
  · rw [if_neg q, if_neg q, if_neg q]
theorem slF_0 (h : pm_HP) : pm_sl (pm_sl h 59 17 0) 59 18 0 = slF h 0 0 := rfl
theorem slF_1 (h : pm_HP) (A B : Int64) : (slF h A B).1 = h.1 := rfl
theorem bl_div {x y : Int64} {M : Nat} (hx : bl x M) (h : M < 2 ^ 63) : bl (x / y) M := by
  have e := tl_div (y := y) hx h
  unfold bl at *
  rw [e]
  have := Int.natAbs_tdiv_le_natAbs x.toInt y.toInt
  omega
section PU
variable {fb : Bool} {d : Nat} {h : pm_HP}
set_option maxRecDepth 100000 in
theorem lp_find {n : Nat} {S : Nat → Int32} (hn0 : h.1 60 0 = nI n) (hn : n ≤ 24) (hS : ∀ j, j ≤ n → h.1 63 j = S j) : ∀ (k i : Nat) (A B : Int64) (p : Option Value), i + k = n + 1 → pm_ev P_X9_findStraight (rs fb d) (P_X9_findStraight 1) [some (.ref 59), some (.int (nI i)), p] [] (slF h A B) = pm_ev P_X9_findStraight (rs fb d) (P_X9_findStraight 2) [some (.ref 59), some (.int (nI (n + 1))), p] [] (slF h (lsA (fun j => (nI j).toInt64 * (S j).toInt64) i k A) (lsA (fun j => (nI j).toInt64 * (nI j).toInt64) i k B)) := by
  have ix0 : pm_ix (0 : Int32) 440 = true := by decide
  have cl0 : (0 : Int32).toNatClampNeg = 0 := by decide
  intro k
  induction k with
  | zero =>
    intro i A B p hi
    obtain rfl : i = n + 1 := by omega
    have e1 : nI n < nI (n + 1) := nI_lt (by omega) (by omega)
    rw [pb_X9_findStraight_1, lsA, lsA]
    simp only [c20, c2i, c2n, c2r, cs8_0, cs8_1, cs8_2, cs8_3, cs8_4, decide_eq_true_eq, ev_ald0, ev_aldn0, ev_cs2, ev_cv0, ev_dup_i, ev_dup_r, ev_gl, ev_go, ev_gr, ev_i, ev_i2l, ev_ia, ev_if2, ev_ild1, ev_inc1, ev_ist1, ev_l, ev_lbin, ev_ldv, ev_lld1, ev_lst1, ev_ml, ev_pl, ev_rv, i00, i01, i10, not_false_eq_true, not_true_eq_false, pm_bd_s, pm_tl_n, pm_tl_s, ↓reduceIte, kd_59, rf_59_0, rf_59_1, rf_59_3, rf_59_4, rf_59_5, rf_59_6, rf_59_7, rf_59_12, rf_59_14, rf_59_15, rf_59_16, rf_59_19, rf_59_23, rf_59_24, rf_59_25, rf_59_26, is_9_59, kd_60, al_60, slF_1, ix0, cl0, hn0, e1, if_true]
  | succ k ih =>
    intro i A B p hi
    have e1 : ¬ nI n < nI i := nI_nlt (by omega) (by omega)
    have x1 : pm_ix (nI i) 25 = true := pm_ix_n (by omega) (by omega)
    have c1 := nI_clamp (show i < 2 ^ 31 by omega)
    have s1 := hS i (by omega)
    rw [pb_X9_findStraight_1, lsA, lsA]
    simp only [c20, c2i, c2n, c2r, cs8_0, cs8_1, cs8_2, cs8_3, cs8_4, decide_eq_true_eq, ev_ald0, ev_aldn0, ev_cs2, ev_cv0, ev_dup_i, ev_dup_r, ev_gl, ev_go, ev_gr, ev_i, ev_i2l, ev_ia, ev_if2, ev_ild1, ev_inc1, ev_ist1, ev_l, ev_lbin, ev_ldv, ev_lld1, ev_lst1, ev_ml, ev_pl, ev_rv, i00, i01, i10, not_false_eq_true, not_true_eq_false, pm_bd_s, pm_tl_n, pm_tl_s, ↓reduceIte, kd_59, rf_59_0, rf_59_1, rf_59_3, rf_59_4, rf_59_5, rf_59_6, rf_59_7, rf_59_12, rf_59_14, rf_59_15, rf_59_16, rf_59_19, rf_59_23, rf_59_24, rf_59_25, rf_59_26, is_9_59, kd_60, al_60, kd_63, al_63, slF_1, slF_17, slF_18, slF_s17, slF_s18, ix0, cl0, hn0, e1, x1, c1, s1, nI_1, if_false, if_true]
    exact ih (i + 1) _ _ p (by omega)
theorem sr_find {h1 : pm_HP} {n u nt nb nw : Nat} (hI : Inv h) (iN : RN h 3 60 n u nt nb nw) (h60 : h1.1 60 = h.1 60) (h63 : h1.1 63 0 = 0) (h64 : h1.1 64 0 = 0) : ∃ h2, Gr h h1 h2 n u ∧ rs fb (d + 100) n_X9_findStraight [.ref 59] h1 = some (none, slF h2 (SA h n u / lN (SG h n u)) (lN (sqN 1 n 0) / lN (SG h n u))) := by
  obtain ⟨-, iZ, iM, iS, iT, iB, iW, iX, iY⟩ := id hI.1
  have hn := iN.1.2.2.2
  obtain ⟨h2, r2, g2⟩ := go_r (fb := fb) (d := d) (h1 := h1) hI iN h60 h63 h64
  obtain ⟨b1, b2⟩ := sq_b n hn iN.1.2.2.1
  have ba := SA_b iS iM (n := n) iN.2.1.2.2 hn
  have eA : (if 0 < SA h n u then SA h n u else -SA h n u) = lN (SA h n u).toInt.natAbs := ab_lN ba (by omega)
  have eB : lsA (fun j => (nI j).toInt64 * (nI j).toInt64) 1 n 0 = lN (sqN 1 n 0) := ls_sq n 1 0 (by omega)
  have eS : lsA (fun j => (nI j).toInt64 * (SDf h u j).toInt64) 1 n 0 = SA h n u := rfl
  have hn0 : h2.1 60 0 = nI n := by rw [g2.1.1 60 (by decide), h60]; exact iN.1.2.1
  have lf := lp_find (fb := fb) (d := d + 99) (h := h2) (S := SDf h u) hn0 hn (fun j hj => (g2.2.1 j hj).1) n 1 0 0 none (by omega)
  rw [eB, eS] at lf
  have dv := sr_divisor (fb := fb) (h := slF h2 (SA h n u) (lN (sqN 1 n 0))) 29 (d + 99) (sqN 1 n 0) (SA h n u).toInt.natAbs (by unfold bl at ba; omega) (by omega) (by omega) (by unfold bl at ba; omega)
  have eg : Nat.gcd (sqN 1 n 0) (SA h n u).toInt.natAbs = SG h n u := rfl
  rw [eg] at dv
  have gp : 1 ≤ SG h n u := Nat.gcd_pos_of_pos_left _ (by omega)
  have gl : SG h n u ≤ sqN 1 n 0 := Nat.gcd_le_left _ (by omega)
  have nz : (lN (SG h n u) = 0) = False := by rw [lN_z (by omega)]; exact eq_false (by omega)
  refine ⟨h2, g2, ?_⟩
  rw [en_X9_findStraight]
  simp only [c20, c2i, c2n, c2r, cs8_0, cs8_1, cs8_2, cs8_3, cs8_4, decide_eq_true_eq, ev_ald0, ev_aldn0, ev_cs2, ev_cv0, ev_dup_i, ev_dup_r, ev_gl, ev_go, ev_gr, ev_i, ev_i2l, ev_ia, ev_if2, ev_ild1, ev_inc1, ev_ist1, ev_l, ev_lbin, ev_ldv, ev_lld1, ev_lst1, ev_ml, ev_pl, ev_rv, i00, i01, i10, not_false_eq_true, not_true_eq_false, pm_bd_s, pm_tl_n, pm_tl_s, ↓reduceIte, pb_X9_findStraight_0, kd_59, rf_59_0, rf_59_1, rf_59_3, rf_59_4, rf_59_5, rf_59_6, rf_59_7, rf_59_12, rf_59_14, rf_59_15, rf_59_16, rf_59_19, rf_59_23, rf_59_24, rf_59_25, rf_59_26, is_9_59, r2, slF_0]
  rw [show (1 : Int32) = nI 1 from rfl, lf, pb_X9_findStraight_2]
  simp only [c20, c2i, c2n, c2r, cs8_0, cs8_1, cs8_2, cs8_3, cs8_4, decide_eq_true_eq, ev_ald0, ev_aldn0, ev_cs2, ev_cv0, ev_dup_i, ev_dup_r, ev_gl, ev_go, ev_gr, ev_i, ev_i2l, ev_ia, ev_if2, ev_ild1, ev_inc1, ev_ist1, ev_l, ev_lbin, ev_ldv, ev_lld1, ev_lst1, ev_ml, ev_pl, ev_rv, i00, i01, i10, not_false_eq_true, not_true_eq_false, pm_bd_s, pm_tl_n, pm_tl_s, ↓reduceIte, kd_59, rf_59_0, rf_59_1, rf_59_3, rf_59_4, rf_59_5, rf_59_6, rf_59_7, rf_59_12, rf_59_14, rf_59_15, rf_59_16, rf_59_19, rf_59_23, rf_59_24, rf_59_25, rf_59_26, is_9_59, slF_17, slF_18, slF_s17, slF_s18, eA, dv, nz, if_false, if_true]
theorem pr_straight (hI : Inv h) (x : Int32) : PrL fb (d + 101) n_X8_straight n_X9_straight [.int x] h := by
  obtain ⟨⟨n, u, nt, nb, nw, iN⟩, iZ, iM, iS, iT, iB, iW, iX, iY⟩ := id hI.1
  by_cases q1 : 0 ≤ x ∧ x ≤ 1
  · obtain ⟨h1, r1, g1⟩ := go_c (fb := fb) (d := d + 1) hI iN
    have hn := iN.1.2.2.2
    have I1 := Inv_gn hI g1
    obtain ⟨h2, g2, r2⟩ := sr_find (fb := fb) (d := d) (h1 := h1) hI iN (g1.1.1 60 (by decide)) I1.2.2.2.2.2.2.2.1 I1.2.2.2.2.2.2.2.2
    obtain ⟨b1, b2⟩ := sq_b n hn iN.1.2.2.1
    have ba := SA_b iS iM (n := n) iN.2.1.2.2 hn
    have ba' := ba
    unfold bl at ba'
    have eA : (if 0 < SA h n u then SA h n u else -SA h n u) = lN (SA h n u).toInt.natAbs := ab_lN ba (by omega)
    have eB : lsA (fun j => (nI j).toInt64 * (nI j).toInt64) 1 n 0 = lN (sqN 1 n 0) := ls_sq n 1 0 (by omega)
    have sS := sp_sumSides (fb := fb) (d := d + 99) (h := h1) g1.2.1 hn
    rw [show lsA (fun j => (nI j).toInt64 * (h1.1 52 j).toInt64) 1 n 0 = SA h n u from lsA_congr n 1 0 (fun s _ hs => by rw [(g1.2.2.2.2.1 s (by omega)).1])] at sS
    have sQ := sp_sumSq (fb := fb) (d := d + 99) (h := h1) g1.2.1 hn
    rw [eB] at sQ
    have gp : 1 ≤ SG h n u := Nat.gcd_pos_of_pos_left _ (by omega)
    have gl : SG h n u ≤ sqN 1 n 0 := Nat.gcd_le_left _ (by omega)
    have nz : (lN (SG h n u) = 0) = False := by rw [lN_z (by omega)]; exact eq_false (by omega)
    have np : ¬ lN (SG h n u) ≤ 0 := fun t => absurd ((lN_le (b := 0) (by omega) (by omega)).mp t) (by omega)
    have gc := sp_gc (fb := fb) (d := d + 99) (a := lN (SA h n u).toInt.natAbs) (b := lN (sqN 1 n 0)) (h := h1)
    rw [gcA_g 13 100 _ _ (by omega) (by omega) (by omega) (by omega), Nat.gcd_comm, show Nat.gcd (sqN 1 n 0) (SA h n u).toInt.natAbs = SG h n u from rfl] at gc
    have I2 : ∀ A B, Inv (slF h2 A B) := fun A B => Inv_1 (Inv_gr I1 g2) rfl
    rcases b01 q1 with rfl | rfl
    · refine ⟨SA h n u / lN (SG h n u), h1, slF h2 (SA h n u / lN (SG h n u)) (lN (sqN 1 n 0) / lN (SG h n u)), ?_, ?_, I2 _ _⟩
      · rw [en_X8_straight]
        simp only [c20, c2i, c2n, c2r, cs8_0, cs8_1, cs8_2, cs8_3, cs8_4, decide_eq_true_eq, ev_ald0, ev_aldn0, ev_cs2, ev_cs3, ev_cv0, ev_cv1, ev_cv2, ev_go, ev_gr, ev_i, ev_i2l, ev_if0, ev_ild1, ev_l, ev_lcmp, ev_ldv, ev_lld2, ev_lld4, ev_lld6, ev_lld8, ev_lst2, ev_lst4, ev_lst6, ev_lst8, ev_ml, ev_rl, i00, i01, i10, not_false_eq_true, not_true_eq_false, pm_bd_s, pm_tl_n, pm_tl_s, ↓reduceIte, pb_X8_straight_0, pb_X8_straight_1, pb_X8_straight_2, pb_X8_straight_3, pb_X8_straight_4, pb_X8_straight_5, kd_0, rf_0_0, rf_0_1, rf_0_2, rf_0_3, rf_0_4, rf_0_5, rf_0_6, rf_0_7, rf_0_8, is_8_0, kd_17, rf_17_0, rf_17_1, rf_17_2, rf_17_3, rf_17_4, rf_17_5, rf_17_6, is_7_17, sp_isIn, bI_n0, eq_true q1, r1, sS, sQ, eA, gc, nz, lg_cmp_le, np, not_true_eq_false, if_true, if_false]
      · rw [en_X9_straight]
        simp only [cs8_0, cs8_1, cs8_2, cs8_3, cs8_4, decide_eq_true_eq, ev_ald0, ev_aldn0, ev_cs3, ev_cv0, ev_cv1, ev_gl, ev_go, ev_i, ev_i2l, ev_if0, ev_ild1, ev_rl, i00, i01, i10, not_false_eq_true, not_true_eq_false, pm_bd_s, pm_tl_n, pm_tl_s, ↓reduceIte, pb_X9_straight_0, pb_X9_straight_1, pb_X9_straight_2, pb_X9_straight_3, kd_59, rf_59_0, rf_59_1, rf_59_3, rf_59_4, rf_59_5, rf_59_6, rf_59_7, rf_59_12, rf_59_14, rf_59_15, rf_59_16, rf_59_19, rf_59_23, rf_59_24, rf_59_25, rf_59_26, is_9_59, sr_isIn, bI_n0, eq_true q1, r2, slF_17, slF_18, not_true_eq_false, if_true, if_false]
    · have z10 : ((1 : Int32) = 0) = False := by decide
      refine ⟨lN (sqN 1 n 0) / lN (SG h n u), h1, slF h2 (SA h n u / lN (SG h n u)) (lN (sqN 1 n 0) / lN (SG h n u)), ?_, ?_, I2 _ _⟩
      · rw [en_X8_straight]
        simp only [c20, c2i, c2n, c2r, cs8_0, cs8_1, cs8_2, cs8_3, cs8_4, decide_eq_true_eq, ev_ald0, ev_aldn0, ev_cs2, ev_cs3, ev_cv0, ev_cv1, ev_cv2, ev_go, ev_gr, ev_i, ev_i2l, ev_if0, ev_ild1, ev_l, ev_lcmp, ev_ldv, ev_lld2, ev_lld4, ev_lld6, ev_lld8, ev_lst2, ev_lst4, ev_lst6, ev_lst8, ev_ml, ev_rl, i00, i01, i10, not_false_eq_true, not_true_eq_false, pm_bd_s, pm_tl_n, pm_tl_s, ↓reduceIte, pb_X8_straight_0, pb_X8_straight_1, pb_X8_straight_2, pb_X8_straight_3, pb_X8_straight_4, pb_X8_straight_5, kd_0, rf_0_0, rf_0_1, rf_0_2, rf_0_3, rf_0_4, rf_0_5, rf_0_6, rf_0_7, rf_0_8, is_8_0, kd_17, rf_17_0, rf_17_1, rf_17_2, rf_17_3, rf_17_4, rf_17_5, rf_17_6, is_7_17, sp_isIn, bI_n0, eq_true q1, r1, sS, sQ, eA, gc, nz, lg_cmp_le, np, z10, not_false_eq_true, if_true, if_false]
      · rw [en_X9_straight]
        simp only [cs8_0, cs8_1, cs8_2, cs8_3, cs8_4, decide_eq_true_eq, ev_ald0, ev_aldn0, ev_cs3, ev_cv0, ev_cv1, ev_gl, ev_go, ev_i, ev_i2l, ev_if0, ev_ild1, ev_rl, i00, i01, i10, not_false_eq_true, not_true_eq_false, pm_bd_s, pm_tl_n, pm_tl_s, ↓reduceIte, pb_X9_straight_0, pb_X9_straight_1, pb_X9_straight_2, pb_X9_straight_3, kd_59, rf_59_0, rf_59_1, rf_59_3, rf_59_4, rf_59_5, rf_59_6, rf_59_7, rf_59_12, rf_59_14, rf_59_15, rf_59_16, rf_59_19, rf_59_23, rf_59_24, rf_59_25, rf_59_26, is_9_59, sr_isIn, bI_n0, eq_true q1, r2, slF_17, slF_18, z10, not_false_eq_true, if_true, if_false]
  · refine ⟨(-1000000001 : Int32).toInt64, pm_si h 28 1 (h.1 28 1 + 1), _, ?_, ?_, Inv_err (e := 1) hI (by omega) (by omega)⟩
    · rw [en_X8_straight]
      simp only [c20, c2i, c2n, c2r, cs8_0, cs8_1, cs8_2, cs8_3, cs8_4, decide_eq_true_eq, ev_ald0, ev_aldn0, ev_cs2, ev_cs3, ev_cv0, ev_cv1, ev_cv2, ev_go, ev_gr, ev_i, ev_i2l, ev_if0, ev_ild1, ev_l, ev_lcmp, ev_ldv, ev_lld2, ev_lld4, ev_lld6, ev_lld8, ev_lst2, ev_lst4, ev_lst6, ev_lst8, ev_ml, ev_rl, i00, i01, i10, not_false_eq_true, not_true_eq_false, pm_bd_s, pm_tl_n, pm_tl_s, ↓reduceIte, pb_X8_straight_0, kd_0, rf_0_0, rf_0_1, rf_0_2, rf_0_3, rf_0_4, rf_0_5, rf_0_6, rf_0_7, rf_0_8, is_8_0, sp_isIn, bI_n0, eq_false q1, fail_1, F1]
    · rw [en_X9_straight]
      simp only [cs8_0, cs8_1, cs8_2, cs8_3, cs8_4, decide_eq_true_eq, ev_ald0, ev_aldn0, ev_cs3, ev_cv0, ev_cv1, ev_gl, ev_go, ev_i, ev_i2l, ev_if0, ev_ild1, ev_rl, i00, i01, i10, not_false_eq_true, not_true_eq_false, pm_bd_s, pm_tl_n, pm_tl_s, ↓reduceIte, pb_X9_straight_0, kd_59, rf_59_0, rf_59_1, rf_59_3, rf_59_4, rf_59_5, rf_59_6, rf_59_7, rf_59_12, rf_59_14, rf_59_15, rf_59_16, rf_59_19, rf_59_23, rf_59_24, rf_59_25, rf_59_26, is_9_59, sr_isIn, bI_n0, eq_false q1, find_1]
def ofA (D : Nat → Int64) : Nat → Nat → Nat → Nat
  | _, 0, b => b
  | i, k + 1, b => ofA D (i + 1) k (if D i ≤ D b then b else i)
theorem ofA_congr {D D' : Nat → Int64} {n : Nat} (h : ∀ i b, i ≤ n → b ≤ n → (D i ≤ D b ↔ D' i ≤ D' b)) : ∀ (k i b : Nat), i + k ≤ n + 1 → b ≤ n → ofA D i k b = ofA D' i k b
  | 0, _, _, _, _ => rfl
  | k + 1, i, b, hi, hb => by
    rw [ofA, ofA]
    have e : (if D i ≤ D b then b else i) = (if D' i ≤ D' b then b else i) := by
      by_cases q : D i ≤ D b
      · rw [if_pos q, if_pos ((h i b (by omega) hb).mp q)]
      · rw [if_neg q, if_neg (fun t => q ((h i b (by omega) hb).mpr t))]
    rw [e]
    refine ofA_congr h k (i + 1) _ (by omega) ?_
    by_cases q : D' i ≤ D' b
    · rw [if_pos q]; exact hb
    · rw [if_neg q]; omega
def oD (s : Nat → Int32) (A B : Int64) (j : Nat) : Int64 := ab64 ((s j).toInt64 * B - A * (nI j).toInt64)
theorem oD_t {s : Nat → Int32} {A B : Int64} {j M N : Nat} (hs : bd (s j) 480000) (hA : bl A M) (hB : bl B N) (hM : M ≤ 276480000) (hN : N ≤ 4900) (hj : j ≤ 24) : (oD s A B j).toInt = (((s j).toInt * B.toInt - A.toInt * (j : Int)).natAbs : Int) := by
  have hA' := bl_le hA hM
  have hB' := bl_le hB hN
  have b1 := bl_mul (bl_i hs) hB' (by omega)
  have hjj : bl (nI j).toInt64 24 := bl_i (bd_n hj (by omega))
  have b2 := bl_mul hA' hjj (by omega)
  have b3 := bl_sub b1 b2 (by omega)
  unfold oD
  rw [ab_l b3 (by omega), tl_sub b1 b2 (by omega), tl_mul (bl_i hs) hB' (by omega), tl_mul hA' hjj (by omega), Int32.toInt_toInt64, Int32.toInt_toInt64, nI_toInt (by omega)]
theorem oD_iff {n u : Nat} (iS : RS h 32 60) (iM : RM h 31 60) (hu : u ≤ 8) (hn : n ≤ 24) (hn1 : 1 ≤ n) : ∀ i b, i ≤ n → b ≤ n → (oD (SDf h u) (SA h n u) (lN (sqN 1 n 0)) i ≤ oD (SDf h u) (SA h n u) (lN (sqN 1 n 0)) b ↔ oD (SDf h u) (SA h n u / lN (SG h n u)) (lN (sqN 1 n 0) / lN (SG h n u)) i ≤ oD (SDf h u) (SA h n u / lN (SG h n u)) (lN (sqN 1 n 0) / lN (SG h n u)) b) := by
  obtain ⟨b1, b2⟩ := sq_b n hn hn1
  have ba := SA_b iS iM (n := n) hu hn
  have gp : 1 ≤ SG h n u := Nat.gcd_pos_of_pos_left _ (by omega)
  have gl : SG h n u ≤ sqN 1 n 0 := Nat.gcd_le_left _ (by omega)
  obtain ⟨q2, hq2⟩ : SG h n u ∣ sqN 1 n 0 := Nat.gcd_dvd_left _ _
  obtain ⟨q, hq⟩ : (SG h n u : Int) ∣ (SA h n u).toInt := Int.ofNat_dvd_left.mpr (Nat.gcd_dvd_right _ _)
  have bs : ∀ j, j ≤ n → bd (SDf h u j) 480000 := fun j hj => bd_le (bd_sd iS iM hu j (by omega)) (by omega)
  have bq : bl (lN (sqN 1 n 0)) 4900 := bl_n b2 (by omega)
  have tA : (SA h n u / lN (SG h n u)).toInt = q := by
    rw [tl_div ba (by omega), lN_toInt (by omega), hq, Int.mul_tdiv_cancel_left _ (by omega)]
  have tB : (lN (sqN 1 n 0) / lN (SG h n u)).toInt = (q2 : Int) := by
    rw [tl_div bq (by omega), lN_toInt (by omega), lN_toInt (by omega), hq2, Int.natCast_mul, Int.mul_tdiv_cancel_left _ (by omega)]
  have K : ∀ j, j ≤ n → (oD (SDf h u) (SA h n u) (lN (sqN 1 n 0)) j).toInt = (SG h n u : Int) * (oD (SDf h u) (SA h n u / lN (SG h n u)) (lN (sqN 1 n 0) / lN (SG h n u)) j).toInt := by
    intro j hj
    rw [oD_t (bs j hj) ba bq (by omega) (by omega) (by omega), oD_t (bs j hj) (bl_div ba (by omega)) (bl_div bq (by omega)) (by omega) (by omega) (by omega), tA, tB, hq, lN_toInt (by omega), hq2]
    generalize (SDf h u j).toInt = s
    rw [Int.natCast_mul]
    generalize SG h n u = g
    have e : s * ((g : Int) * q2) - (g : Int) * q * j = (g : Int) * (s * q2 - q * j) := by
      rw [Int.mul_sub, Int.mul_left_comm, Int.mul_assoc]
    rw [e, Int.natAbs_mul, Int.natCast_mul, Int.natAbs_natCast]
  intro i b hi hb
  rw [Int64.le_iff_toInt_le, Int64.le_iff_toInt_le, K i hi, K b hb]
  constructor
  · intro t
    exact Int.le_of_mul_le_mul_left t (by omega)
  · intro t
    exact Int.mul_le_mul_of_nonneg_left t (by omega)
set_option maxRecDepth 100000 in
theorem lp_offC {n : Nat} {D : Nat → Int64} (hn3 : h.1 3 3 = nI n) (hn : n ≤ 24) (hD : ∀ j, j ≤ n → rs fb (d + 3) n_X7_offStraight [.ref 17, .int (nI j)] h = some (some (.long (D j)), h)) : ∀ (k i b : Nat), i + k = n + 1 → b ≤ n → pm_ev P_X8_offIt (rs fb (d + 3)) (P_X8_offIt 1) [some (.ref 0), some (.int (nI b)), some (.int (nI i))] [] h = some (some (.int (nI (ofA D i k b))), h) := by
  intro k
  induction k with
  | zero =>
    intro i b hi hb
    have e1 : nI n < nI i := nI_lt (by omega) (by omega)
    rw [pb_X8_offIt_1]
    simp only [c20, c2i, c2n, c2r, cs8_0, cs8_1, cs8_2, cs8_3, cs8_4, decide_eq_true_eq, ev_ald0, ev_aldn0, ev_cv0, ev_cv1, ev_cv2, ev_go, ev_gr, ev_i, ev_if0, ev_if2, ev_ild1, ev_ild2, ev_inc2, ev_ist1, ev_ist2, ev_lcmp, ev_ri, i00, i01, i10, is_sw, not_false_eq_true, not_true_eq_false, pm_bd_s, pm_tl_n, pm_tl_s, ↓reduceIte, pb_X8_offIt_3, kd_0, rf_0_0, rf_0_1, rf_0_2, rf_0_3, rf_0_4, rf_0_5, rf_0_6, rf_0_7, rf_0_8, is_8_0, kd_1, rf_1_0, rf_1_1, rf_1_2, rf_1_3, rf_1_4, rf_1_5, rf_1_6, is_5_1, kd_3, rf_3_2, fc_3_0, fc_3_1, is_6_3_3, is_3_6_3, sp_used, hn3, e1, ofA, if_true]
  | succ k ih =>
    intro i b hi hb
    have e1 : ¬ nI n < nI i := nI_nlt (by omega) (by omega)
    have s1 := hD i (by omega)
    have s2 := hD b hb
    rw [pb_X8_offIt_1, ofA]
    by_cases q : D i ≤ D b
    · simp only [c20, c2i, c2n, c2r, cs8_0, cs8_1, cs8_2, cs8_3, cs8_4, decide_eq_true_eq, ev_ald0, ev_aldn0, ev_cv0, ev_cv1, ev_cv2, ev_go, ev_gr, ev_i, ev_if0, ev_if2, ev_ild1, ev_ild2, ev_inc2, ev_ist1, ev_ist2, ev_lcmp, ev_ri, i00, i01, i10, is_sw, not_false_eq_true, not_true_eq_false, pm_bd_s, pm_tl_n, pm_tl_s, ↓reduceIte, pb_X8_offIt_2, kd_0, rf_0_0, rf_0_1, rf_0_2, rf_0_3, rf_0_4, rf_0_5, rf_0_6, rf_0_7, rf_0_8, is_8_0, kd_1, rf_1_0, rf_1_1, rf_1_2, rf_1_3, rf_1_4, rf_1_5, rf_1_6, is_5_1, kd_3, rf_3_2, fc_3_0, fc_3_1, is_6_3_3, is_3_6_3, kd_17, rf_17_0, rf_17_1, rf_17_2, rf_17_3, rf_17_4, rf_17_5, rf_17_6, is_7_17, sp_used, hn3, e1, s1, s2, lg_cmp_le, q, nI_1, if_true, if_false]
      exact ih (i + 1) b (by omega) hb
    · simp only [c20, c2i, c2n, c2r, cs8_0, cs8_1, cs8_2, cs8_3, cs8_4, decide_eq_true_eq, ev_ald0, ev_aldn0, ev_cv0, ev_cv1, ev_cv2, ev_go, ev_gr, ev_i, ev_if0, ev_if2, ev_ild1, ev_ild2, ev_inc2, ev_ist1, ev_ist2, ev_lcmp, ev_ri, i00, i01, i10, is_sw, not_false_eq_true, not_true_eq_false, pm_bd_s, pm_tl_n, pm_tl_s, ↓reduceIte, pb_X8_offIt_2, kd_0, rf_0_0, rf_0_1, rf_0_2, rf_0_3, rf_0_4, rf_0_5, rf_0_6, rf_0_7, rf_0_8, is_8_0, kd_1, rf_1_0, rf_1_1, rf_1_2, rf_1_3, rf_1_4, rf_1_5, rf_1_6, is_5_1, kd_3, rf_3_2, fc_3_0, fc_3_1, is_6_3_3, is_3_6_3, kd_17, rf_17_0, rf_17_1, rf_17_2, rf_17_3, rf_17_4, rf_17_5, rf_17_6, is_7_17, sp_used, hn3, e1, s1, s2, lg_cmp_le, q, nI_1, if_true, if_false]
      exact ih (i + 1) i (by omega) (by omega)
set_option maxRecDepth 100000 in
theorem lp_offR {n : Nat} {S : Nat → Int32} {A B : Int64} (hn0 : h.1 60 0 = nI n) (hn : n ≤ 24) (hS : ∀ j, j ≤ n → h.1 63 j = S j) : ∀ (k i b : Nat) (m : Int64) (p p' : Option Value), i + k = n + 1 → b ≤ n → m = oD S A B b → pm_ev P_X9_offIt (rs fb d) (P_X9_offIt 1) [some (.ref 59), some (.int (nI b)), some (.long m), none, some (.int (nI i)), p, p'] [] (slF h A B) = some (some (.int (nI (ofA (oD S A B) i k b))), slF h A B) := by
  have ix0 : pm_ix (0 : Int32) 440 = true := by decide
  have cl0 : (0 : Int32).toNatClampNeg = 0 := by decide
  have a64 : ∀ x : Int64, (if 0 < x then x else -x) = ab64 x := fun _ => rfl
  have es : ∀ j, ab64 ((S j).toInt64 * B - A * (nI j).toInt64) = oD S A B j := fun _ => rfl
  intro k
  induction k with
  | zero =>
    intro i b m p p' hi hb hm
    have e1 : nI n < nI i := nI_lt (by omega) (by omega)
    rw [pb_X9_offIt_1]
    simp only [c20, c2i, c2n, c2r, cs8_0, cs8_1, cs8_2, cs8_3, cs8_4, decide_eq_true_eq, ev_ald0, ev_aldn0, ev_cv0, ev_gl, ev_go, ev_gr, ev_i, ev_i2l, ev_ia, ev_if0, ev_if2, ev_ild1, ev_ild4, ev_inc4, ev_ist1, ev_ist4, ev_l, ev_lbin, ev_lcmp, ev_lld2, ev_lld5, ev_lst2, ev_lst5, ev_ml, ev_ri, i00, i01, i10, not_false_eq_true, not_true_eq_false, pm_bd_s, pm_tl_n, pm_tl_s, ↓reduceIte, pb_X9_offIt_3, kd_59, rf_59_0, rf_59_1, rf_59_3, rf_59_4, rf_59_5, rf_59_6, rf_59_7, rf_59_12, rf_59_14, rf_59_15, rf_59_16, rf_59_19, rf_59_23, rf_59_24, rf_59_25, rf_59_26, is_9_59, kd_60, al_60, slF_1, ix0, cl0, hn0, e1, ofA, if_true]
  | succ k ih =>
    intro i b m p p' hi hb hm
    have e1 : ¬ nI n < nI i := nI_nlt (by omega) (by omega)
    have x1 : pm_ix (nI i) 25 = true := pm_ix_n (by omega) (by omega)
    have c1 := nI_clamp (show i < 2 ^ 31 by omega)
    have s1 := hS i (by omega)
    rw [pb_X9_offIt_1, ofA]
    by_cases q : oD S A B i ≤ oD S A B b
    · simp only [c20, c2i, c2n, c2r, cs8_0, cs8_1, cs8_2, cs8_3, cs8_4, decide_eq_true_eq, ev_ald0, ev_aldn0, ev_cv0, ev_gl, ev_go, ev_gr, ev_i, ev_i2l, ev_ia, ev_if0, ev_if2, ev_ild1, ev_ild4, ev_inc4, ev_ist1, ev_ist4, ev_l, ev_lbin, ev_lcmp, ev_lld2, ev_lld5, ev_lst2, ev_lst5, ev_ml, ev_ri, i00, i01, i10, not_false_eq_true, not_true_eq_false, pm_bd_s, pm_tl_n, pm_tl_s, ↓reduceIte, pb_X9_offIt_2, kd_59, rf_59_0, rf_59_1, rf_59_3, rf_59_4, rf_59_5, rf_59_6, rf_59_7, rf_59_12, rf_59_14, rf_59_15, rf_59_16, rf_59_19, rf_59_23, rf_59_24, rf_59_25, rf_59_26, is_9_59, kd_60, al_60, kd_63, al_63, slF_1, slF_17, slF_18, ix0, cl0, hn0, e1, x1, c1, s1, a64, es, hm, lg_cmp_le, q, nI_1, if_true, if_false]
      exact ih (i + 1) b _ _ _ (by omega) hb rfl
    · simp only [c20, c2i, c2n, c2r, cs8_0, cs8_1, cs8_2, cs8_3, cs8_4, decide_eq_true_eq, ev_ald0, ev_aldn0, ev_cv0, ev_gl, ev_go, ev_gr, ev_i, ev_i2l, ev_ia, ev_if0, ev_if2, ev_ild1, ev_ild4, ev_inc4, ev_ist1, ev_ist4, ev_l, ev_lbin, ev_lcmp, ev_lld2, ev_lld5, ev_lst2, ev_lst5, ev_ml, ev_ri, i00, i01, i10, not_false_eq_true, not_true_eq_false, pm_bd_s, pm_tl_n, pm_tl_s, ↓reduceIte, pb_X9_offIt_2, kd_59, rf_59_0, rf_59_1, rf_59_3, rf_59_4, rf_59_5, rf_59_6, rf_59_7, rf_59_12, rf_59_14, rf_59_15, rf_59_16, rf_59_19, rf_59_23, rf_59_24, rf_59_25, rf_59_26, is_9_59, kd_60, al_60, kd_63, al_63, slF_1, slF_17, slF_18, ix0, cl0, hn0, e1, x1, c1, s1, a64, es, hm, lg_cmp_le, q, nI_1, if_true, if_false]
      exact ih (i + 1) i _ _ _ (by omega) (by omega) rfl
theorem pr_offIt (hI : Inv h) : Pr fb (d + 101) n_X8_offIt n_X9_offIt [] h := by
  obtain ⟨⟨n, u, nt, nb, nw, iN⟩, iZ, iM, iS, iT, iB, iW, iX, iY⟩ := id hI.1
  obtain ⟨h1, r1, g1⟩ := go_c (fb := fb) (d := d + 1) hI iN
  have hn := iN.1.2.2.2
  have hn1 := iN.1.2.2.1
  have I1 := Inv_gn hI g1
  obtain ⟨h2, g2, r2⟩ := sr_find (fb := fb) (d := d) (h1 := h1) hI iN (g1.1.1 60 (by decide)) I1.2.2.2.2.2.2.2.1 I1.2.2.2.2.2.2.2.2
  have eB : lsA (fun j => (nI j).toInt64 * (nI j).toInt64) 1 n 0 = lN (sqN 1 n 0) := ls_sq n 1 0 (by omega)
  have eA : lsA (fun j => (nI j).toInt64 * (h1.1 52 j).toInt64) 1 n 0 = SA h n u := lsA_congr n 1 0 (fun s _ hs => by rw [(g1.2.2.2.2.1 s (by omega)).1])
  have hn3 : h1.1 3 3 = nI n := by rw [g1.1.1 3 (by decide)]; exact iN.1.1
  have hn0 : h2.1 60 0 = nI n := by rw [g2.1.1 60 (by decide), g1.1.1 60 (by decide)]; exact iN.1.2.1
  have hD : ∀ j, j ≤ n → rs fb (d + 97 + 3) n_X7_offStraight [.ref 17, .int (nI j)] h1 = some (some (.long (oD (SDf h u) (SA h n u) (lN (sqN 1 n 0)) j)), h1) := by
    intro j hj
    have o := sp_offStraight (fb := fb) (d := d + 97) (h := h1) (j := j) g1.2.1 hn hj
    rw [eA, eB, (g1.2.2.2.2.1 j hj).1] at o
    exact o
  have lc := lp_offC (fb := fb) (d := d + 97) (h := h1) hn3 hn hD (n - 1) 2 1 (by omega) (by omega)
  rw [ofA_congr (oD_iff iS iM iN.2.1.2.2 hn hn1) (n - 1) 2 1 (by omega) (by omega)] at lc
  have lr := lp_offR (fb := fb) (d := d + 100) (h := h2) (S := SDf h u) (A := SA h n u / lN (SG h n u)) (B := lN (sqN 1 n 0) / lN (SG h n u)) hn0 hn (fun j hj => (g2.2.1 j hj).1) (n - 1) 2 1 _ (some (.long (oD (SDf h u) (SA h n u / lN (SG h n u)) (lN (sqN 1 n 0) / lN (SG h n u)) 1))) none (by omega) (by omega) rfl
  refine ⟨nI (ofA (oD (SDf h u) (SA h n u / lN (SG h n u)) (lN (sqN 1 n 0) / lN (SG h n u))) 2 (n - 1) 1), h1, slF h2 (SA h n u / lN (SG h n u)) (lN (sqN 1 n 0) / lN (SG h n u)), ?_, ?_, Inv_1 (Inv_gr I1 g2) rfl⟩
  · rw [en_X8_offIt]
    simp only [c20, c2i, c2n, c2r, cs8_0, cs8_1, cs8_2, cs8_3, cs8_4, decide_eq_true_eq, ev_ald0, ev_aldn0, ev_cv0, ev_cv1, ev_cv2, ev_go, ev_gr, ev_i, ev_if0, ev_if2, ev_ild1, ev_ild2, ev_inc2, ev_ist1, ev_ist2, ev_lcmp, ev_ri, i00, i01, i10, is_sw, not_false_eq_true, not_true_eq_false, pm_bd_s, pm_tl_n, pm_tl_s, ↓reduceIte, pb_X8_offIt_0, kd_0, rf_0_0, rf_0_1, rf_0_2, rf_0_3, rf_0_4, rf_0_5, rf_0_6, rf_0_7, rf_0_8, is_8_0, kd_17, rf_17_0, rf_17_1, rf_17_2, rf_17_3, rf_17_4, rf_17_5, rf_17_6, is_7_17, r1]
    exact lc
  · have ix0 : pm_ix (0 : Int32) 440 = true := by decide
    have ix1 : pm_ix (1 : Int32) 25 = true := by decide
    have cl0 : (0 : Int32).toNatClampNeg = 0 := by decide
    have cl1 : (1 : Int32).toNatClampNeg = 1 := by decide
    have a64 : ∀ x : Int64, (if 0 < x then x else -x) = ab64 x := fun _ => rfl
    have es : ab64 ((SDf h u 1).toInt64 * (lN (sqN 1 n 0) / lN (SG h n u)) - SA h n u / lN (SG h n u) * (1 : Int32).toInt64) = oD (SDf h u) (SA h n u / lN (SG h n u)) (lN (sqN 1 n 0) / lN (SG h n u)) 1 := rfl
    have e1 : ¬ nI n < 1 := nI_nlt (b := 1) (by omega) (by omega)
    have s1 := (g2.2.1 1 (by omega)).1
    obtain ⟨b1, b2⟩ := sq_b n hn hn1
    have t := oD_t (s := SDf h u) (A := SA h n u / lN (SG h n u)) (B := lN (sqN 1 n 0) / lN (SG h n u)) (j := 1) (bd_le (bd_sd iS iM iN.2.1.2.2 1 (by omega)) (by omega)) (bl_div (SA_b iS iM iN.2.1.2.2 hn) (by omega)) (bl_div (bl_n b2 (by omega)) (by omega)) (by omega) (by omega) (by omega)
    have nn : ¬ oD (SDf h u) (SA h n u / lN (SG h n u)) (lN (sqN 1 n 0) / lN (SG h n u)) 1 ≤ -1 := by
      rw [Int64.le_iff_toInt_le, t, show (-1 : Int64).toInt = -1 by decide]
      omega
    have z2 : (1 : Int32) + 1 = 2 := by decide
    rw [en_X9_offIt]
    simp only [c20, c2i, c2n, c2r, cs8_0, cs8_1, cs8_2, cs8_3, cs8_4, decide_eq_true_eq, ev_ald0, ev_aldn0, ev_cv0, ev_gl, ev_go, ev_gr, ev_i, ev_i2l, ev_ia, ev_if0, ev_if2, ev_ild1, ev_ild4, ev_inc4, ev_ist1, ev_ist4, ev_l, ev_lbin, ev_lcmp, ev_lld2, ev_lld5, ev_lst2, ev_lst5, ev_ml, ev_ri, i00, i01, i10, not_false_eq_true, not_true_eq_false, pm_bd_s, pm_tl_n, pm_tl_s, ↓reduceIte, pb_X9_offIt_0, kd_59, rf_59_0, rf_59_1, rf_59_3, rf_59_4, rf_59_5, rf_59_6, rf_59_7, rf_59_12, rf_59_14, rf_59_15, rf_59_16, rf_59_19, rf_59_23, rf_59_24, rf_59_25, rf_59_26, is_9_59, r2]
    rw [pb_X9_offIt_1]
    simp only [c20, c2i, c2n, c2r, cs8_0, cs8_1, cs8_2, cs8_3, cs8_4, decide_eq_true_eq, ev_ald0, ev_aldn0, ev_cv0, ev_gl, ev_go, ev_gr, ev_i, ev_i2l, ev_ia, ev_if0, ev_if2, ev_ild1, ev_ild4, ev_inc4, ev_ist1, ev_ist4, ev_l, ev_lbin, ev_lcmp, ev_lld2, ev_lld5, ev_lst2, ev_lst5, ev_ml, ev_ri, i00, i01, i10, not_false_eq_true, not_true_eq_false, pm_bd_s, pm_tl_n, pm_tl_s, ↓reduceIte, pb_X9_offIt_2, kd_59, rf_59_0, rf_59_1, rf_59_3, rf_59_4, rf_59_5, rf_59_6, rf_59_7, rf_59_12, rf_59_14, rf_59_15, rf_59_16, rf_59_19, rf_59_23, rf_59_24, rf_59_25, rf_59_26, is_9_59, kd_60, al_60, kd_63, al_63, slF_1, slF_17, slF_18, ix0, cl0, ix1, cl1, hn0, e1, s1, a64, es, lg_cmp_le, nn, z2, if_true, if_false]
    exact lr
end PU
