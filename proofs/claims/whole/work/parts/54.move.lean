/-! PAIRS OF CALLS: move -/
theorem st_3 {i m : Int32} {z : Nat} (hz : z ≤ 24) : (0 ≤ i ∧ 0 ≤ m ∧ i ≤ nI z ∧ m ≤ nI z - i) ↔ ∃ a c, i = nI a ∧ m = nI c ∧ a + c ≤ z := by
  constructor
  · rintro ⟨a, b, c, e⟩
    obtain ⟨j, hj, rfl⟩ := i_le (n := z) (by omega) ⟨a, c⟩
    rw [sub_n hj] at e
    obtain ⟨t, ht, rfl⟩ := i_le (n := z - j) (by omega) ⟨b, e⟩
    exact ⟨j, t, rfl, rfl, by omega⟩
  · rintro ⟨a, c, rfl, rfl, hac⟩
    refine ⟨nI_pos' (by omega), nI_pos' (by omega), nI_le (by omega) (by omega), ?_⟩
    rw [sub_n (by omega)]
    exact nI_le (by omega) (by omega)
theorem lN_t {n : Nat} (h : n < 2 ^ 33) : (lN n).toInt = (n : Int) := lg_ofNat_toInt (by omega)
theorem st_4 {i m : Int32} {z : Nat} (hi : ¬ i < 0) (hm : ¬ m < 0) (hz : z ≤ 24) : i.toInt64 + m.toInt64 ≤ (nI z).toInt64 ↔ ∃ a c, i = nI a ∧ m = nI c ∧ a + c ≤ z := by
  obtain ⟨a, ha, rfl⟩ := nI_of hi
  obtain ⟨c, hc, rfl⟩ := nI_of hm
  rw [nI_l ha, nI_l hc, nI_l (show z < 2 ^ 31 by omega), lN_add, Int64.le_iff_toInt_le, lN_t (by omega), lN_t (by omega)]
  constructor
  · intro q
    exact ⟨a, c, rfl, rfl, by omega⟩
  · rintro ⟨a', c', e1, e2, q⟩
    have := (nI_eq ha (by omega)).mp e1
    have := (nI_eq hc (by omega)).mp e2
    omega
def mv1 (h : pm_HP) (s k : Nat) : pm_HP := (fun a b => if a = 75 ∧ b < k then h.1 74 (s + b) else h.1 a b, h.2)
def mv2 (h : pm_HP) (s t n k : Nat) : pm_HP := (fun a b => if a = 74 ∧ t ≤ b ∧ b < t + k then h.1 74 (s + (b - t)) else (mv1 h s n).1 a b, h.2)
theorem mv1_at (h : pm_HP) (s k a b : Nat) : (mv1 h s k).1 a b = if a = 75 ∧ b < k then h.1 74 (s + b) else h.1 a b := rfl
theorem mv2_at (h : pm_HP) (s t n k a b : Nat) : (mv2 h s t n k).1 a b = if a = 74 ∧ t ≤ b ∧ b < t + k then h.1 74 (s + (b - t)) else if a = 75 ∧ b < n then h.1 74 (s + b) else h.1 a b := rfl
theorem mv1_0 (h : pm_HP) (s : Nat) : mv1 h s 0 = h := by
  unfold mv1
  congr 1
  funext a b
  rw [if_neg (by omega)]
theorem mv1_s (h : pm_HP) (s k : Nat) : pm_si (mv1 h s k) 75 k (h.1 74 (s + k)) = mv1 h s (k + 1) := by
  unfold mv1 pm_si
  congr 1
  funext a b
  dsimp only
  by_cases q : a = 75 ∧ b = k
  · rw [if_pos q, if_pos ⟨q.1, by omega⟩, q.2]
  · rw [if_neg q]
    by_cases q2 : a = 75 ∧ b < k
    · rw [if_pos q2, if_pos ⟨q2.1, by omega⟩]
    · rw [if_neg q2, if_neg (by omega)]
theorem mv2_0 (h : pm_HP) (s t n : Nat) : mv2 h s t n 0 = mv1 h s n := by
  unfold mv2
  show (_, h.2) = ((mv1 h s n).1, h.2)
  congr 1
  funext a b
  rw [if_neg (by omega)]
theorem mv2_s (h : pm_HP) (s t n k : Nat) : pm_si (mv2 h s t n k) 74 (t + k) (h.1 74 (s + k)) = mv2 h s t n (k + 1) := by
  unfold mv2 pm_si
  congr 1
  funext a b
  dsimp only
  by_cases q : a = 74 ∧ b = t + k
  · rw [if_pos q, if_pos ⟨q.1, by omega, by omega⟩, q.2, show t + k - t = k by omega]
  · rw [if_neg q]
    by_cases q2 : a = 74 ∧ t ≤ b ∧ b < t + k
    · rw [if_pos q2, if_pos ⟨q2.1, q2.2.1, by omega⟩]
    · rw [if_neg q2, if_neg (by omega)]
section PR
variable {fb : Bool} {d : Nat} {h : pm_HP}
set_option maxRecDepth 100000 in
theorem lp_mv1 {k a c : Nat} {x y : Int32} (hk : k < 4) (ha : a + c ≤ 24) : ∀ (m r : Nat) (p : Option Value), r + m = c → pm_ev P_X9_move (rs fb d) (P_X9_move 8) [some (.ref 59), some (.int (nI k)), some (.int (nI a)), some (.int x), some (.int y), some (.int (nI c)), some (.int (nI r))] [] (mv1 h (24 * k + a) r) = pm_ev P_X9_move (rs fb d) (P_X9_move 9) [some (.ref 59), some (.int (nI k)), some (.int (nI a)), some (.int x), some (.int y), some (.int (nI c)), some (.int (nI c))] [] (mv1 h (24 * k + a) c) := by
  intro m
  induction m with
  | zero =>
    intro r p hr
    obtain rfl : r = c := by omega
    have e1 : nI r ≤ nI r := Int32.le_refl _
    rw [pb_X9_move_8]
    simp only [c20, c2i, c2n, c2r, cs8_0, cs8_1, cs8_2, cs8_3, cs8_4, decide_eq_true_eq, ev_ald0, ev_aldn0, ev_bin, ev_cs1, ev_cv1, ev_go, ev_gr, ev_i, ev_i2l, ev_ia, ev_ias, ev_if0, ev_if2, ev_ild1, ev_ild2, ev_ild3, ev_ild4, ev_ild5, ev_ild6, ev_inc6, ev_ist6, ev_lbin, ev_lcmp, ev_ri, i00, i01, i10, not_false_eq_true, not_true_eq_false, pm_bd_s, pm_tl_n, pm_tl_s, ↓reduceIte, e1, if_true]
  | succ m ih =>
    intro r p hr
    have e1 : ¬ nI c ≤ nI r := nI_ge (by omega) (by omega)
    have e : (24 : Int32) * nI k + nI a + nI r = nI (24 * k + a + r) := by
      show nI 24 * nI k + nI a + nI r = _
      rw [nI_mul, nI_add, nI_add]
    have x1 : pm_ix (nI (24 * k + a + r)) 96 = true := pm_ix_n (by omega) (by omega)
    have c1 := nI_clamp (show 24 * k + a + r < 2 ^ 31 by omega)
    have x2 : pm_ix (nI r) 24 = true := pm_ix_n (by omega) (by omega)
    have c2 := nI_clamp (show r < 2 ^ 31 by omega)
    have v : (mv1 h (24 * k + a) r).1 74 (24 * k + a + r) = h.1 74 (24 * k + a + r) := by
      rw [mv1_at, if_neg (by omega)]
    rw [pb_X9_move_8]
    simp only [c20, c2i, c2n, c2r, cs8_0, cs8_1, cs8_2, cs8_3, cs8_4, decide_eq_true_eq, ev_ald0, ev_aldn0, ev_bin, ev_cs1, ev_cv1, ev_go, ev_gr, ev_i, ev_i2l, ev_ia, ev_ias, ev_if0, ev_if2, ev_ild1, ev_ild2, ev_ild3, ev_ild4, ev_ild5, ev_ild6, ev_inc6, ev_ist6, ev_lbin, ev_lcmp, ev_ri, i00, i01, i10, not_false_eq_true, not_true_eq_false, pm_bd_s, pm_tl_n, pm_tl_s, ↓reduceIte, kd_59, rf_59_0, rf_59_1, rf_59_3, rf_59_4, rf_59_5, rf_59_6, rf_59_7, rf_59_12, rf_59_14, rf_59_15, rf_59_16, rf_59_19, rf_59_23, rf_59_24, rf_59_25, rf_59_26, is_9_59, kd_74, al_74, kd_75, al_75, e1, e, x1, c1, x2, c2, v, mv1_s, nI_1, if_false, if_true]
    exact ih (r + 1) p (by omega)
set_option maxRecDepth 100000 in
theorem lp_mv2 {l b c s : Nat} {x y : Int32} (hl : l < 4) (hb : b + c ≤ 24) : ∀ (m r : Nat), r + m = c → pm_ev P_X9_move (rs fb d) (P_X9_move 10) [some (.ref 59), some (.int x), some (.int y), some (.int (nI l)), some (.int (nI b)), some (.int (nI c)), some (.int (nI r))] [] (mv2 h s (24 * l + b) c r) = some (some (.int (nI c)), mv2 h s (24 * l + b) c c) := by
  intro m
  induction m with
  | zero =>
    intro r hr
    obtain rfl : r = c := by omega
    have e1 : nI r ≤ nI r := Int32.le_refl _
    rw [pb_X9_move_10]
    simp only [c20, c2i, c2n, c2r, cs8_0, cs8_1, cs8_2, cs8_3, cs8_4, decide_eq_true_eq, ev_ald0, ev_aldn0, ev_bin, ev_cs1, ev_cv1, ev_go, ev_gr, ev_i, ev_i2l, ev_ia, ev_ias, ev_if0, ev_if2, ev_ild1, ev_ild2, ev_ild3, ev_ild4, ev_ild5, ev_ild6, ev_inc6, ev_ist6, ev_lbin, ev_lcmp, ev_ri, i00, i01, i10, not_false_eq_true, not_true_eq_false, pm_bd_s, pm_tl_n, pm_tl_s, ↓reduceIte, pb_X9_move_11, e1, if_true]
  | succ m ih =>
    intro r hr
    have e1 : ¬ nI c ≤ nI r := nI_ge (by omega) (by omega)
    have e : (24 : Int32) * nI l + nI b + nI r = nI (24 * l + b + r) := by
      show nI 24 * nI l + nI b + nI r = _
      rw [nI_mul, nI_add, nI_add]
    have x1 : pm_ix (nI (24 * l + b + r)) 96 = true := pm_ix_n (by omega) (by omega)
    have c1 := nI_clamp (show 24 * l + b + r < 2 ^ 31 by omega)
    have x2 : pm_ix (nI r) 24 = true := pm_ix_n (by omega) (by omega)
    have c2 := nI_clamp (show r < 2 ^ 31 by omega)
    have v : (mv2 h s (24 * l + b) c r).1 75 r = h.1 74 (s + r) := by
      rw [mv2_at, if_neg (by omega), if_pos ⟨rfl, by omega⟩]
    rw [pb_X9_move_10]
    simp only [c20, c2i, c2n, c2r, cs8_0, cs8_1, cs8_2, cs8_3, cs8_4, decide_eq_true_eq, ev_ald0, ev_aldn0, ev_bin, ev_cs1, ev_cv1, ev_go, ev_gr, ev_i, ev_i2l, ev_ia, ev_ias, ev_if0, ev_if2, ev_ild1, ev_ild2, ev_ild3, ev_ild4, ev_ild5, ev_ild6, ev_inc6, ev_ist6, ev_lbin, ev_lcmp, ev_ri, i00, i01, i10, not_false_eq_true, not_true_eq_false, pm_bd_s, pm_tl_n, pm_tl_s, ↓reduceIte, kd_59, rf_59_0, rf_59_1, rf_59_3, rf_59_4, rf_59_5, rf_59_6, rf_59_7, rf_59_12, rf_59_14, rf_59_15, rf_59_16, rf_59_19, rf_59_23, rf_59_24, rf_59_25, rf_59_26, is_9_59, kd_74, al_74, kd_75, al_75, e1, e, x1, c1, x2, c2, v, mv2_s, nI_1, if_false, if_true]
    exact ih (r + 1) (by omega)
theorem Inv_mv {k l a b c z w : Nat} (hI : Inv h) (hk : k < 4) (hl : l < 4) (ha : a + c ≤ 24) (hb : b + c ≤ 24) : Inv (mv2 (pm_cp h (48 + k) (48 + l) a b c) (24 * k + a) (24 * l + b) c c) := by
  have V : ∀ x y, ¬ x = 75 → (mv2 (pm_cp h (48 + k) (48 + l) a b c) (24 * k + a) (24 * l + b) c c).1 x y = if x = 74 ∧ 24 * l + b ≤ y ∧ y < 24 * l + b + c then h.1 74 (24 * k + a + (y - (24 * l + b))) else if x = 48 + l ∧ b ≤ y ∧ y < b + c then h.1 (48 + k) (a + (y - b)) else h.1 x y := by
    intro x y hx
    rw [mv2_at, if_neg (show ¬ (x = 75 ∧ y < c) by omega), cp_at, cp_at, if_neg (show ¬ 74 = 48 + l by omega)]
    by_cases q : x = 74 ∧ 24 * l + b ≤ y ∧ y < 24 * l + b + c
    · rw [if_pos q, if_pos q]
    · rw [if_neg q, if_neg q]
      by_cases q2 : x = 48 + l
      · subst q2
        rw [if_pos rfl]
        unfold va_cpy
        by_cases q3 : b ≤ y ∧ y < b + c
        · rw [if_pos q3, if_pos ⟨rfl, q3⟩]
        · rw [if_neg q3, if_neg (fun t => q3 t.2)]
      · rw [if_neg q2, if_neg (fun t => q2 t.1)]
  let hM : pm_HP := (fun x y => if x = 75 then h.1 75 y else (mv2 (pm_cp h (48 + k) (48 + l) a b c) (24 * k + a) (24 * l + b) c c).1 x y, h.2)
  have M : ∀ x y, hM.1 x y = if x = 74 ∧ 24 * l + b ≤ y ∧ y < 24 * l + b + c then h.1 74 (24 * k + a + (y - (24 * l + b))) else if x = 48 + l ∧ b ≤ y ∧ y < b + c then h.1 (48 + k) (a + (y - b)) else h.1 x y := by
    intro x y
    show (if x = 75 then h.1 75 y else (mv2 (pm_cp h (48 + k) (48 + l) a b c) (24 * k + a) (24 * l + b) c c).1 x y) = _
    by_cases q : x = 75
    · subst q
      rw [if_pos rfl, if_neg (by omega), if_neg (by omega)]
    · rw [if_neg q, V x y q]
  have IM : Inv hM := by
    refine Inv_sh hI (fun x h1 h2 h3 => ?_) ?_
    · funext y
      rw [M, if_neg (by omega), if_neg (by omega)]
    · intro k' hk'
      obtain ⟨z, g1, g2, g3, g4, g5, g6⟩ := hI.2.2.2.2.1 k' hk'
      refine ⟨z, g1, ?_, ?_, ?_, ?_, fun i hi => ?_⟩
      · rw [M, if_neg (by omega), if_neg (by omega)]; exact g2
      · rw [M, if_neg (by omega), if_neg (by omega)]; exact g3
      · rw [M, M, if_neg (by omega), if_neg (by omega), if_neg (by omega), if_neg (by omega)]; exact g4
      · rw [M, if_neg (by omega), if_neg (by omega)]; exact g5
      · obtain ⟨-, -, -, -, -, -, f6⟩ := hI.2.2.2.2.1 k hk
        rw [M, M, if_neg (show ¬ (48 + k' = 74 ∧ 24 * l + b ≤ i ∧ i < 24 * l + b + c) by omega), if_neg (show ¬ (74 = 48 + l ∧ b ≤ 24 * k' + i ∧ 24 * k' + i < b + c) by omega)]
        by_cases q : k' = l ∧ b ≤ i ∧ i < b + c
        · obtain ⟨rfl, q2, q3⟩ := q
          rw [if_pos ⟨rfl, q2, q3⟩, if_pos ⟨rfl, by omega, by omega⟩, f6 _ (by omega), show 24 * k + (a + (i - b)) = 24 * k + a + (24 * k' + i - (24 * k' + b)) by omega]
        · rw [if_neg (by omega), if_neg (by omega)]
          exact g6 i hi
  refine Inv_frm (cs := [75]) IM ⟨fun x hx => ?_, rfl⟩ (by decide) ?_
  · funext y
    show _ = (if x = 75 then h.1 75 y else (mv2 (pm_cp h (48 + k) (48 + l) a b c) (24 * k + a) (24 * l + b) c c).1 x y)
    rw [if_neg (fun q => hx (by simp [q]))]
  · have := IM.2.2.2.2.2
    unfold R0 at this ⊢
    exact this
theorem pr_move (hI : Inv h) (x i o j m : Int32) : Pr fb (d + 100) n_X8_move n_X9_move [.int x, .int i, .int o, .int j, .int m] h := by
  by_cases q1 : 0 ≤ x ∧ x ≤ 3
  · obtain ⟨k, hk, rfl⟩ := k_of q1
    obtain ⟨f1, f2, f3, f4, f5⟩ := sh_facts k hk
    obtain ⟨z, g1, g2, g3, g4, g5, g6⟩ := hI.2.2.2.2.1 k hk
    have xk : pm_ix (nI k) 4 = true := pm_ix_n hk (by omega)
    have ck := nI_clamp (show k < 2 ^ 31 by omega)
    have q1' := eq_true q1
    by_cases q2 : 0 ≤ o ∧ o ≤ 3
    · obtain ⟨l, hl, rfl⟩ := k_of q2
      obtain ⟨F1', F2', F3', F4', F5'⟩ := sh_facts l hl
      obtain ⟨w, G1, G2, G3, G4, G5, G6⟩ := hI.2.2.2.2.1 l hl
      have xl : pm_ix (nI l) 4 = true := pm_ix_n hl (by omega)
      have cl := nI_clamp (show l < 2 ^ 31 by omega)
      have q2' := eq_true q2
      by_cases w0 : h.1 72 k = 0
      · have w0' : (h.1 (23 + k) 1 = 0) = True := eq_true (by rw [g4]; exact w0)
        have w2 : (pm_si h 28 2 (h.1 28 2 + 1)).1 72 k = 0 := w0
        refine Pr_e (e := 2) (x := -1000000002) hI (by omega) (by omega) ?_ ?_
        · rw [en_X8_move]
          simp only [c20, c2i, c2n, c2r, cs8_0, cs8_1, cs8_2, cs8_3, cs8_4, decide_eq_true_eq, ev_ald0, ev_ald6, ev_ald7, ev_aldn0, ev_aldn6, ev_aldn7, ev_ast6, ev_ast7, ev_astn6, ev_astn7, ev_cp, ev_cv0, ev_cv1, ev_cv2, ev_gi, ev_go, ev_gr, ev_i, ev_if0, ev_if2, ev_ifn_0, ev_ifn_1, ev_ifn_2, ev_ifn_3, ev_ild1, ev_ild2, ev_ild3, ev_ild4, ev_ild5, ev_ri, i00, i01, i10, not_false_eq_true, not_true_eq_false, pm_bd_s, pm_tl_n, pm_tl_s, ↓reduceIte, pb_X8_move_0, pb_X8_move_1, pb_X8_move_2, pb_X8_move_3, kd_0, rf_0_0, rf_0_1, rf_0_2, rf_0_3, rf_0_4, rf_0_5, rf_0_6, rf_0_7, rf_0_8, is_8_0, f1, F1', sp_sheetOf hk, sp_sheetOf hl, sp_isMissing hk, bI_0, bI_n0, w0', not_true_eq_false, if_true, if_false, fail_2, F2]
        · rw [en_X9_move]
          simp only [c20, c2i, c2n, c2r, cs8_0, cs8_1, cs8_2, cs8_3, cs8_4, decide_eq_true_eq, ev_ald0, ev_aldn0, ev_bin, ev_cs1, ev_cv1, ev_go, ev_gr, ev_i, ev_i2l, ev_ia, ev_ias, ev_if0, ev_if2, ev_ild1, ev_ild2, ev_ild3, ev_ild4, ev_ild5, ev_ild6, ev_inc6, ev_ist6, ev_lbin, ev_lcmp, ev_ri, i00, i01, i10, not_false_eq_true, not_true_eq_false, pm_bd_s, pm_tl_n, pm_tl_s, ↓reduceIte, pb_X9_move_0, pb_X9_move_1, pb_X9_move_2, pb_X9_move_3, kd_59, rf_59_0, rf_59_1, rf_59_3, rf_59_4, rf_59_5, rf_59_6, rf_59_7, rf_59_12, rf_59_14, rf_59_15, rf_59_16, rf_59_19, rf_59_23, rf_59_24, rf_59_25, rf_59_26, is_9_59, kd_72, al_72, sr_isSheet, bI_0, bI_n0, q1', q2', xk, ck, w2, not_true_eq_false, if_true, if_false, find_2]
      · have w0' : (h.1 (23 + k) 1 = 0) = False := eq_false (by rw [g4]; exact w0)
        by_cases v0 : h.1 72 l = 0
        · have v0' : (h.1 (23 + l) 1 = 0) = True := eq_true (by rw [G4]; exact v0)
          have w2 : (pm_si h 28 2 (h.1 28 2 + 1)).1 72 l = 0 := v0
          have w3 : ¬ (pm_si h 28 2 (h.1 28 2 + 1)).1 72 k = 0 := w0
          refine Pr_e (e := 2) (x := -1000000002) hI (by omega) (by omega) ?_ ?_
          · rw [en_X8_move]
            simp only [c20, c2i, c2n, c2r, cs8_0, cs8_1, cs8_2, cs8_3, cs8_4, decide_eq_true_eq, ev_ald0, ev_ald6, ev_ald7, ev_aldn0, ev_aldn6, ev_aldn7, ev_ast6, ev_ast7, ev_astn6, ev_astn7, ev_cp, ev_cv0, ev_cv1, ev_cv2, ev_gi, ev_go, ev_gr, ev_i, ev_if0, ev_if2, ev_ifn_0, ev_ifn_1, ev_ifn_2, ev_ifn_3, ev_ild1, ev_ild2, ev_ild3, ev_ild4, ev_ild5, ev_ri, i00, i01, i10, not_false_eq_true, not_true_eq_false, pm_bd_s, pm_tl_n, pm_tl_s, ↓reduceIte, pb_X8_move_0, pb_X8_move_1, pb_X8_move_2, pb_X8_move_3, kd_0, rf_0_0, rf_0_1, rf_0_2, rf_0_3, rf_0_4, rf_0_5, rf_0_6, rf_0_7, rf_0_8, is_8_0, f1, F1', sp_sheetOf hk, sp_sheetOf hl, sp_isMissing hk, sp_isMissing hl, bI_0, bI_n0, w0', v0', not_true_eq_false, not_false_eq_true, if_true, if_false, fail_2, F2]
          · rw [en_X9_move]
            simp only [c20, c2i, c2n, c2r, cs8_0, cs8_1, cs8_2, cs8_3, cs8_4, decide_eq_true_eq, ev_ald0, ev_aldn0, ev_bin, ev_cs1, ev_cv1, ev_go, ev_gr, ev_i, ev_i2l, ev_ia, ev_ias, ev_if0, ev_if2, ev_ild1, ev_ild2, ev_ild3, ev_ild4, ev_ild5, ev_ild6, ev_inc6, ev_ist6, ev_lbin, ev_lcmp, ev_ri, i00, i01, i10, not_false_eq_true, not_true_eq_false, pm_bd_s, pm_tl_n, pm_tl_s, ↓reduceIte, pb_X9_move_0, pb_X9_move_1, pb_X9_move_2, pb_X9_move_3, kd_59, rf_59_0, rf_59_1, rf_59_3, rf_59_4, rf_59_5, rf_59_6, rf_59_7, rf_59_12, rf_59_14, rf_59_15, rf_59_16, rf_59_19, rf_59_23, rf_59_24, rf_59_25, rf_59_26, is_9_59, kd_72, al_72, sr_isSheet, bI_0, bI_n0, q1', q2', xk, ck, xl, cl, w2, w3, not_true_eq_false, not_false_eq_true, if_true, if_false, find_2]
        · have v0' : (h.1 (23 + l) 1 = 0) = False := eq_false (by rw [G4]; exact v0)
          by_cases e : h.1 72 k = h.1 72 l
          · have e' : h.1 (23 + k) 1 = h.1 (23 + l) 1 := by rw [g4, G4]; exact e
            by_cases Q1 : ∃ a c, i = nI a ∧ m = nI c ∧ a + c ≤ z
            · by_cases Q2 : ∃ a c, j = nI a ∧ m = nI c ∧ a + c ≤ w
              · have s1 := (st_3 (i := i) (m := m) g1).mpr Q1
                have s2 := (st_3 (i := j) (m := m) G1).mpr Q2
                obtain ⟨a, c, rfl, rfl, hac⟩ := Q1
                obtain ⟨b, c', rfl, ec, hbc⟩ := Q2
                obtain rfl : c = c' := (nI_eq (by omega) (by omega)).mp ec
                have na := nI_pos (n := a) (by omega)
                have nb := nI_pos (n := b) (by omega)
                have nc := nI_pos (n := c) (by omega)
                have pa := nI_pos' (n := a) (by omega)
                have pb := nI_pos' (n := b) (by omega)
                have pc := nI_pos' (n := c) (by omega)
                have ca := nI_clamp (show a < 2 ^ 31 by omega)
                have cb := nI_clamp (show b < 2 ^ 31 by omega)
                have cc := nI_clamp (show c < 2 ^ 31 by omega)
                have ha : a + c ≤ 24 := by omega
                have hb : b + c ≤ 24 := by omega
                have L1 : (nI a).toInt64 + (nI c).toInt64 ≤ (nI z).toInt64 := (st_4 na nc g1).mpr ⟨a, c, rfl, rfl, hac⟩
                have L2 : (nI b).toInt64 + (nI c).toInt64 ≤ (nI w).toInt64 := (st_4 nb nc G1).mpr ⟨b, c, rfl, rfl, hbc⟩
                have L3 : ¬ (nI z).toInt64 < (nI a).toInt64 + (nI c).toInt64 := Int64.not_lt.mpr L1
                refine ⟨nI c, pm_cp h (48 + k) (48 + l) a b c, mv2 (pm_cp h (48 + k) (48 + l) a b c) (24 * k + a) (24 * l + b) c c, ?_, ?_, Inv_mv (z := z) (w := w) hI hk hl ha hb⟩
                · rw [en_X8_move]
                  simp only [c20, c2i, c2n, c2r, cs8_0, cs8_1, cs8_2, cs8_3, cs8_4, decide_eq_true_eq, ev_ald0, ev_ald6, ev_ald7, ev_aldn0, ev_aldn6, ev_aldn7, ev_ast6, ev_ast7, ev_astn6, ev_astn7, ev_cp, ev_cv0, ev_cv1, ev_cv2, ev_gi, ev_go, ev_gr, ev_i, ev_if0, ev_if2, ev_ifn_0, ev_ifn_1, ev_ifn_2, ev_ifn_3, ev_ild1, ev_ild2, ev_ild3, ev_ild4, ev_ild5, ev_ri, i00, i01, i10, not_false_eq_true, not_true_eq_false, pm_bd_s, pm_tl_n, pm_tl_s, ↓reduceIte, pb_X8_move_0, pb_X8_move_1, pb_X8_move_2, pb_X8_move_3, pb_X8_move_4, pb_X8_move_5, pb_X8_move_6, pb_X8_move_7, kd_0, rf_0_0, rf_0_1, rf_0_2, rf_0_3, rf_0_4, rf_0_5, rf_0_6, rf_0_7, rf_0_8, is_8_0, f1, f2, f3, f4, F1', F2', F3', F4', sp_sheetOf hk, sp_sheetOf hl, sp_isMissing hk, sp_isMissing hl, sp_stand hk, sp_stand hl, g2, G2, s1.2.2.1, s1.2.2.2, s2.2.2.1, s2.2.2.2, bI_0, bI_n0, w0', v0', e', pa, pb, pc, ca, cb, cc, ha, hb, and_self, not_true_eq_false, not_false_eq_true, if_true, if_false]
                · generalize hh : pm_cp h (48 + k) (48 + l) a b c = h1
                  have E : ∀ a', ¬ a' = 48 + l → h1.1 a' = h.1 a' := by
                    intro a' n1
                    rw [← hh]
                    funext y
                    rw [cp_at, if_neg n1]
                  have w2 : ¬ h1.1 72 k = 0 := by rw [E 72 (by omega)]; exact w0
                  have w3 : ¬ h1.1 72 l = 0 := by rw [E 72 (by omega)]; exact v0
                  have w4 : h1.1 72 k = h1.1 72 l := by rw [E 72 (by omega)]; exact e
                  have w5 : h1.1 73 k = nI z := by rw [E 73 (by omega)]; exact g3
                  have w6 : h1.1 73 l = nI w := by rw [E 73 (by omega)]; exact G3
                  have r1 := lp_mv1 (fb := fb) (d := d + 99) (h := h1) (k := k) (a := a) (c := c) (x := nI l) (y := nI b) hk ha c 0 none (by omega)
                  have r2 := lp_mv2 (fb := fb) (d := d + 99) (h := h1) (l := l) (b := b) (c := c) (s := 24 * k + a) (x := nI k) (y := nI a) hl hb c 0 (by omega)
                  rw [mv1_0, nI_0] at r1
                  rw [mv2_0, nI_0] at r2
                  rw [en_X9_move]
                  simp only [c20, c2i, c2n, c2r, cs8_0, cs8_1, cs8_2, cs8_3, cs8_4, decide_eq_true_eq, ev_ald0, ev_aldn0, ev_bin, ev_cs1, ev_cv1, ev_go, ev_gr, ev_i, ev_i2l, ev_ia, ev_ias, ev_if0, ev_if2, ev_ild1, ev_ild2, ev_ild3, ev_ild4, ev_ild5, ev_ild6, ev_inc6, ev_ist6, ev_lbin, ev_lcmp, ev_ri, i00, i01, i10, not_false_eq_true, not_true_eq_false, pm_bd_s, pm_tl_n, pm_tl_s, ↓reduceIte, pb_X9_move_0, pb_X9_move_1, pb_X9_move_2, pb_X9_move_3, pb_X9_move_4, pb_X9_move_5, pb_X9_move_6, pb_X9_move_7, kd_59, rf_59_0, rf_59_1, rf_59_3, rf_59_4, rf_59_5, rf_59_6, rf_59_7, rf_59_12, rf_59_14, rf_59_15, rf_59_16, rf_59_19, rf_59_23, rf_59_24, rf_59_25, rf_59_26, is_9_59, kd_72, al_72, kd_73, al_73, sr_isSheet, bI_0, bI_n0, q1', q2', xk, ck, xl, cl, w2, w3, w4, w5, w6, na, nb, nc, lg_cmp_gt, lg_cmp_le, L1, L2, L3, not_true_eq_false, not_false_eq_true, if_true, if_false]
                  rw [r1, pb_X9_move_9]
                  simp only [c20, c2i, c2n, c2r, cs8_0, cs8_1, cs8_2, cs8_3, cs8_4, decide_eq_true_eq, ev_ald0, ev_aldn0, ev_bin, ev_cs1, ev_cv1, ev_go, ev_gr, ev_i, ev_i2l, ev_ia, ev_ias, ev_if0, ev_if2, ev_ild1, ev_ild2, ev_ild3, ev_ild4, ev_ild5, ev_ild6, ev_inc6, ev_ist6, ev_lbin, ev_lcmp, ev_ri, i00, i01, i10, not_false_eq_true, not_true_eq_false, pm_bd_s, pm_tl_n, pm_tl_s, ↓reduceIte]
                  exact r2
              · have s1 := eq_true ((st_3 (i := i) (m := m) g1).mpr Q1)
                have s2 := eq_false (fun t => Q2 ((st_3 (i := j) (m := m) G1).mp t))
                obtain ⟨a, c, rfl, rfl, hac⟩ := Q1
                have na := nI_pos (n := a) (by omega)
                have nc := nI_pos (n := c) (by omega)
                have L1 : (nI a).toInt64 + (nI c).toInt64 ≤ (nI z).toInt64 := (st_4 na nc g1).mpr ⟨a, c, rfl, rfl, hac⟩
                have L3 : ¬ (nI z).toInt64 < (nI a).toInt64 + (nI c).toInt64 := Int64.not_lt.mpr L1
                refine Pr_e (e := 1) (x := -1000000001) hI (by omega) (by omega) ?_ ?_
                · rw [en_X8_move]
                  simp only [c20, c2i, c2n, c2r, cs8_0, cs8_1, cs8_2, cs8_3, cs8_4, decide_eq_true_eq, ev_ald0, ev_ald6, ev_ald7, ev_aldn0, ev_aldn6, ev_aldn7, ev_ast6, ev_ast7, ev_astn6, ev_astn7, ev_cp, ev_cv0, ev_cv1, ev_cv2, ev_gi, ev_go, ev_gr, ev_i, ev_if0, ev_if2, ev_ifn_0, ev_ifn_1, ev_ifn_2, ev_ifn_3, ev_ild1, ev_ild2, ev_ild3, ev_ild4, ev_ild5, ev_ri, i00, i01, i10, not_false_eq_true, not_true_eq_false, pm_bd_s, pm_tl_n, pm_tl_s, ↓reduceIte, pb_X8_move_0, pb_X8_move_1, pb_X8_move_2, pb_X8_move_3, pb_X8_move_4, pb_X8_move_5, pb_X8_move_6, pb_X8_move_7, kd_0, rf_0_0, rf_0_1, rf_0_2, rf_0_3, rf_0_4, rf_0_5, rf_0_6, rf_0_7, rf_0_8, is_8_0, f1, F1', sp_sheetOf hk, sp_sheetOf hl, sp_isMissing hk, sp_isMissing hl, sp_stand hk, sp_stand hl, g2, G2, s1, s2, bI_0, bI_n0, w0', v0', e', not_true_eq_false, not_false_eq_true, if_true, if_false, fail_1, F1]
                · have w2 : (pm_si h 28 1 (h.1 28 1 + 1)).1 72 = h.1 72 := rfl
                  have w5 : (pm_si h 28 1 (h.1 28 1 + 1)).1 73 k = nI z := g3
                  have w6 : (pm_si h 28 1 (h.1 28 1 + 1)).1 73 l = nI w := G3
                  rw [en_X9_move]
                  by_cases nj : j < 0
                  · simp only [c20, c2i, c2n, c2r, cs8_0, cs8_1, cs8_2, cs8_3, cs8_4, decide_eq_true_eq, ev_ald0, ev_aldn0, ev_bin, ev_cs1, ev_cv1, ev_go, ev_gr, ev_i, ev_i2l, ev_ia, ev_ias, ev_if0, ev_if2, ev_ild1, ev_ild2, ev_ild3, ev_ild4, ev_ild5, ev_ild6, ev_inc6, ev_ist6, ev_lbin, ev_lcmp, ev_ri, i00, i01, i10, not_false_eq_true, not_true_eq_false, pm_bd_s, pm_tl_n, pm_tl_s, ↓reduceIte, pb_X9_move_0, pb_X9_move_1, pb_X9_move_2, pb_X9_move_3, pb_X9_move_4, pb_X9_move_5, pb_X9_move_6, kd_59, rf_59_0, rf_59_1, rf_59_3, rf_59_4, rf_59_5, rf_59_6, rf_59_7, rf_59_12, rf_59_14, rf_59_15, rf_59_16, rf_59_19, rf_59_23, rf_59_24, rf_59_25, rf_59_26, is_9_59, kd_72, al_72, kd_73, al_73, sr_isSheet, bI_0, bI_n0, q1', q2', xk, ck, xl, cl, w2, w0, v0, e, w5, w6, na, nc, nj, not_true_eq_false, not_false_eq_true, if_true, if_false, find_1]
                  · have L2 : ¬ j.toInt64 + (nI c).toInt64 ≤ (nI w).toInt64 := fun t => Q2 ((st_4 nj nc G1).mp t)
                    simp only [c20, c2i, c2n, c2r, cs8_0, cs8_1, cs8_2, cs8_3, cs8_4, decide_eq_true_eq, ev_ald0, ev_aldn0, ev_bin, ev_cs1, ev_cv1, ev_go, ev_gr, ev_i, ev_i2l, ev_ia, ev_ias, ev_if0, ev_if2, ev_ild1, ev_ild2, ev_ild3, ev_ild4, ev_ild5, ev_ild6, ev_inc6, ev_ist6, ev_lbin, ev_lcmp, ev_ri, i00, i01, i10, not_false_eq_true, not_true_eq_false, pm_bd_s, pm_tl_n, pm_tl_s, ↓reduceIte, pb_X9_move_0, pb_X9_move_1, pb_X9_move_2, pb_X9_move_3, pb_X9_move_4, pb_X9_move_5, pb_X9_move_6, kd_59, rf_59_0, rf_59_1, rf_59_3, rf_59_4, rf_59_5, rf_59_6, rf_59_7, rf_59_12, rf_59_14, rf_59_15, rf_59_16, rf_59_19, rf_59_23, rf_59_24, rf_59_25, rf_59_26, is_9_59, kd_72, al_72, kd_73, al_73, sr_isSheet, bI_0, bI_n0, q1', q2', xk, ck, xl, cl, w2, w0, v0, e, w5, w6, na, nc, nj, lg_cmp_gt, lg_cmp_le, L2, L3, not_true_eq_false, not_false_eq_true, if_true, if_false, find_1]
            · have s1 := eq_false (fun t => Q1 ((st_3 (i := i) (m := m) g1).mp t))
              refine Pr_e (e := 1) (x := -1000000001) hI (by omega) (by omega) ?_ ?_
              · rw [en_X8_move]
                simp only [c20, c2i, c2n, c2r, cs8_0, cs8_1, cs8_2, cs8_3, cs8_4, decide_eq_true_eq, ev_ald0, ev_ald6, ev_ald7, ev_aldn0, ev_aldn6, ev_aldn7, ev_ast6, ev_ast7, ev_astn6, ev_astn7, ev_cp, ev_cv0, ev_cv1, ev_cv2, ev_gi, ev_go, ev_gr, ev_i, ev_if0, ev_if2, ev_ifn_0, ev_ifn_1, ev_ifn_2, ev_ifn_3, ev_ild1, ev_ild2, ev_ild3, ev_ild4, ev_ild5, ev_ri, i00, i01, i10, not_false_eq_true, not_true_eq_false, pm_bd_s, pm_tl_n, pm_tl_s, ↓reduceIte, pb_X8_move_0, pb_X8_move_1, pb_X8_move_2, pb_X8_move_3, pb_X8_move_4, pb_X8_move_5, pb_X8_move_6, pb_X8_move_7, kd_0, rf_0_0, rf_0_1, rf_0_2, rf_0_3, rf_0_4, rf_0_5, rf_0_6, rf_0_7, rf_0_8, is_8_0, f1, F1', sp_sheetOf hk, sp_sheetOf hl, sp_isMissing hk, sp_isMissing hl, sp_stand hk, g2, s1, bI_0, bI_n0, w0', v0', e', not_true_eq_false, not_false_eq_true, if_true, if_false, fail_1, F1]
              · have w2 : (pm_si h 28 1 (h.1 28 1 + 1)).1 72 = h.1 72 := rfl
                have w5 : (pm_si h 28 1 (h.1 28 1 + 1)).1 73 k = nI z := g3
                rw [en_X9_move]
                by_cases nm : m < 0
                · simp only [c20, c2i, c2n, c2r, cs8_0, cs8_1, cs8_2, cs8_3, cs8_4, decide_eq_true_eq, ev_ald0, ev_aldn0, ev_bin, ev_cs1, ev_cv1, ev_go, ev_gr, ev_i, ev_i2l, ev_ia, ev_ias, ev_if0, ev_if2, ev_ild1, ev_ild2, ev_ild3, ev_ild4, ev_ild5, ev_ild6, ev_inc6, ev_ist6, ev_lbin, ev_lcmp, ev_ri, i00, i01, i10, not_false_eq_true, not_true_eq_false, pm_bd_s, pm_tl_n, pm_tl_s, ↓reduceIte, pb_X9_move_0, pb_X9_move_1, pb_X9_move_2, pb_X9_move_3, pb_X9_move_4, pb_X9_move_5, pb_X9_move_6, kd_59, rf_59_0, rf_59_1, rf_59_3, rf_59_4, rf_59_5, rf_59_6, rf_59_7, rf_59_12, rf_59_14, rf_59_15, rf_59_16, rf_59_19, rf_59_23, rf_59_24, rf_59_25, rf_59_26, is_9_59, kd_72, al_72, kd_73, al_73, sr_isSheet, bI_0, bI_n0, q1', q2', xk, ck, xl, cl, w2, w0, v0, e, nm, not_true_eq_false, not_false_eq_true, if_true, if_false, find_1]
                · by_cases ni : i < 0
                  · simp only [c20, c2i, c2n, c2r, cs8_0, cs8_1, cs8_2, cs8_3, cs8_4, decide_eq_true_eq, ev_ald0, ev_aldn0, ev_bin, ev_cs1, ev_cv1, ev_go, ev_gr, ev_i, ev_i2l, ev_ia, ev_ias, ev_if0, ev_if2, ev_ild1, ev_ild2, ev_ild3, ev_ild4, ev_ild5, ev_ild6, ev_inc6, ev_ist6, ev_lbin, ev_lcmp, ev_ri, i00, i01, i10, not_false_eq_true, not_true_eq_false, pm_bd_s, pm_tl_n, pm_tl_s, ↓reduceIte, pb_X9_move_0, pb_X9_move_1, pb_X9_move_2, pb_X9_move_3, pb_X9_move_4, pb_X9_move_5, pb_X9_move_6, kd_59, rf_59_0, rf_59_1, rf_59_3, rf_59_4, rf_59_5, rf_59_6, rf_59_7, rf_59_12, rf_59_14, rf_59_15, rf_59_16, rf_59_19, rf_59_23, rf_59_24, rf_59_25, rf_59_26, is_9_59, kd_72, al_72, kd_73, al_73, sr_isSheet, bI_0, bI_n0, q1', q2', xk, ck, xl, cl, w2, w0, v0, e, nm, ni, not_true_eq_false, not_false_eq_true, if_true, if_false, find_1]
                  · by_cases nj : j < 0
                    · simp only [c20, c2i, c2n, c2r, cs8_0, cs8_1, cs8_2, cs8_3, cs8_4, decide_eq_true_eq, ev_ald0, ev_aldn0, ev_bin, ev_cs1, ev_cv1, ev_go, ev_gr, ev_i, ev_i2l, ev_ia, ev_ias, ev_if0, ev_if2, ev_ild1, ev_ild2, ev_ild3, ev_ild4, ev_ild5, ev_ild6, ev_inc6, ev_ist6, ev_lbin, ev_lcmp, ev_ri, i00, i01, i10, not_false_eq_true, not_true_eq_false, pm_bd_s, pm_tl_n, pm_tl_s, ↓reduceIte, pb_X9_move_0, pb_X9_move_1, pb_X9_move_2, pb_X9_move_3, pb_X9_move_4, pb_X9_move_5, pb_X9_move_6, kd_59, rf_59_0, rf_59_1, rf_59_3, rf_59_4, rf_59_5, rf_59_6, rf_59_7, rf_59_12, rf_59_14, rf_59_15, rf_59_16, rf_59_19, rf_59_23, rf_59_24, rf_59_25, rf_59_26, is_9_59, kd_72, al_72, kd_73, al_73, sr_isSheet, bI_0, bI_n0, q1', q2', xk, ck, xl, cl, w2, w0, v0, e, nm, ni, nj, not_true_eq_false, not_false_eq_true, if_true, if_false, find_1]
                    · have L1 : (nI z).toInt64 < i.toInt64 + m.toInt64 := Int64.not_le.mp (fun t => Q1 ((st_4 ni nm g1).mp t))
                      simp only [c20, c2i, c2n, c2r, cs8_0, cs8_1, cs8_2, cs8_3, cs8_4, decide_eq_true_eq, ev_ald0, ev_aldn0, ev_bin, ev_cs1, ev_cv1, ev_go, ev_gr, ev_i, ev_i2l, ev_ia, ev_ias, ev_if0, ev_if2, ev_ild1, ev_ild2, ev_ild3, ev_ild4, ev_ild5, ev_ild6, ev_inc6, ev_ist6, ev_lbin, ev_lcmp, ev_ri, i00, i01, i10, not_false_eq_true, not_true_eq_false, pm_bd_s, pm_tl_n, pm_tl_s, ↓reduceIte, pb_X9_move_0, pb_X9_move_1, pb_X9_move_2, pb_X9_move_3, pb_X9_move_4, pb_X9_move_5, pb_X9_move_6, kd_59, rf_59_0, rf_59_1, rf_59_3, rf_59_4, rf_59_5, rf_59_6, rf_59_7, rf_59_12, rf_59_14, rf_59_15, rf_59_16, rf_59_19, rf_59_23, rf_59_24, rf_59_25, rf_59_26, is_9_59, kd_72, al_72, kd_73, al_73, sr_isSheet, bI_0, bI_n0, q1', q2', xk, ck, xl, cl, w2, w0, v0, e, w5, nm, ni, nj, lg_cmp_gt, lg_cmp_le, L1, not_true_eq_false, not_false_eq_true, if_true, if_false, find_1]
          · have e' : ¬ h.1 (23 + k) 1 = h.1 (23 + l) 1 := by rw [g4, G4]; exact e
            have w2 : (pm_si h 28 5 (h.1 28 5 + 1)).1 72 = h.1 72 := rfl
            refine Pr_e (e := 5) (x := -1000000005) hI (by omega) (by omega) ?_ ?_
            · rw [en_X8_move]
              simp only [c20, c2i, c2n, c2r, cs8_0, cs8_1, cs8_2, cs8_3, cs8_4, decide_eq_true_eq, ev_ald0, ev_ald6, ev_ald7, ev_aldn0, ev_aldn6, ev_aldn7, ev_ast6, ev_ast7, ev_astn6, ev_astn7, ev_cp, ev_cv0, ev_cv1, ev_cv2, ev_gi, ev_go, ev_gr, ev_i, ev_if0, ev_if2, ev_ifn_0, ev_ifn_1, ev_ifn_2, ev_ifn_3, ev_ild1, ev_ild2, ev_ild3, ev_ild4, ev_ild5, ev_ri, i00, i01, i10, not_false_eq_true, not_true_eq_false, pm_bd_s, pm_tl_n, pm_tl_s, ↓reduceIte, pb_X8_move_0, pb_X8_move_1, pb_X8_move_2, pb_X8_move_3, pb_X8_move_4, kd_0, rf_0_0, rf_0_1, rf_0_2, rf_0_3, rf_0_4, rf_0_5, rf_0_6, rf_0_7, rf_0_8, is_8_0, f1, F1', sp_sheetOf hk, sp_sheetOf hl, sp_isMissing hk, sp_isMissing hl, bI_0, bI_n0, w0', v0', e', not_true_eq_false, not_false_eq_true, if_true, if_false, fail_5, F5]
            · rw [en_X9_move]
              simp only [c20, c2i, c2n, c2r, cs8_0, cs8_1, cs8_2, cs8_3, cs8_4, decide_eq_true_eq, ev_ald0, ev_aldn0, ev_bin, ev_cs1, ev_cv1, ev_go, ev_gr, ev_i, ev_i2l, ev_ia, ev_ias, ev_if0, ev_if2, ev_ild1, ev_ild2, ev_ild3, ev_ild4, ev_ild5, ev_ild6, ev_inc6, ev_ist6, ev_lbin, ev_lcmp, ev_ri, i00, i01, i10, not_false_eq_true, not_true_eq_false, pm_bd_s, pm_tl_n, pm_tl_s, ↓reduceIte, pb_X9_move_0, pb_X9_move_1, pb_X9_move_2, pb_X9_move_3, pb_X9_move_4, kd_59, rf_59_0, rf_59_1, rf_59_3, rf_59_4, rf_59_5, rf_59_6, rf_59_7, rf_59_12, rf_59_14, rf_59_15, rf_59_16, rf_59_19, rf_59_23, rf_59_24, rf_59_25, rf_59_26, is_9_59, kd_72, al_72, sr_isSheet, bI_0, bI_n0, q1', q2', xk, ck, xl, cl, w2, w0, v0, e, not_true_eq_false, not_false_eq_true, if_true, if_false, find_5]
    · refine Pr_e (e := 1) (x := -1000000001) hI (by omega) (by omega) ?_ ?_
      · rw [en_X8_move]
        simp only [c20, c2i, c2n, c2r, cs8_0, cs8_1, cs8_2, cs8_3, cs8_4, decide_eq_true_eq, ev_ald0, ev_ald6, ev_ald7, ev_aldn0, ev_aldn6, ev_aldn7, ev_ast6, ev_ast7, ev_astn6, ev_astn7, ev_cp, ev_cv0, ev_cv1, ev_cv2, ev_gi, ev_go, ev_gr, ev_i, ev_if0, ev_if2, ev_ifn_0, ev_ifn_1, ev_ifn_2, ev_ifn_3, ev_ild1, ev_ild2, ev_ild3, ev_ild4, ev_ild5, ev_ri, i00, i01, i10, not_false_eq_true, not_true_eq_false, pm_bd_s, pm_tl_n, pm_tl_s, ↓reduceIte, pb_X8_move_0, pb_X8_move_1, kd_0, rf_0_0, rf_0_1, rf_0_2, rf_0_3, rf_0_4, rf_0_5, rf_0_6, rf_0_7, rf_0_8, is_8_0, f1, sp_sheetOf hk, sp_sheetOfN q2, fail_1, F1]
      · rw [en_X9_move]
        simp only [c20, c2i, c2n, c2r, cs8_0, cs8_1, cs8_2, cs8_3, cs8_4, decide_eq_true_eq, ev_ald0, ev_aldn0, ev_bin, ev_cs1, ev_cv1, ev_go, ev_gr, ev_i, ev_i2l, ev_ia, ev_ias, ev_if0, ev_if2, ev_ild1, ev_ild2, ev_ild3, ev_ild4, ev_ild5, ev_ild6, ev_inc6, ev_ist6, ev_lbin, ev_lcmp, ev_ri, i00, i01, i10, not_false_eq_true, not_true_eq_false, pm_bd_s, pm_tl_n, pm_tl_s, ↓reduceIte, pb_X9_move_0, pb_X9_move_1, kd_59, rf_59_0, rf_59_1, rf_59_3, rf_59_4, rf_59_5, rf_59_6, rf_59_7, rf_59_12, rf_59_14, rf_59_15, rf_59_16, rf_59_19, rf_59_23, rf_59_24, rf_59_25, rf_59_26, is_9_59, sr_isSheet, bI_0, bI_n0, q1', eq_false q2, not_true_eq_false, not_false_eq_true, if_true, if_false, find_1]
  · have r2 : ∃ v, rs fb (d + 99) n_X8_sheetOf [.ref 0, .int o] h = some (some v, h) ∧ (v = .null ∨ ∃ a, v = .ref a) := by
      by_cases q2 : 0 ≤ o ∧ o ≤ 3
      · obtain ⟨l, hl, rfl⟩ := k_of q2
        exact ⟨_, sp_sheetOf (d := d + 97) hl, Or.inr ⟨_, rfl⟩⟩
      · exact ⟨_, sp_sheetOfN (d := d + 97) q2, Or.inl rfl⟩
    obtain ⟨v, r2, rv⟩ := r2
    refine Pr_e (e := 1) (x := -1000000001) hI (by omega) (by omega) ?_ ?_
    · rw [en_X8_move]
      rcases rv with rfl | ⟨a, rfl⟩
      · simp only [c20, c2i, c2n, c2r, cs8_0, cs8_1, cs8_2, cs8_3, cs8_4, decide_eq_true_eq, ev_ald0, ev_ald6, ev_ald7, ev_aldn0, ev_aldn6, ev_aldn7, ev_ast6, ev_ast7, ev_astn6, ev_astn7, ev_cp, ev_cv0, ev_cv1, ev_cv2, ev_gi, ev_go, ev_gr, ev_i, ev_if0, ev_if2, ev_ifn_0, ev_ifn_1, ev_ifn_2, ev_ifn_3, ev_ild1, ev_ild2, ev_ild3, ev_ild4, ev_ild5, ev_ri, i00, i01, i10, not_false_eq_true, not_true_eq_false, pm_bd_s, pm_tl_n, pm_tl_s, ↓reduceIte, pb_X8_move_0, pb_X8_move_1, kd_0, rf_0_0, rf_0_1, rf_0_2, rf_0_3, rf_0_4, rf_0_5, rf_0_6, rf_0_7, rf_0_8, is_8_0, sp_sheetOfN q1, r2, fail_1, F1]
      · simp only [c20, c2i, c2n, c2r, cs8_0, cs8_1, cs8_2, cs8_3, cs8_4, decide_eq_true_eq, ev_ald0, ev_ald6, ev_ald7, ev_aldn0, ev_aldn6, ev_aldn7, ev_ast6, ev_ast7, ev_astn6, ev_astn7, ev_cp, ev_cv0, ev_cv1, ev_cv2, ev_gi, ev_go, ev_gr, ev_i, ev_if0, ev_if2, ev_ifn_0, ev_ifn_1, ev_ifn_2, ev_ifn_3, ev_ild1, ev_ild2, ev_ild3, ev_ild4, ev_ild5, ev_ri, i00, i01, i10, not_false_eq_true, not_true_eq_false, pm_bd_s, pm_tl_n, pm_tl_s, ↓reduceIte, pb_X8_move_0, pb_X8_move_1, kd_0, rf_0_0, rf_0_1, rf_0_2, rf_0_3, rf_0_4, rf_0_5, rf_0_6, rf_0_7, rf_0_8, is_8_0, sp_sheetOfN q1, r2, fail_1, F1]
    · rw [en_X9_move]
      simp only [c20, c2i, c2n, c2r, cs8_0, cs8_1, cs8_2, cs8_3, cs8_4, decide_eq_true_eq, ev_ald0, ev_aldn0, ev_bin, ev_cs1, ev_cv1, ev_go, ev_gr, ev_i, ev_i2l, ev_ia, ev_ias, ev_if0, ev_if2, ev_ild1, ev_ild2, ev_ild3, ev_ild4, ev_ild5, ev_ild6, ev_inc6, ev_ist6, ev_lbin, ev_lcmp, ev_ri, i00, i01, i10, not_false_eq_true, not_true_eq_false, pm_bd_s, pm_tl_n, pm_tl_s, ↓reduceIte, pb_X9_move_0, pb_X9_move_1, kd_59, rf_59_0, rf_59_1, rf_59_3, rf_59_4, rf_59_5, rf_59_6, rf_59_7, rf_59_12, rf_59_14, rf_59_15, rf_59_16, rf_59_19, rf_59_23, rf_59_24, rf_59_25, rf_59_26, is_9_59, sr_isSheet, bI_0, bI_n0, eq_false q1, not_false_eq_true, if_true, find_1]
end PR
