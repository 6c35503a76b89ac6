/-! PAIRS OF CALLS: checks -/
theorem bv1 (v : BitVec 32) (s : Nat) (hs : s ≤ 31) : v.sshiftRight s &&& 1#32 = v >>> s &&& 1#32 := by
  apply BitVec.eq_of_getElem_eq
  intro j hj
  simp only [BitVec.getElem_and]
  by_cases c : j < 1
  · congr 1
    rw [BitVec.getElem_sshiftRight, BitVec.getElem_ushiftRight, dif_pos (show s + j < 32 by omega)]
    rw [BitVec.getLsbD_eq_getElem (by omega)]
  · have e : (1#32)[j] = false := by
      have : ∀ j, j < 32 → ¬ j < 1 → (1#32).getLsbD j = false := by decide
      rw [← BitVec.getLsbD_eq_getElem]
      exact this j hj c
    rw [e, Bool.and_false, Bool.and_false]
theorem btR (x : Int32) (i : Nat) (hi : i < 24) : (x >>> (nI i &&& 31)) &&& 1 = btF x i := by
  unfold btF
  apply Int32.toBitVec_inj.1
  rcases (show i = 0 ∨ i = 1 ∨ i = 2 ∨ i = 3 ∨ i = 4 ∨ i = 5 ∨ i = 6 ∨ i = 7 ∨ i = 8 ∨ i = 9 ∨ i = 10 ∨ i = 11 ∨ i = 12 ∨ i = 13 ∨ i = 14 ∨ i = 15 ∨ i = 16 ∨ i = 17 ∨ i = 18 ∨ i = 19 ∨ i = 20 ∨ i = 21 ∨ i = 22 ∨ i = 23 by omega) with rfl | rfl | rfl | rfl | rfl | rfl | rfl | rfl | rfl | rfl | rfl | rfl | rfl | rfl | rfl | rfl | rfl | rfl | rfl | rfl | rfl | rfl | rfl | rfl
  · rw [show nI 0 &&& 31 = 0 by decide, show (nI 0).toUInt32 &&& Int32.toUInt32 31 = 0 by decide]
    simp
  · rw [show nI 1 &&& 31 = 1 by decide, show (nI 1).toUInt32 &&& Int32.toUInt32 31 = 1 by decide]
    simpa using bv1 x.toBitVec 1 (by omega)
  · rw [show nI 2 &&& 31 = 2 by decide, show (nI 2).toUInt32 &&& Int32.toUInt32 31 = 2 by decide]
    simpa using bv1 x.toBitVec 2 (by omega)
  · rw [show nI 3 &&& 31 = 3 by decide, show (nI 3).toUInt32 &&& Int32.toUInt32 31 = 3 by decide]
    simpa using bv1 x.toBitVec 3 (by omega)
  · rw [show nI 4 &&& 31 = 4 by decide, show (nI 4).toUInt32 &&& Int32.toUInt32 31 = 4 by decide]
    simpa using bv1 x.toBitVec 4 (by omega)
  · rw [show nI 5 &&& 31 = 5 by decide, show (nI 5).toUInt32 &&& Int32.toUInt32 31 = 5 by decide]
    simpa using bv1 x.toBitVec 5 (by omega)
  · rw [show nI 6 &&& 31 = 6 by decide, show (nI 6).toUInt32 &&& Int32.toUInt32 31 = 6 by decide]
    simpa using bv1 x.toBitVec 6 (by omega)
  · rw [show nI 7 &&& 31 = 7 by decide, show (nI 7).toUInt32 &&& Int32.toUInt32 31 = 7 by decide]
    simpa using bv1 x.toBitVec 7 (by omega)
  · rw [show nI 8 &&& 31 = 8 by decide, show (nI 8).toUInt32 &&& Int32.toUInt32 31 = 8 by decide]
    simpa using bv1 x.toBitVec 8 (by omega)
  · rw [show nI 9 &&& 31 = 9 by decide, show (nI 9).toUInt32 &&& Int32.toUInt32 31 = 9 by decide]
    simpa using bv1 x.toBitVec 9 (by omega)
  · rw [show nI 10 &&& 31 = 10 by decide, show (nI 10).toUInt32 &&& Int32.toUInt32 31 = 10 by decide]
    simpa using bv1 x.toBitVec 10 (by omega)
  · rw [show nI 11 &&& 31 = 11 by decide, show (nI 11).toUInt32 &&& Int32.toUInt32 31 = 11 by decide]
    simpa using bv1 x.toBitVec 11 (by omega)
  · rw [show nI 12 &&& 31 = 12 by decide, show (nI 12).toUInt32 &&& Int32.toUInt32 31 = 12 by decide]
    simpa using bv1 x.toBitVec 12 (by omega)
  · rw [show nI 13 &&& 31 = 13 by decide, show (nI 13).toUInt32 &&& Int32.toUInt32 31 = 13 by decide]
    simpa using bv1 x.toBitVec 13 (by omega)
  · rw [show nI 14 &&& 31 = 14 by decide, show (nI 14).toUInt32 &&& Int32.toUInt32 31 = 14 by decide]
    simpa using bv1 x.toBitVec 14 (by omega)
  · rw [show nI 15 &&& 31 = 15 by decide, show (nI 15).toUInt32 &&& Int32.toUInt32 31 = 15 by decide]
    simpa using bv1 x.toBitVec 15 (by omega)
  · rw [show nI 16 &&& 31 = 16 by decide, show (nI 16).toUInt32 &&& Int32.toUInt32 31 = 16 by decide]
    simpa using bv1 x.toBitVec 16 (by omega)
  · rw [show nI 17 &&& 31 = 17 by decide, show (nI 17).toUInt32 &&& Int32.toUInt32 31 = 17 by decide]
    simpa using bv1 x.toBitVec 17 (by omega)
  · rw [show nI 18 &&& 31 = 18 by decide, show (nI 18).toUInt32 &&& Int32.toUInt32 31 = 18 by decide]
    simpa using bv1 x.toBitVec 18 (by omega)
  · rw [show nI 19 &&& 31 = 19 by decide, show (nI 19).toUInt32 &&& Int32.toUInt32 31 = 19 by decide]
    simpa using bv1 x.toBitVec 19 (by omega)
  · rw [show nI 20 &&& 31 = 20 by decide, show (nI 20).toUInt32 &&& Int32.toUInt32 31 = 20 by decide]
    simpa using bv1 x.toBitVec 20 (by omega)
  · rw [show nI 21 &&& 31 = 21 by decide, show (nI 21).toUInt32 &&& Int32.toUInt32 31 = 21 by decide]
    simpa using bv1 x.toBitVec 21 (by omega)
  · rw [show nI 22 &&& 31 = 22 by decide, show (nI 22).toUInt32 &&& Int32.toUInt32 31 = 22 by decide]
    simpa using bv1 x.toBitVec 22 (by omega)
  · rw [show nI 23 &&& 31 = 23 by decide, show (nI 23).toUInt32 &&& Int32.toUInt32 31 = 23 by decide]
    simpa using bv1 x.toBitVec 23 (by omega)
theorem c1_nz : ∀ i, i < 24 → ¬ c1F i = 0 := by decide +kernel
theorem c2_nz : ∀ l, l < 24 → ∀ i, i < 24 → ¬ c2F l i = 0 := by decide +kernel
theorem bt_01 (x : Int32) (i : Nat) : btF x i = 0 ∨ btF x i = 1 := by
  unfold btF
  generalize (x.toUInt32 >>> ((nI i).toUInt32 &&& Int32.toUInt32 31)).toInt32 = y
  have e : (y &&& 1).toBitVec.toNat ≤ 1 := by
    show (y.toBitVec &&& 1#32).toNat ≤ 1
    rw [BitVec.toNat_and]
    exact Nat.and_le_right
  rcases (show (y &&& 1).toBitVec.toNat = 0 ∨ (y &&& 1).toBitVec.toNat = 1 by omega) with c | c
  · left
    apply Int32.toBitVec_inj.1
    apply BitVec.eq_of_toNat_eq
    rw [c]; rfl
  · right
    apply Int32.toBitVec_inj.1
    apply BitVec.eq_of_toNat_eq
    rw [c]; rfl
def ckM (h : pm_HP) (set : Int32) : Nat → Nat → Int32 := fun c i => if c = 3 then btF set i else rm h c i
def oW (h : pm_HP) (n u : Nat) (set : Int32) : Int32 := ab32 (sdF (ckM h set) (rLe h u) (rPu h u) n - h.1 60 6)
theorem ow_sd {M : Nat → Nat → Int32} {L P A D : Nat → Int32} {set : Int32} {n : Nat} (hM : ∀ i, i < n → M 3 i = btF set i) (hA : ∀ i, i < n → A i = L i) (hD : ∀ i, i < n → D i = drF M P i) : ∀ (k i : Nat), i + k = n → owA set A D i k (tnF M L i) (sdF M L P i) = sdF M L P n
  | 0, i, hi => by
    obtain rfl : i = n := by omega
    rfl
  | k + 1, i, hi => by
    have e := ow_sd (P := P) hM hA hD k (i + 1) (by omega)
    rw [owA, ← e, hA i (by omega), hD i (by omega), ← hM i (by omega), tnF, sdF, tnF, Int32.add_assoc (sdF M L P i)]
def ck1 (h : pm_HP) (set : Int32) (i : Nat) : pm_HP := (fun a b => if a = 60 ∧ 8 ≤ b ∧ b < 8 + 5 * i ∧ b % 5 = 1 then btF set ((b - 8) / 5) else if a = 70 ∧ b < i then h.1 60 (8 + 5 * b + 3) else h.1 a b, h.2)
theorem ck1_at (h : pm_HP) (set : Int32) (i a b : Nat) : (ck1 h set i).1 a b = if a = 60 ∧ 8 ≤ b ∧ b < 8 + 5 * i ∧ b % 5 = 1 then btF set ((b - 8) / 5) else if a = 70 ∧ b < i then h.1 60 (8 + 5 * b + 3) else h.1 a b := rfl
theorem ck1_0 (h : pm_HP) (set : Int32) : ck1 h set 0 = h := by
  unfold ck1
  congr 1
  funext a b
  rw [if_neg (by omega), if_neg (by omega)]
theorem ck1_s (h : pm_HP) (set : Int32) (i : Nat) : pm_si (pm_si (ck1 h set i) 60 (8 + 5 * i + 3) (btF set i)) 70 i (h.1 60 (8 + 5 * i + 3)) = ck1 h set (i + 1) := by
  unfold ck1 pm_si
  congr 1
  funext a b
  dsimp only
  by_cases q : a = 70 ∧ b = i
  · rw [if_pos q, if_neg (by omega), if_pos ⟨q.1, by omega⟩, q.2]
  · rw [if_neg q]
    by_cases q2 : a = 60 ∧ b = 8 + 5 * i + 3
    · rw [if_pos q2, if_pos ⟨q2.1, by omega, by omega, by omega⟩, q2.2, show (8 + 5 * i + 3 - 8) / 5 = i by omega]
    · rw [if_neg q2]
      by_cases q3 : a = 60 ∧ 8 ≤ b ∧ b < 8 + 5 * i ∧ b % 5 = 1
      · rw [if_pos q3, if_pos ⟨q3.1, q3.2.1, by omega, q3.2.2.2⟩]
      · rw [if_neg q3, if_neg (show ¬ (a = 60 ∧ 8 ≤ b ∧ b < 8 + 5 * (i + 1) ∧ b % 5 = 1) by omega)]
        by_cases q4 : a = 70 ∧ b < i
        · rw [if_pos q4, if_pos ⟨q4.1, by omega⟩]
        · rw [if_neg q4, if_neg (by omega)]
def ck2 (h : pm_HP) (i : Nat) : pm_HP := (fun a b => if a = 60 ∧ 8 ≤ b ∧ b < 8 + 5 * i ∧ b % 5 = 1 then h.1 70 ((b - 8) / 5) else h.1 a b, h.2)
theorem ck2_at (h : pm_HP) (i a b : Nat) : (ck2 h i).1 a b = if a = 60 ∧ 8 ≤ b ∧ b < 8 + 5 * i ∧ b % 5 = 1 then h.1 70 ((b - 8) / 5) else h.1 a b := rfl
theorem ck2_0 (h : pm_HP) : ck2 h 0 = h := by
  unfold ck2
  congr 1
  funext a b
  rw [if_neg (by omega)]
theorem ck2_s (h : pm_HP) (i : Nat) : pm_si (ck2 h i) 60 (8 + 5 * i + 3) (h.1 70 i) = ck2 h (i + 1) := by
  unfold ck2 pm_si
  congr 1
  funext a b
  dsimp only
  by_cases q2 : a = 60 ∧ b = 8 + 5 * i + 3
  · rw [if_pos q2, if_pos ⟨q2.1, by omega, by omega, by omega⟩, q2.2, show (8 + 5 * i + 3 - 8) / 5 = i by omega]
  · rw [if_neg q2]
    by_cases q3 : a = 60 ∧ 8 ≤ b ∧ b < 8 + 5 * i ∧ b % 5 = 1
    · rw [if_pos q3, if_pos ⟨q3.1, q3.2.1, by omega, q3.2.2.2⟩]
    · rw [if_neg q3, if_neg (by omega)]
section PT
variable {fb : Bool} {d : Nat} {h : pm_HP}
set_option maxRecDepth 100000 in
theorem lp_ob1 {set : Int32} : ∀ (k i : Nat), i + k = 24 → pm_ev P_X9_offBy (rs fb (d + 1)) (P_X9_offBy 1) [some (.ref 59), some (.int set), some (.int (nI i))] [] (ck1 h set i) = pm_ev P_X9_offBy (rs fb (d + 1)) (P_X9_offBy 2) [some (.ref 59), some (.int set), some (.int (nI 24))] [] (ck1 h set 24) := by
  intro k
  induction k with
  | zero =>
    intro i hi
    obtain rfl : i = 24 := by omega
    have e1 : (24 : Int32) ≤ nI 24 := Int32.le_refl _
    rw [pb_X9_offBy_1]
    simp only [c20, c2i, c2n, c2r, cs8_0, cs8_1, cs8_2, cs8_3, cs8_4, decide_eq_true_eq, ev_ald0, ev_aldn0, ev_bin, ev_cv0, ev_cv1, ev_cv2, ev_go, ev_gr, ev_i, ev_ia, ev_ias, ev_if2, ev_ild1, ev_ild2, ev_inc2, ev_ist2, ev_m1, ev_ri, i00, i01, i10, not_false_eq_true, not_true_eq_false, pm_bd_s, pm_tl_n, pm_tl_s, ↓reduceIte, kd_59, rf_59_0, rf_59_1, rf_59_3, rf_59_4, rf_59_5, rf_59_6, rf_59_7, rf_59_12, rf_59_14, rf_59_15, rf_59_16, rf_59_19, rf_59_23, rf_59_24, rf_59_25, rf_59_26, is_9_59, e1, if_true]
  | succ k ih =>
    intro i hi
    have e1 : ¬ (24 : Int32) ≤ nI i := nI_ge (b := 24) (by omega) (by omega)
    have e : (8 : Int32) + 5 * nI i + 3 = nI (8 + 5 * i + 3) := by
      show nI 8 + nI 5 * nI i + nI 3 = _
      rw [nI_mul, nI_add, nI_add]
    have b := sr_become (fb := fb) (d := d) (h := ck1 h set i) (c := 8 + 5 * i + 3) (v := btF set i) (by omega)
    rw [ck1_at, if_neg (by omega), if_neg (by omega)] at b
    have x1 : pm_ix (nI i) 24 = true := pm_ix_n (by omega) (by omega)
    have c1 := nI_clamp (show i < 2 ^ 31 by omega)
    rw [pb_X9_offBy_1]
    simp only [c20, c2i, c2n, c2r, cs8_0, cs8_1, cs8_2, cs8_3, cs8_4, decide_eq_true_eq, ev_ald0, ev_aldn0, ev_bin, ev_cv0, ev_cv1, ev_cv2, ev_go, ev_gr, ev_i, ev_ia, ev_ias, ev_if2, ev_ild1, ev_ild2, ev_inc2, ev_ist2, ev_m1, ev_ri, i00, i01, i10, not_false_eq_true, not_true_eq_false, pm_bd_s, pm_tl_n, pm_tl_s, ↓reduceIte, kd_59, rf_59_0, rf_59_1, rf_59_3, rf_59_4, rf_59_5, rf_59_6, rf_59_7, rf_59_12, rf_59_14, rf_59_15, rf_59_16, rf_59_19, rf_59_23, rf_59_24, rf_59_25, rf_59_26, is_9_59, kd_70, al_70, e1, e, btR set i (show i < 24 by omega), b, x1, c1, ck1_s, nI_1, if_true, if_false]
    exact ih (i + 1) (by omega)
set_option maxRecDepth 100000 in
theorem lp_ob2 {set : Int32} : ∀ (k i : Nat), i + k = 24 → pm_ev P_X9_offBy (rs fb (d + 1)) (P_X9_offBy 3) [some (.ref 59), some (.int set), some (.int (nI i))] [] (ck2 h i) = pm_ev P_X9_offBy (rs fb (d + 1)) (P_X9_offBy 4) [some (.ref 59), some (.int set), some (.int (nI 24))] [] (ck2 h 24) := by
  intro k
  induction k with
  | zero =>
    intro i hi
    obtain rfl : i = 24 := by omega
    have e1 : (24 : Int32) ≤ nI 24 := Int32.le_refl _
    rw [pb_X9_offBy_3]
    simp only [c20, c2i, c2n, c2r, cs8_0, cs8_1, cs8_2, cs8_3, cs8_4, decide_eq_true_eq, ev_ald0, ev_aldn0, ev_bin, ev_cv0, ev_cv1, ev_cv2, ev_go, ev_gr, ev_i, ev_ia, ev_ias, ev_if2, ev_ild1, ev_ild2, ev_inc2, ev_ist2, ev_m1, ev_ri, i00, i01, i10, not_false_eq_true, not_true_eq_false, pm_bd_s, pm_tl_n, pm_tl_s, ↓reduceIte, kd_59, rf_59_0, rf_59_1, rf_59_3, rf_59_4, rf_59_5, rf_59_6, rf_59_7, rf_59_12, rf_59_14, rf_59_15, rf_59_16, rf_59_19, rf_59_23, rf_59_24, rf_59_25, rf_59_26, is_9_59, e1, if_true]
  | succ k ih =>
    intro i hi
    have e1 : ¬ (24 : Int32) ≤ nI i := nI_ge (b := 24) (by omega) (by omega)
    have e : (8 : Int32) + 5 * nI i + 3 = nI (8 + 5 * i + 3) := by
      show nI 8 + nI 5 * nI i + nI 3 = _
      rw [nI_mul, nI_add, nI_add]
    have x1 : pm_ix (nI i) 24 = true := pm_ix_n (by omega) (by omega)
    have c1 := nI_clamp (show i < 2 ^ 31 by omega)
    have x2 : pm_ix (nI (8 + 5 * i + 3)) 440 = true := pm_ix_n (by omega) (by omega)
    have c2 := nI_clamp (show 8 + 5 * i + 3 < 2 ^ 31 by omega)
    have v : (ck2 h i).1 70 i = h.1 70 i := by rw [ck2_at, if_neg (by omega)]
    rw [pb_X9_offBy_3]
    simp only [c20, c2i, c2n, c2r, cs8_0, cs8_1, cs8_2, cs8_3, cs8_4, decide_eq_true_eq, ev_ald0, ev_aldn0, ev_bin, ev_cv0, ev_cv1, ev_cv2, ev_go, ev_gr, ev_i, ev_ia, ev_ias, ev_if2, ev_ild1, ev_ild2, ev_inc2, ev_ist2, ev_m1, ev_ri, i00, i01, i10, not_false_eq_true, not_true_eq_false, pm_bd_s, pm_tl_n, pm_tl_s, ↓reduceIte, kd_59, rf_59_0, rf_59_1, rf_59_3, rf_59_4, rf_59_5, rf_59_6, rf_59_7, rf_59_12, rf_59_14, rf_59_15, rf_59_16, rf_59_19, rf_59_23, rf_59_24, rf_59_25, rf_59_26, is_9_59, kd_60, al_60, kd_70, al_70, e1, e, x1, c1, x2, c2, v, ck2_s, nI_1, if_true, if_false]
    exact ih (i + 1) (by omega)
theorem sr_offBy {h1 : pm_HP} {n u nt nb nw : Nat} {set : Int32} (iS : RS h (31 + 1) 60) (iN : RN h 3 60 n u nt nb nw) (h60 : h1.1 60 = h.1 60) (h63 : h1.1 63 0 = 0) (h64 : h1.1 64 0 = 0) : ∃ h2, rs fb (d + 99) n_X9_offBy [.ref 59, .int set] h1 = some (some (.int (oW h n u set)), h2) ∧ frm [63, 64, 65, 70] h1 h2 ∧ h2.1 63 0 = 0 ∧ h2.1 64 0 = 0 := by
  have hn := iN.1.2.2.2
  have hu := iN.2.1.2.2
  have C : ∀ b, (b < 8 ∨ 128 ≤ b) → (ck1 h1 set 24).1 60 b = h.1 60 b := fun b hb => by rw [ck1_at, if_neg (by omega), if_neg (by omega), h60]
  have el : rl (ck1 h1 set 24) = rl h := by funext c s; unfold rl; rw [C _ (by omega)]
  have er : ∀ i, i < 24 → ∀ c, c < 5 → rm (ck1 h1 set 24) c i = ckM h set c i := by
    intro i hi c hc
    unfold ckM rm
    rw [ck1_at]
    by_cases q : c = 3
    · subst q
      rw [if_pos ⟨rfl, by omega, by omega, by omega⟩, if_pos rfl, show (8 + 5 * i + 3 - 8) / 5 = i by omega]
    · rw [if_neg (by omega), if_neg (by omega), if_neg q, h60]
  have eL : rLe (ck1 h1 set 24) u = rLe h u := by funext i; unfold rLe; rw [el]
  have eP : ∀ i, i < 24 → rPu (ck1 h1 set 24) u i = rPu h u i := by
    intro i hi
    unfold rPu
    rw [el, er i hi 2 (by omega)]
    rfl
  obtain ⟨h2, r, hf, k1, k2⟩ := sr_goes (fb := fb) (d := d + 94) (h := ck1 h1 set 24) (n := n) (u := u) hn hu (by rw [C 1 (by omega)]; exact iN.2.1.2.1) (by rw [C 0 (by omega)]; exact iN.1.2.1) (fun s hs => by rw [el]; exact (iS s hs).2.2.2.1) (by rw [ck1_at, if_neg (by omega), if_neg (by omega)]; exact h63) (by rw [ck1_at, if_neg (by omega), if_neg (by omega)]; exact h64)
  have a1 := lp_ob1 (fb := fb) (d := d + 97) (h := h1) (set := set) 24 0 (by omega)
  have a2 := lp_ob2 (fb := fb) (d := d + 97) (h := h2) (set := set) 24 0 (by omega)
  rw [ck1_0, nI_0] at a1
  rw [ck2_0, nI_0] at a2
  have f63 : (ck2 h2 24).1 63 = h2.1 63 := by funext b; rw [ck2_at, if_neg (by omega)]
  have f64 : (ck2 h2 24).1 64 = h2.1 64 := by funext b; rw [ck2_at, if_neg (by omega)]
  have f60 : (ck2 h2 24).1 60 = h1.1 60 := by
    funext b
    rw [ck2_at]
    by_cases q : 60 = 60 ∧ 8 ≤ b ∧ b < 8 + 5 * 24 ∧ b % 5 = 1
    · rw [if_pos q, hf.1 70 (by decide), ck1_at, if_neg (by omega), if_pos ⟨rfl, by omega⟩, show 8 + 5 * ((b - 8) / 5) + 3 = b by omega]
    · rw [if_neg q, hf.1 60 (by decide), ck1_at, if_neg q, if_neg (by omega)]
  have ms := sr_miss0 (fb := fb) (d := d + 97) (h := ck2 h2 24) (n := n) (by rw [f60, h60]; exact iN.1.2.1) hn
  rw [f63, f60, h60, (k1 n (Nat.le_refl _)).1] at ms
  have es : sdF (rm (ck1 h1 set 24)) (rLe (ck1 h1 set 24) u) (rPu (ck1 h1 set 24) u) n = sdF (ckM h set) (rLe h u) (rPu h u) n := sdF_congr (fun i hi c hc => er i (by omega) c hc) (fun i hi => by rw [eL]) (fun i hi => eP i (by omega)) n (Nat.le_refl _)
  rw [es] at ms
  have ab : ∀ x : Int32, (if 0 ≤ x then x else 0 - x) = ab32 x := fun _ => rfl
  have eo : ab32 (sdF (ckM h set) (rLe h u) (rPu h u) n - h.1 60 6) = oW h n u set := rfl
  refine ⟨ck2 h2 24, ?_, ⟨fun a ha => ?_, hf.2⟩, ?_, ?_⟩
  · rw [en_X9_offBy]
    simp only [c20, c2i, c2n, c2r, cs8_0, cs8_1, cs8_2, cs8_3, cs8_4, decide_eq_true_eq, ev_ald0, ev_aldn0, ev_bin, ev_cv0, ev_cv1, ev_cv2, ev_go, ev_gr, ev_i, ev_ia, ev_ias, ev_if2, ev_ild1, ev_ild2, ev_inc2, ev_ist2, ev_m1, ev_ri, i00, i01, i10, not_false_eq_true, not_true_eq_false, pm_bd_s, pm_tl_n, pm_tl_s, ↓reduceIte, pb_X9_offBy_0, kd_59, rf_59_0, rf_59_1, rf_59_3, rf_59_4, rf_59_5, rf_59_6, rf_59_7, rf_59_12, rf_59_14, rf_59_15, rf_59_16, rf_59_19, rf_59_23, rf_59_24, rf_59_25, rf_59_26, is_9_59]
    rw [a1, pb_X9_offBy_2]
    simp only [c20, c2i, c2n, c2r, cs8_0, cs8_1, cs8_2, cs8_3, cs8_4, decide_eq_true_eq, ev_ald0, ev_aldn0, ev_bin, ev_cv0, ev_cv1, ev_cv2, ev_go, ev_gr, ev_i, ev_ia, ev_ias, ev_if2, ev_ild1, ev_ild2, ev_inc2, ev_ist2, ev_m1, ev_ri, i00, i01, i10, not_false_eq_true, not_true_eq_false, pm_bd_s, pm_tl_n, pm_tl_s, ↓reduceIte, kd_59, rf_59_0, rf_59_1, rf_59_3, rf_59_4, rf_59_5, rf_59_6, rf_59_7, rf_59_12, rf_59_14, rf_59_15, rf_59_16, rf_59_19, rf_59_23, rf_59_24, rf_59_25, rf_59_26, is_9_59, r]
    rw [a2, pb_X9_offBy_4]
    simp only [c20, c2i, c2n, c2r, cs8_0, cs8_1, cs8_2, cs8_3, cs8_4, decide_eq_true_eq, ev_ald0, ev_aldn0, ev_bin, ev_cv0, ev_cv1, ev_cv2, ev_go, ev_gr, ev_i, ev_ia, ev_ias, ev_if2, ev_ild1, ev_ild2, ev_inc2, ev_ist2, ev_m1, ev_ri, i00, i01, i10, not_false_eq_true, not_true_eq_false, pm_bd_s, pm_tl_n, pm_tl_s, ↓reduceIte, kd_59, rf_59_0, rf_59_1, rf_59_3, rf_59_4, rf_59_5, rf_59_6, rf_59_7, rf_59_12, rf_59_14, rf_59_15, rf_59_16, rf_59_19, rf_59_23, rf_59_24, rf_59_25, rf_59_26, is_9_59, ms, ab, eo, if_true]
  · by_cases q : a = 60
    · subst q
      exact f60
    · funext b
      rw [ck2_at, if_neg (by omega), hf.1 a (by simp at ha ⊢; omega), ck1_at, if_neg (by omega), if_neg (fun t => ha (by simp [t.1]))]
  · rw [f63, (k1 0 (by omega)).1]; rfl
  · rw [f64, (k1 0 (by omega)).2]; rfl
def bN (off : Int32 → Int32) (set : Int32) (b : Int32 × Int32) : Int32 × Int32 := if b.1 = 0 ∨ off set < b.2 then (set, off set) else b
/-- one candidate tried: from block 9 to block 11 -/
theorem ob_try {h1 : pm_HP} {n u nt nb nw : Nat} {set x y : Int32} {b : Int32 × Int32} {i j : Int32} {p8 p9 : Option Value} (iS : RS h (31 + 1) 60) (iN : RN h 3 60 n u nt nb nw) (h60 : h1.1 60 = h.1 60) (h63 : h1.1 63 0 = 0) (h64 : h1.1 64 0 = 0) : ∃ h2, frm [63, 64, 65, 70] h1 h2 ∧ h2.1 63 0 = 0 ∧ h2.1 64 0 = 0 ∧ pm_ev P_X9_checks (rs fb (d + 99)) (P_X9_checks 9) [some (.ref 59), some (.int x), some (.int y), some (.int (nI n)), some (.int b.1), some (.int b.2), some (.int i), some (.int j), p8, p9] [.int set] h1 = pm_ev P_X9_checks (rs fb (d + 99)) (P_X9_checks 5) [some (.ref 59), some (.int x), some (.int y), some (.int (nI n)), some (.int (bN (oW h n u) set b).1), some (.int (bN (oW h n u) set b).2), some (.int i), some (.int (j + 1)), some (.int set), some (.int (oW h n u set))] [] h2 := by
  obtain ⟨h2, r, f, z1, z2⟩ := sr_offBy (fb := fb) (d := d) (set := set) iS iN h60 h63 h64
  refine ⟨h2, f, z1, z2, ?_⟩
  rw [pb_X9_checks_9]
  unfold bN
  by_cases q1 : b.1 = 0
  · rw [if_pos (Or.inl q1)]
    simp only [c20, c2i, c2n, c2r, cs8_0, cs8_1, cs8_2, cs8_3, cs8_4, decide_eq_true_eq, ev_ald0, ev_aldn0, ev_bin, ev_cs3, ev_cv1, ev_go, ev_gr, ev_i, ev_ia, ev_if0, ev_if2, ev_ild1, ev_ild2, ev_ild3, ev_ild4, ev_ild5, ev_ild6, ev_ild7, ev_ild8, ev_ild9, ev_inc6, ev_inc7, ev_ist3, ev_ist4, ev_ist5, ev_ist6, ev_ist7, ev_ist8, ev_ist9, ev_ri, i00, i01, i10, not_false_eq_true, not_true_eq_false, pm_bd_s, pm_tl_n, pm_tl_s, ↓reduceIte, pb_X9_checks_10, pb_X9_checks_11, kd_59, rf_59_0, rf_59_1, rf_59_3, rf_59_4, rf_59_5, rf_59_6, rf_59_7, rf_59_12, rf_59_14, rf_59_15, rf_59_16, rf_59_19, rf_59_23, rf_59_24, rf_59_25, rf_59_26, is_9_59, r, q1, if_true]
  · by_cases q2 : b.2 ≤ oW h n u set
    · rw [if_neg (fun t => t.elim q1 (Int32.not_lt.mpr q2))]
      simp only [c20, c2i, c2n, c2r, cs8_0, cs8_1, cs8_2, cs8_3, cs8_4, decide_eq_true_eq, ev_ald0, ev_aldn0, ev_bin, ev_cs3, ev_cv1, ev_go, ev_gr, ev_i, ev_ia, ev_if0, ev_if2, ev_ild1, ev_ild2, ev_ild3, ev_ild4, ev_ild5, ev_ild6, ev_ild7, ev_ild8, ev_ild9, ev_inc6, ev_inc7, ev_ist3, ev_ist4, ev_ist5, ev_ist6, ev_ist7, ev_ist8, ev_ist9, ev_ri, i00, i01, i10, not_false_eq_true, not_true_eq_false, pm_bd_s, pm_tl_n, pm_tl_s, ↓reduceIte, pb_X9_checks_10, pb_X9_checks_11, kd_59, rf_59_0, rf_59_1, rf_59_3, rf_59_4, rf_59_5, rf_59_6, rf_59_7, rf_59_12, rf_59_14, rf_59_15, rf_59_16, rf_59_19, rf_59_23, rf_59_24, rf_59_25, rf_59_26, is_9_59, r, q1, q2, if_true, if_false]
    · rw [if_pos (Or.inr (Int32.not_le.mp q2))]
      simp only [c20, c2i, c2n, c2r, cs8_0, cs8_1, cs8_2, cs8_3, cs8_4, decide_eq_true_eq, ev_ald0, ev_aldn0, ev_bin, ev_cs3, ev_cv1, ev_go, ev_gr, ev_i, ev_ia, ev_if0, ev_if2, ev_ild1, ev_ild2, ev_ild3, ev_ild4, ev_ild5, ev_ild6, ev_ild7, ev_ild8, ev_ild9, ev_inc6, ev_inc7, ev_ist3, ev_ist4, ev_ist5, ev_ist6, ev_ist7, ev_ist8, ev_ist9, ev_ri, i00, i01, i10, not_false_eq_true, not_true_eq_false, pm_bd_s, pm_tl_n, pm_tl_s, ↓reduceIte, pb_X9_checks_10, pb_X9_checks_11, kd_59, rf_59_0, rf_59_1, rf_59_3, rf_59_4, rf_59_5, rf_59_6, rf_59_7, rf_59_12, rf_59_14, rf_59_15, rf_59_16, rf_59_19, rf_59_23, rf_59_24, rf_59_25, rf_59_26, is_9_59, r, q1, q2, if_true, if_false]
def rB (off : Int32 → Int32) (cand : Nat → Int32) : Nat → Nat → Int32 × Int32 → Int32 × Int32
  | _, 0, b => b
  | i, k + 1, b => rB off cand (i + 1) k (bN off (cand i) b)
set_option maxRecDepth 100000 in
theorem lp_ck1 {h0 : pm_HP} {n u nt nb nw : Nat} {y : Int32} (iS : RS h (31 + 1) 60) (iN : RN h 3 60 n u nt nb nw) (h60 : h0.1 60 = h.1 60) : ∀ (k i : Nat) (b : Int32 × Int32) (h1 : pm_HP) (p7 p8 p9 : Option Value), i + k = n → frm [63, 64, 65, 70] h0 h1 → h1.1 63 0 = 0 → h1.1 64 0 = 0 → ∃ h2 q7 q8 q9, frm [63, 64, 65, 70] h0 h2 ∧ h2.1 63 0 = 0 ∧ h2.1 64 0 = 0 ∧ pm_ev P_X9_checks (rs fb (d + 99)) (P_X9_checks 4) [some (.ref 59), some (.int 1), some (.int y), some (.int (nI n)), some (.int b.1), some (.int b.2), some (.int (nI i)), p7, p8, p9] [] h1 = pm_ev P_X9_checks (rs fb (d + 99)) (P_X9_checks 13) [some (.ref 59), some (.int 1), some (.int y), some (.int (nI n)), some (.int (rB (oW h n u) c1F i k b).1), some (.int (rB (oW h n u) c1F i k b).2), some (.int (nI n)), q7, q8, q9] [] h2 := by
  have hn := iN.1.2.2.2
  intro k
  induction k with
  | zero =>
    intro i b h1 p7 p8 p9 hi f z1 z2
    obtain rfl : i = n := by omega
    have e1 : nI i ≤ nI i := Int32.le_refl _
    refine ⟨h1, p7, p8, p9, f, z1, z2, ?_⟩
    rw [pb_X9_checks_4, rB]
    simp only [c20, c2i, c2n, c2r, cs8_0, cs8_1, cs8_2, cs8_3, cs8_4, decide_eq_true_eq, ev_ald0, ev_aldn0, ev_bin, ev_cs3, ev_cv1, ev_go, ev_gr, ev_i, ev_ia, ev_if0, ev_if2, ev_ild1, ev_ild2, ev_ild3, ev_ild4, ev_ild5, ev_ild6, ev_ild7, ev_ild8, ev_ild9, ev_inc6, ev_inc7, ev_ist3, ev_ist4, ev_ist5, ev_ist6, ev_ist7, ev_ist8, ev_ist9, ev_ri, i00, i01, i10, not_false_eq_true, not_true_eq_false, pm_bd_s, pm_tl_n, pm_tl_s, ↓reduceIte, kd_59, rf_59_0, rf_59_1, rf_59_3, rf_59_4, rf_59_5, rf_59_6, rf_59_7, rf_59_12, rf_59_14, rf_59_15, rf_59_16, rf_59_19, rf_59_23, rf_59_24, rf_59_25, rf_59_26, is_9_59, e1, if_true]
  | succ k ih =>
    intro i b h1 p7 p8 p9 hi f z1 z2
    have e1 : ¬ nI n ≤ nI i := nI_ge (by omega) (by omega)
    obtain ⟨h2, f2, y1, y2, e2⟩ := ob_try (fb := fb) (d := d) (h := h) (h1 := h1) (set := c1F i) (x := 1) (y := y) (b := b) (i := nI i) (j := 0) (p8 := p8) (p9 := p9) iS iN (by rw [f.1 60 (by decide)]; exact h60) z1 z2
    obtain ⟨h3, q7, q8, q9, f3, w1, w2, e3⟩ := ih (i + 1) (bN (oW h n u) (c1F i) b) h2 (some (.int (0 + 1))) (some (.int (c1F i))) (some (.int (oW h n u (c1F i)))) (by omega) (f.tr f2) y1 y2
    refine ⟨h3, q7, q8, q9, f3, w1, w2, ?_⟩
    have es : (1 : Int32) <<< (nI i &&& 31) = c1F i := rfl
    have c10 : ¬ (1 : Int32) ≤ 0 := by decide
    have c11 : (1 : Int32) ≤ 0 + 1 := by decide
    rw [pb_X9_checks_4, rB]
    simp only [c20, c2i, c2n, c2r, cs8_0, cs8_1, cs8_2, cs8_3, cs8_4, decide_eq_true_eq, ev_ald0, ev_aldn0, ev_bin, ev_cs3, ev_cv1, ev_go, ev_gr, ev_i, ev_ia, ev_if0, ev_if2, ev_ild1, ev_ild2, ev_ild3, ev_ild4, ev_ild5, ev_ild6, ev_ild7, ev_ild8, ev_ild9, ev_inc6, ev_inc7, ev_ist3, ev_ist4, ev_ist5, ev_ist6, ev_ist7, ev_ist8, ev_ist9, ev_ri, i00, i01, i10, not_false_eq_true, not_true_eq_false, pm_bd_s, pm_tl_n, pm_tl_s, ↓reduceIte, pb_X9_checks_5, pb_X9_checks_6, pb_X9_checks_7, pb_X9_checks_8, kd_59, rf_59_0, rf_59_1, rf_59_3, rf_59_4, rf_59_5, rf_59_6, rf_59_7, rf_59_12, rf_59_14, rf_59_15, rf_59_16, rf_59_19, rf_59_23, rf_59_24, rf_59_25, rf_59_26, is_9_59, e1, es, c10, not_true_eq_false, if_true, if_false]
    rw [e2, pb_X9_checks_5]
    simp only [c20, c2i, c2n, c2r, cs8_0, cs8_1, cs8_2, cs8_3, cs8_4, decide_eq_true_eq, ev_ald0, ev_aldn0, ev_bin, ev_cs3, ev_cv1, ev_go, ev_gr, ev_i, ev_ia, ev_if0, ev_if2, ev_ild1, ev_ild2, ev_ild3, ev_ild4, ev_ild5, ev_ild6, ev_ild7, ev_ild8, ev_ild9, ev_inc6, ev_inc7, ev_ist3, ev_ist4, ev_ist5, ev_ist6, ev_ist7, ev_ist8, ev_ist9, ev_ri, i00, i01, i10, not_false_eq_true, not_true_eq_false, pm_bd_s, pm_tl_n, pm_tl_s, ↓reduceIte, pb_X9_checks_6, pb_X9_checks_7, pb_X9_checks_12, kd_59, rf_59_0, rf_59_1, rf_59_3, rf_59_4, rf_59_5, rf_59_6, rf_59_7, rf_59_12, rf_59_14, rf_59_15, rf_59_16, rf_59_19, rf_59_23, rf_59_24, rf_59_25, rf_59_26, is_9_59, c11, nI_1, not_true_eq_false, if_true, if_false]
    exact e3
set_option maxRecDepth 100000 in
theorem lp_ck2 {h0 : pm_HP} {n u nt nb nw i : Nat} {y : Int32} (iS : RS h (31 + 1) 60) (iN : RN h 3 60 n u nt nb nw) (h60 : h0.1 60 = h.1 60) (hi : i < n) : ∀ (k j : Nat) (b : Int32 × Int32) (h1 : pm_HP) (p8 p9 : Option Value), j + k = i → frm [63, 64, 65, 70] h0 h1 → h1.1 63 0 = 0 → h1.1 64 0 = 0 → ∃ h2 q7 q8 q9, frm [63, 64, 65, 70] h0 h2 ∧ h2.1 63 0 = 0 ∧ h2.1 64 0 = 0 ∧ pm_ev P_X9_checks (rs fb (d + 99)) (P_X9_checks 5) [some (.ref 59), some (.int 2), some (.int y), some (.int (nI n)), some (.int b.1), some (.int b.2), some (.int (nI i)), some (.int (nI j)), p8, p9] [] h1 = pm_ev P_X9_checks (rs fb (d + 99)) (P_X9_checks 4) [some (.ref 59), some (.int 2), some (.int y), some (.int (nI n)), some (.int (rB (oW h n u) (c2F i) j k b).1), some (.int (rB (oW h n u) (c2F i) j k b).2), some (.int (nI (i + 1))), q7, q8, q9] [] h2 := by
  have hn := iN.1.2.2.2
  have t21 : ((2 : Int32) = 1) = False := by decide
  intro k
  induction k with
  | zero =>
    intro j b h1 p8 p9 hj f z1 z2
    obtain rfl : j = i := by omega
    have e1 : nI j ≤ nI j := Int32.le_refl _
    refine ⟨h1, some (.int (nI j)), p8, p9, f, z1, z2, ?_⟩
    rw [pb_X9_checks_5, rB]
    simp only [c20, c2i, c2n, c2r, cs8_0, cs8_1, cs8_2, cs8_3, cs8_4, decide_eq_true_eq, ev_ald0, ev_aldn0, ev_bin, ev_cs3, ev_cv1, ev_go, ev_gr, ev_i, ev_ia, ev_if0, ev_if2, ev_ild1, ev_ild2, ev_ild3, ev_ild4, ev_ild5, ev_ild6, ev_ild7, ev_ild8, ev_ild9, ev_inc6, ev_inc7, ev_ist3, ev_ist4, ev_ist5, ev_ist6, ev_ist7, ev_ist8, ev_ist9, ev_ri, i00, i01, i10, not_false_eq_true, not_true_eq_false, pm_bd_s, pm_tl_n, pm_tl_s, ↓reduceIte, pb_X9_checks_6, pb_X9_checks_7, pb_X9_checks_12, kd_59, rf_59_0, rf_59_1, rf_59_3, rf_59_4, rf_59_5, rf_59_6, rf_59_7, rf_59_12, rf_59_14, rf_59_15, rf_59_16, rf_59_19, rf_59_23, rf_59_24, rf_59_25, rf_59_26, is_9_59, e1, t21, nI_1, not_false_eq_true, if_true]
  | succ k ih =>
    intro j b h1 p8 p9 hj f z1 z2
    have e1 : ¬ nI i ≤ nI j := nI_ge (by omega) (by omega)
    obtain ⟨h2, f2, y1, y2, e2⟩ := ob_try (fb := fb) (d := d) (h := h) (h1 := h1) (set := c2F i j) (x := 2) (y := y) (b := b) (i := nI i) (j := nI j) (p8 := p8) (p9 := p9) iS iN (by rw [f.1 60 (by decide)]; exact h60) z1 z2
    rw [nI_1] at e2
    obtain ⟨h3, q7, q8, q9, f3, w1, w2, e3⟩ := ih (j + 1) (bN (oW h n u) (c2F i j) b) h2 (some (.int (c2F i j))) (some (.int (oW h n u (c2F i j)))) (by omega) (f.tr f2) y1 y2
    refine ⟨h3, q7, q8, q9, f3, w1, w2, ?_⟩
    have es : (1 : Int32) <<< (nI i &&& 31) ||| (1 : Int32) <<< (nI j &&& 31) = c2F i j := rfl
    rw [pb_X9_checks_5, rB]
    simp only [c20, c2i, c2n, c2r, cs8_0, cs8_1, cs8_2, cs8_3, cs8_4, decide_eq_true_eq, ev_ald0, ev_aldn0, ev_bin, ev_cs3, ev_cv1, ev_go, ev_gr, ev_i, ev_ia, ev_if0, ev_if2, ev_ild1, ev_ild2, ev_ild3, ev_ild4, ev_ild5, ev_ild6, ev_ild7, ev_ild8, ev_ild9, ev_inc6, ev_inc7, ev_ist3, ev_ist4, ev_ist5, ev_ist6, ev_ist7, ev_ist8, ev_ist9, ev_ri, i00, i01, i10, not_false_eq_true, not_true_eq_false, pm_bd_s, pm_tl_n, pm_tl_s, ↓reduceIte, pb_X9_checks_6, pb_X9_checks_7, pb_X9_checks_8, kd_59, rf_59_0, rf_59_1, rf_59_3, rf_59_4, rf_59_5, rf_59_6, rf_59_7, rf_59_12, rf_59_14, rf_59_15, rf_59_16, rf_59_19, rf_59_23, rf_59_24, rf_59_25, rf_59_26, is_9_59, e1, es, t21, not_false_eq_true, if_true, if_false]
    rw [e2]
    exact e3
def rP (off : Int32 → Int32) : Nat → Nat → Int32 × Int32 → Int32 × Int32
  | _, 0, b => b
  | l, k + 1, b => rP off (l + 1) k (rB off (c2F l) 0 l b)
set_option maxRecDepth 100000 in
theorem lp_ck3 {h0 : pm_HP} {n u nt nb nw : Nat} {y : Int32} (iS : RS h (31 + 1) 60) (iN : RN h 3 60 n u nt nb nw) (h60 : h0.1 60 = h.1 60) : ∀ (k i : Nat) (b : Int32 × Int32) (h1 : pm_HP) (p7 p8 p9 : Option Value), i + k = n → frm [63, 64, 65, 70] h0 h1 → h1.1 63 0 = 0 → h1.1 64 0 = 0 → ∃ h2 q7 q8 q9, frm [63, 64, 65, 70] h0 h2 ∧ h2.1 63 0 = 0 ∧ h2.1 64 0 = 0 ∧ pm_ev P_X9_checks (rs fb (d + 99)) (P_X9_checks 4) [some (.ref 59), some (.int 2), some (.int y), some (.int (nI n)), some (.int b.1), some (.int b.2), some (.int (nI i)), p7, p8, p9] [] h1 = pm_ev P_X9_checks (rs fb (d + 99)) (P_X9_checks 13) [some (.ref 59), some (.int 2), some (.int y), some (.int (nI n)), some (.int (rP (oW h n u) i k b).1), some (.int (rP (oW h n u) i k b).2), some (.int (nI n)), q7, q8, q9] [] h2 := by
  have hn := iN.1.2.2.2
  intro k
  induction k with
  | zero =>
    intro i b h1 p7 p8 p9 hi f z1 z2
    obtain rfl : i = n := by omega
    have e1 : nI i ≤ nI i := Int32.le_refl _
    refine ⟨h1, p7, p8, p9, f, z1, z2, ?_⟩
    rw [pb_X9_checks_4, rP]
    simp only [c20, c2i, c2n, c2r, cs8_0, cs8_1, cs8_2, cs8_3, cs8_4, decide_eq_true_eq, ev_ald0, ev_aldn0, ev_bin, ev_cs3, ev_cv1, ev_go, ev_gr, ev_i, ev_ia, ev_if0, ev_if2, ev_ild1, ev_ild2, ev_ild3, ev_ild4, ev_ild5, ev_ild6, ev_ild7, ev_ild8, ev_ild9, ev_inc6, ev_inc7, ev_ist3, ev_ist4, ev_ist5, ev_ist6, ev_ist7, ev_ist8, ev_ist9, ev_ri, i00, i01, i10, not_false_eq_true, not_true_eq_false, pm_bd_s, pm_tl_n, pm_tl_s, ↓reduceIte, kd_59, rf_59_0, rf_59_1, rf_59_3, rf_59_4, rf_59_5, rf_59_6, rf_59_7, rf_59_12, rf_59_14, rf_59_15, rf_59_16, rf_59_19, rf_59_23, rf_59_24, rf_59_25, rf_59_26, is_9_59, e1, if_true]
  | succ k ih =>
    intro i b h1 p7 p8 p9 hi f z1 z2
    have e1 : ¬ nI n ≤ nI i := nI_ge (by omega) (by omega)
    obtain ⟨h2, a7, a8, a9, f2, y1, y2, e2⟩ := lp_ck2 (fb := fb) (d := d) (h := h) (h0 := h0) (y := y) iS iN h60 (show i < n by omega) i 0 b h1 p8 p9 (by omega) f z1 z2
    rw [nI_0] at e2
    obtain ⟨h3, q7, q8, q9, f3, w1, w2, e3⟩ := ih (i + 1) (rB (oW h n u) (c2F i) 0 i b) h2 a7 a8 a9 (by omega) f2 y1 y2
    refine ⟨h3, q7, q8, q9, f3, w1, w2, ?_⟩
    rw [pb_X9_checks_4, rP]
    simp only [c20, c2i, c2n, c2r, cs8_0, cs8_1, cs8_2, cs8_3, cs8_4, decide_eq_true_eq, ev_ald0, ev_aldn0, ev_bin, ev_cs3, ev_cv1, ev_go, ev_gr, ev_i, ev_ia, ev_if0, ev_if2, ev_ild1, ev_ild2, ev_ild3, ev_ild4, ev_ild5, ev_ild6, ev_ild7, ev_ild8, ev_ild9, ev_inc6, ev_inc7, ev_ist3, ev_ist4, ev_ist5, ev_ist6, ev_ist7, ev_ist8, ev_ist9, ev_ri, i00, i01, i10, not_false_eq_true, not_true_eq_false, pm_bd_s, pm_tl_n, pm_tl_s, ↓reduceIte, kd_59, rf_59_0, rf_59_1, rf_59_3, rf_59_4, rf_59_5, rf_59_6, rf_59_7, rf_59_12, rf_59_14, rf_59_15, rf_59_16, rf_59_19, rf_59_23, rf_59_24, rf_59_25, rf_59_26, is_9_59, e1, if_true, if_false]
    rw [e2]
    exact e3
theorem rB_bs {off : Int32 → Int32} {cand : Nat → Int32} (hc : ∀ i, i < 24 → ¬ cand i = 0) : ∀ (k i : Nat) (b : Int32 × Int32), i + k ≤ 24 → ¬ b.1 = 0 → rB off cand i k b = bsA off cand i k b ∧ ¬ (bsA off cand i k b).1 = 0
  | 0, _, b, _, hb => ⟨rfl, hb⟩
  | k + 1, i, b, hi, hb => by
    rw [rB, bsA]
    have e : bN off (cand i) b = if off (cand i) < b.2 then (cand i, off (cand i)) else b := by
      unfold bN
      by_cases q : off (cand i) < b.2
      · rw [if_pos (Or.inr q), if_pos q]
      · rw [if_neg (fun t => t.elim hb q), if_neg q]
    rw [e]
    refine rB_bs hc k (i + 1) _ (by omega) ?_
    by_cases q : off (cand i) < b.2
    · rw [if_pos q]; exact hc i (by omega)
    · rw [if_neg q]; exact hb
theorem rP_bp {off : Int32 → Int32} : ∀ (k i : Nat) (b : Int32 × Int32), i + k ≤ 24 → ¬ b.1 = 0 → rP off i k b = bpA off i k b
  | 0, _, b, _, hb => rfl
  | k + 1, i, b, hi, hb => by
    obtain ⟨e1, e2⟩ := rB_bs (off := off) (cand := c2F i) (fun j hj => c2_nz i (by omega) j hj) i 0 b (by omega) hb
    rw [rP, bpA, e1]
    exact rP_bp k (i + 1) _ (by omega) e2
theorem bs_2 {off : Int32 → Int32} {cand : Nat → Int32} : ∀ (k i : Nat) (b : Int32 × Int32), b.2 = off b.1 → (bsA off cand i k b).2 = off (bsA off cand i k b).1
  | 0, _, b, hb => hb
  | k + 1, i, b, hb => by
    rw [bsA]
    refine bs_2 k (i + 1) _ ?_
    by_cases q : off (cand i) < b.2
    · rw [if_pos q]
    · rw [if_neg q]; exact hb
theorem bp_2 {off : Int32 → Int32} : ∀ (k i : Nat) (b : Int32 × Int32), b.2 = off b.1 → (bpA off i k b).2 = off (bpA off i k b).1
  | 0, _, b, hb => hb
  | k + 1, i, b, hb => by
    rw [bpA]
    exact bp_2 k (i + 1) _ (bs_2 _ _ _ hb)
theorem ck_end {h2 : pm_HP} {x y a b c e : Int32} {q7 q8 q9 : Option Value} (hy : y = 0 ∨ y = 1) : pm_ev P_X9_checks (rs fb (d + 99)) (P_X9_checks 13) [some (.ref 59), some (.int x), some (.int y), some (.int a), some (.int b), some (.int c), some (.int e), q7, q8, q9] [] h2 = some (some (.int (if y = 0 then b else c)), h2) := by
  have z10 : ((1 : Int32) = 0) = False := by decide
  rw [pb_X9_checks_13]
  rcases hy with rfl | rfl
  · simp only [c20, c2i, c2n, c2r, cs8_0, cs8_1, cs8_2, cs8_3, cs8_4, decide_eq_true_eq, ev_ald0, ev_aldn0, ev_bin, ev_cs3, ev_cv1, ev_go, ev_gr, ev_i, ev_ia, ev_if0, ev_if2, ev_ild1, ev_ild2, ev_ild3, ev_ild4, ev_ild5, ev_ild6, ev_ild7, ev_ild8, ev_ild9, ev_inc6, ev_inc7, ev_ist3, ev_ist4, ev_ist5, ev_ist6, ev_ist7, ev_ist8, ev_ist9, ev_ri, i00, i01, i10, not_false_eq_true, not_true_eq_false, pm_bd_s, pm_tl_n, pm_tl_s, ↓reduceIte, pb_X9_checks_14, pb_X9_checks_15, not_true_eq_false, if_true, if_false]
  · simp only [c20, c2i, c2n, c2r, cs8_0, cs8_1, cs8_2, cs8_3, cs8_4, decide_eq_true_eq, ev_ald0, ev_aldn0, ev_bin, ev_cs3, ev_cv1, ev_go, ev_gr, ev_i, ev_ia, ev_if0, ev_if2, ev_ild1, ev_ild2, ev_ild3, ev_ild4, ev_ild5, ev_ild6, ev_ild7, ev_ild8, ev_ild9, ev_inc6, ev_inc7, ev_ist3, ev_ist4, ev_ist5, ev_ist6, ev_ist7, ev_ist8, ev_ist9, ev_ri, i00, i01, i10, not_false_eq_true, not_true_eq_false, pm_bd_s, pm_tl_n, pm_tl_s, ↓reduceIte, pb_X9_checks_14, pb_X9_checks_15, z10, not_false_eq_true, if_true, if_false]
theorem ofW_o {h1 : pm_HP} {n u : Nat} (g : Gn h h1 n u) : ofW h1 n = oW h n u := by
  funext set
  unfold ofW oW
  rw [g.2.2.1]
  have e := ow_sd (M := ckM h set) (L := rLe h u) (P := rPu h u) (A := h1.1 55) (D := h1.1 58) (set := set) (n := n) (fun i hi => rfl) (fun i hi => (g.2.2.2.2.2 i hi).2.1) (fun i hi => (g.2.2.2.2.2 i hi).2.2.2.2) n 0 (by omega)
  rw [← e]
  rfl
theorem pr_checks (hI : Inv h) (x y : Int32) : Pr fb (d + 100) n_X8_checks n_X9_checks [.int x, .int y] h := by
  obtain ⟨⟨n, u, nt, nb, nw, iN⟩, iZ, iM, iS, iT, iB, iW, iX, iY⟩ := id hI.1
  have hn := iN.1.2.2.2
  have hn1 := iN.1.2.2.1
  have ix0 : pm_ix (0 : Int32) 440 = true := by decide
  have cl0 : (0 : Int32).toNatClampNeg = 0 := by decide
  have z10 : ((1 : Int32) = 0) = False := by decide
  have z21 : ((2 : Int32) = 1) = False := by decide
  by_cases q1 : 1 ≤ x ∧ x ≤ 2
  · by_cases q2 : 0 ≤ y ∧ y ≤ 1
    · have q1' := eq_true q1
      have q2' := eq_true q2
      have hy := b01 q2
      have hx : x = 1 ∨ x = 2 := by
        obtain ⟨j, hj, rfl⟩ := nI_of2 (M := 2) (n := 2) (by decide) (Int32.not_lt.mpr (Int32.le_trans (by decide) q1.1)) q1.2
        have := (nI_leI (a := 1) (by omega) (by omega)).mp q1.1
        rcases (show j = 1 ∨ j = 2 by omega) with rfl | rfl
        · exact Or.inl rfl
        · exact Or.inr rfl
      by_cases qn : x ≤ nI n
      · obtain ⟨h1, r1, g1⟩ := go_c (fb := fb) (d := d) hI iN
        have I1 := Inv_gn hI g1
        have e60 : h1.1 60 = h.1 60 := g1.1.1 60 (by decide)
        have eo := ofW_o g1
        have hn3 : h1.1 3 3 = nI n := by rw [g1.1.1 3 (by decide)]; exact iN.1.1
        have h0n : h1.1 60 0 = nI n := by rw [e60]; exact iN.1.2.1
        have IE : ∀ h2, frm [63, 64, 65, 70] h1 h2 → h2.1 63 0 = 0 → h2.1 64 0 = 0 → Inv h2 := fun h2 f a b => Inv_frm I1 f (by decide) ⟨by rw [f.1 52 (by decide)]; exact I1.2.2.2.2.2.1, by rw [f.1 53 (by decide)]; exact I1.2.2.2.2.2.2.1, a, b⟩
        rcases hx with rfl | rfl
        · have bc := sp_bestCheck (fb := fb) (d := d + 97) (h := h1) g1.2.1 hn hn1
          have ow := fun set => sp_offW (fb := fb) (d := d + 98) (h := h1) (set := set) g1.2.1 hn
          rw [eo] at bc ow
          obtain ⟨h2, q7, q8, q9, f2, w1, w2, e2⟩ := lp_ck1 (fb := fb) (d := d) (h := h) (h0 := h1) (y := y) iS iN e60 n 0 (0, 0) h1 none none none (by omega) (frm.rf _ _) I1.2.2.2.2.2.2.2.1 I1.2.2.2.2.2.2.2.2
          rw [ck_end hy, nI_0] at e2
          have eb : rB (oW h n u) c1F 0 n (0, 0) = bsA (oW h n u) c1F 1 (n - 1) (1, oW h n u 1) := by
            obtain ⟨m, rfl⟩ : ∃ m, n = m + 1 := ⟨n - 1, by omega⟩
            rw [rB, show bN (oW h (m + 1) u) (c1F 0) (0, 0) = (1, oW h (m + 1) u 1) from rfl, Nat.add_sub_cancel]
            exact (rB_bs c1_nz m 1 _ (by omega) (show ¬ (1 : Int32) = 0 by decide)).1
          have b2 := bs_2 (off := oW h n u) (cand := c1F) (n - 1) 1 (1, oW h n u 1) rfl
          rw [eb, b2] at e2
          refine ⟨if y = 0 then (bsA (oW h n u) c1F 1 (n - 1) (1, oW h n u 1)).1 else oW h n u (bsA (oW h n u) c1F 1 (n - 1) (1, oW h n u 1)).1, h1, h2, ?_, ?_, IE h2 f2 w1 w2⟩
          · rw [en_X8_checks]
            rcases hy with rfl | rfl
            · simp only [c20, c2i, c2n, c2r, cs8_0, cs8_1, cs8_2, cs8_3, cs8_4, decide_eq_true_eq, ev_ald0, ev_aldn0, ev_cs3, ev_cv0, ev_cv1, ev_cv2, ev_go, ev_gr, ev_i, ev_if0, ev_if2, ev_ild1, ev_ild2, ev_ild3, ev_ist3, ev_ri, i00, i01, i10, is_sw, not_false_eq_true, not_true_eq_false, pm_bd_s, pm_tl_n, pm_tl_s, ↓reduceIte, pb_X8_checks_0, pb_X8_checks_1, pb_X8_checks_2, pb_X8_checks_3, pb_X8_checks_4, pb_X8_checks_5, pb_X8_checks_6, pb_X8_checks_7, kd_0, rf_0_0, rf_0_1, rf_0_2, rf_0_3, rf_0_4, rf_0_5, rf_0_6, rf_0_7, rf_0_8, is_8_0, kd_1, rf_1_0, rf_1_1, rf_1_2, rf_1_3, rf_1_4, rf_1_5, rf_1_6, is_5_1, kd_3, rf_3_2, fc_3_0, fc_3_1, is_6_3_3, is_3_6_3, kd_17, rf_17_0, rf_17_1, rf_17_2, rf_17_3, rf_17_4, rf_17_5, rf_17_6, is_7_17, sp_isIn, bI_0, bI_n0, q1', q2', sp_used, iN.1.1, qn, r1, bc, not_true_eq_false, not_false_eq_true, if_true, if_false]
            · simp only [c20, c2i, c2n, c2r, cs8_0, cs8_1, cs8_2, cs8_3, cs8_4, decide_eq_true_eq, ev_ald0, ev_aldn0, ev_cs3, ev_cv0, ev_cv1, ev_cv2, ev_go, ev_gr, ev_i, ev_if0, ev_if2, ev_ild1, ev_ild2, ev_ild3, ev_ist3, ev_ri, i00, i01, i10, is_sw, not_false_eq_true, not_true_eq_false, pm_bd_s, pm_tl_n, pm_tl_s, ↓reduceIte, pb_X8_checks_0, pb_X8_checks_1, pb_X8_checks_2, pb_X8_checks_3, pb_X8_checks_4, pb_X8_checks_5, pb_X8_checks_6, pb_X8_checks_7, kd_0, rf_0_0, rf_0_1, rf_0_2, rf_0_3, rf_0_4, rf_0_5, rf_0_6, rf_0_7, rf_0_8, is_8_0, kd_1, rf_1_0, rf_1_1, rf_1_2, rf_1_3, rf_1_4, rf_1_5, rf_1_6, is_5_1, kd_3, rf_3_2, fc_3_0, fc_3_1, is_6_3_3, is_3_6_3, kd_17, rf_17_0, rf_17_1, rf_17_2, rf_17_3, rf_17_4, rf_17_5, rf_17_6, is_7_17, sp_isIn, bI_0, bI_n0, q1', q2', sp_used, iN.1.1, qn, r1, bc, ow, z10, not_true_eq_false, not_false_eq_true, if_true, if_false]
          · rw [en_X9_checks]
            simp only [c20, c2i, c2n, c2r, cs8_0, cs8_1, cs8_2, cs8_3, cs8_4, decide_eq_true_eq, ev_ald0, ev_aldn0, ev_bin, ev_cs3, ev_cv1, ev_go, ev_gr, ev_i, ev_ia, ev_if0, ev_if2, ev_ild1, ev_ild2, ev_ild3, ev_ild4, ev_ild5, ev_ild6, ev_ild7, ev_ild8, ev_ild9, ev_inc6, ev_inc7, ev_ist3, ev_ist4, ev_ist5, ev_ist6, ev_ist7, ev_ist8, ev_ist9, ev_ri, i00, i01, i10, not_false_eq_true, not_true_eq_false, pm_bd_s, pm_tl_n, pm_tl_s, ↓reduceIte, pb_X9_checks_0, pb_X9_checks_1, pb_X9_checks_2, pb_X9_checks_3, kd_59, rf_59_0, rf_59_1, rf_59_3, rf_59_4, rf_59_5, rf_59_6, rf_59_7, rf_59_12, rf_59_14, rf_59_15, rf_59_16, rf_59_19, rf_59_23, rf_59_24, rf_59_25, rf_59_26, is_9_59, kd_60, al_60, sr_isIn, bI_0, bI_n0, q1', q2', ix0, cl0, h0n, qn, not_true_eq_false, not_false_eq_true, if_true, if_false]
            exact e2
        · have hn2 : 2 ≤ n := (nI_leI (a := 2) (by omega) (by omega)).mp qn
          have bc := sp_bestPair (fb := fb) (d := d + 97) (h := h1) g1.2.1 hn hn2
          have ow := fun set => sp_offW (fb := fb) (d := d + 98) (h := h1) (set := set) g1.2.1 hn
          rw [eo] at bc ow
          obtain ⟨h2, q7, q8, q9, f2, w1, w2, e2⟩ := lp_ck3 (fb := fb) (d := d) (h := h) (h0 := h1) (y := y) iS iN e60 n 0 (0, 0) h1 none none none (by omega) (frm.rf _ _) I1.2.2.2.2.2.2.2.1 I1.2.2.2.2.2.2.2.2
          rw [ck_end hy, nI_0] at e2
          have eb : rP (oW h n u) 0 n (0, 0) = bpA (oW h n u) 2 (n - 2) (3, oW h n u 3) := by
            obtain ⟨m, rfl⟩ : ∃ m, n = m + 2 := ⟨n - 2, by omega⟩
            rw [rP, rP, show rB (oW h (m + 2) u) (c2F (0 + 1)) 0 (0 + 1) (rB (oW h (m + 2) u) (c2F 0) 0 0 (0, 0)) = (3, oW h (m + 2) u 3) from rfl, Nat.add_sub_cancel]
            exact rP_bp m 2 _ (by omega) (show ¬ (3 : Int32) = 0 by decide)
          have b2 := bp_2 (off := oW h n u) (n - 2) 2 (3, oW h n u 3) rfl
          rw [eb, b2] at e2
          refine ⟨if y = 0 then (bpA (oW h n u) 2 (n - 2) (3, oW h n u 3)).1 else oW h n u (bpA (oW h n u) 2 (n - 2) (3, oW h n u 3)).1, h1, h2, ?_, ?_, IE h2 f2 w1 w2⟩
          · rw [en_X8_checks]
            rcases hy with rfl | rfl
            · simp only [c20, c2i, c2n, c2r, cs8_0, cs8_1, cs8_2, cs8_3, cs8_4, decide_eq_true_eq, ev_ald0, ev_aldn0, ev_cs3, ev_cv0, ev_cv1, ev_cv2, ev_go, ev_gr, ev_i, ev_if0, ev_if2, ev_ild1, ev_ild2, ev_ild3, ev_ist3, ev_ri, i00, i01, i10, is_sw, not_false_eq_true, not_true_eq_false, pm_bd_s, pm_tl_n, pm_tl_s, ↓reduceIte, pb_X8_checks_0, pb_X8_checks_1, pb_X8_checks_2, pb_X8_checks_3, pb_X8_checks_4, pb_X8_checks_5, pb_X8_checks_6, pb_X8_checks_7, kd_0, rf_0_0, rf_0_1, rf_0_2, rf_0_3, rf_0_4, rf_0_5, rf_0_6, rf_0_7, rf_0_8, is_8_0, kd_1, rf_1_0, rf_1_1, rf_1_2, rf_1_3, rf_1_4, rf_1_5, rf_1_6, is_5_1, kd_3, rf_3_2, fc_3_0, fc_3_1, is_6_3_3, is_3_6_3, kd_17, rf_17_0, rf_17_1, rf_17_2, rf_17_3, rf_17_4, rf_17_5, rf_17_6, is_7_17, sp_isIn, bI_0, bI_n0, q1', q2', sp_used, iN.1.1, qn, r1, bc, z21, not_true_eq_false, not_false_eq_true, if_true, if_false]
            · simp only [c20, c2i, c2n, c2r, cs8_0, cs8_1, cs8_2, cs8_3, cs8_4, decide_eq_true_eq, ev_ald0, ev_aldn0, ev_cs3, ev_cv0, ev_cv1, ev_cv2, ev_go, ev_gr, ev_i, ev_if0, ev_if2, ev_ild1, ev_ild2, ev_ild3, ev_ist3, ev_ri, i00, i01, i10, is_sw, not_false_eq_true, not_true_eq_false, pm_bd_s, pm_tl_n, pm_tl_s, ↓reduceIte, pb_X8_checks_0, pb_X8_checks_1, pb_X8_checks_2, pb_X8_checks_3, pb_X8_checks_4, pb_X8_checks_5, pb_X8_checks_6, pb_X8_checks_7, kd_0, rf_0_0, rf_0_1, rf_0_2, rf_0_3, rf_0_4, rf_0_5, rf_0_6, rf_0_7, rf_0_8, is_8_0, kd_1, rf_1_0, rf_1_1, rf_1_2, rf_1_3, rf_1_4, rf_1_5, rf_1_6, is_5_1, kd_3, rf_3_2, fc_3_0, fc_3_1, is_6_3_3, is_3_6_3, kd_17, rf_17_0, rf_17_1, rf_17_2, rf_17_3, rf_17_4, rf_17_5, rf_17_6, is_7_17, sp_isIn, bI_0, bI_n0, q1', q2', sp_used, iN.1.1, qn, r1, bc, ow, z10, z21, not_true_eq_false, not_false_eq_true, if_true, if_false]
          · rw [en_X9_checks]
            simp only [c20, c2i, c2n, c2r, cs8_0, cs8_1, cs8_2, cs8_3, cs8_4, decide_eq_true_eq, ev_ald0, ev_aldn0, ev_bin, ev_cs3, ev_cv1, ev_go, ev_gr, ev_i, ev_ia, ev_if0, ev_if2, ev_ild1, ev_ild2, ev_ild3, ev_ild4, ev_ild5, ev_ild6, ev_ild7, ev_ild8, ev_ild9, ev_inc6, ev_inc7, ev_ist3, ev_ist4, ev_ist5, ev_ist6, ev_ist7, ev_ist8, ev_ist9, ev_ri, i00, i01, i10, not_false_eq_true, not_true_eq_false, pm_bd_s, pm_tl_n, pm_tl_s, ↓reduceIte, pb_X9_checks_0, pb_X9_checks_1, pb_X9_checks_2, pb_X9_checks_3, kd_59, rf_59_0, rf_59_1, rf_59_3, rf_59_4, rf_59_5, rf_59_6, rf_59_7, rf_59_12, rf_59_14, rf_59_15, rf_59_16, rf_59_19, rf_59_23, rf_59_24, rf_59_25, rf_59_26, is_9_59, kd_60, al_60, sr_isIn, bI_0, bI_n0, q1', q2', ix0, cl0, h0n, qn, not_true_eq_false, not_false_eq_true, if_true, if_false]
            exact e2
      · refine Pr_e (e := 2) (x := -1000000002) hI (by omega) (by omega) ?_ ?_
        · rw [en_X8_checks]
          simp only [c20, c2i, c2n, c2r, cs8_0, cs8_1, cs8_2, cs8_3, cs8_4, decide_eq_true_eq, ev_ald0, ev_aldn0, ev_cs3, ev_cv0, ev_cv1, ev_cv2, ev_go, ev_gr, ev_i, ev_if0, ev_if2, ev_ild1, ev_ild2, ev_ild3, ev_ist3, ev_ri, i00, i01, i10, is_sw, not_false_eq_true, not_true_eq_false, pm_bd_s, pm_tl_n, pm_tl_s, ↓reduceIte, pb_X8_checks_0, pb_X8_checks_1, pb_X8_checks_2, kd_0, rf_0_0, rf_0_1, rf_0_2, rf_0_3, rf_0_4, rf_0_5, rf_0_6, rf_0_7, rf_0_8, is_8_0, kd_1, rf_1_0, rf_1_1, rf_1_2, rf_1_3, rf_1_4, rf_1_5, rf_1_6, is_5_1, kd_3, rf_3_2, fc_3_0, fc_3_1, is_6_3_3, is_3_6_3, sp_isIn, bI_0, bI_n0, q1', q2', sp_used, iN.1.1, qn, not_true_eq_false, not_false_eq_true, if_true, if_false, fail_2, F2]
        · have n0 : (pm_si h 28 2 (h.1 28 2 + 1)).1 60 0 = nI n := iN.1.2.1
          rw [en_X9_checks]
          simp only [c20, c2i, c2n, c2r, cs8_0, cs8_1, cs8_2, cs8_3, cs8_4, decide_eq_true_eq, ev_ald0, ev_aldn0, ev_bin, ev_cs3, ev_cv1, ev_go, ev_gr, ev_i, ev_ia, ev_if0, ev_if2, ev_ild1, ev_ild2, ev_ild3, ev_ild4, ev_ild5, ev_ild6, ev_ild7, ev_ild8, ev_ild9, ev_inc6, ev_inc7, ev_ist3, ev_ist4, ev_ist5, ev_ist6, ev_ist7, ev_ist8, ev_ist9, ev_ri, i00, i01, i10, not_false_eq_true, not_true_eq_false, pm_bd_s, pm_tl_n, pm_tl_s, ↓reduceIte, pb_X9_checks_0, pb_X9_checks_1, pb_X9_checks_2, kd_59, rf_59_0, rf_59_1, rf_59_3, rf_59_4, rf_59_5, rf_59_6, rf_59_7, rf_59_12, rf_59_14, rf_59_15, rf_59_16, rf_59_19, rf_59_23, rf_59_24, rf_59_25, rf_59_26, is_9_59, kd_60, al_60, sr_isIn, bI_0, bI_n0, q1', q2', ix0, cl0, n0, qn, not_true_eq_false, not_false_eq_true, if_true, if_false, find_2]
    · refine Pr_e (e := 1) (x := -1000000001) hI (by omega) (by omega) ?_ ?_
      · rw [en_X8_checks]
        simp only [c20, c2i, c2n, c2r, cs8_0, cs8_1, cs8_2, cs8_3, cs8_4, decide_eq_true_eq, ev_ald0, ev_aldn0, ev_cs3, ev_cv0, ev_cv1, ev_cv2, ev_go, ev_gr, ev_i, ev_if0, ev_if2, ev_ild1, ev_ild2, ev_ild3, ev_ist3, ev_ri, i00, i01, i10, is_sw, not_false_eq_true, not_true_eq_false, pm_bd_s, pm_tl_n, pm_tl_s, ↓reduceIte, pb_X8_checks_0, pb_X8_checks_1, kd_0, rf_0_0, rf_0_1, rf_0_2, rf_0_3, rf_0_4, rf_0_5, rf_0_6, rf_0_7, rf_0_8, is_8_0, sp_isIn, bI_0, bI_n0, eq_true q1, eq_false q2, not_true_eq_false, if_true, if_false, fail_1, F1]
      · rw [en_X9_checks]
        simp only [c20, c2i, c2n, c2r, cs8_0, cs8_1, cs8_2, cs8_3, cs8_4, decide_eq_true_eq, ev_ald0, ev_aldn0, ev_bin, ev_cs3, ev_cv1, ev_go, ev_gr, ev_i, ev_ia, ev_if0, ev_if2, ev_ild1, ev_ild2, ev_ild3, ev_ild4, ev_ild5, ev_ild6, ev_ild7, ev_ild8, ev_ild9, ev_inc6, ev_inc7, ev_ist3, ev_ist4, ev_ist5, ev_ist6, ev_ist7, ev_ist8, ev_ist9, ev_ri, i00, i01, i10, not_false_eq_true, not_true_eq_false, pm_bd_s, pm_tl_n, pm_tl_s, ↓reduceIte, pb_X9_checks_0, pb_X9_checks_1, kd_59, rf_59_0, rf_59_1, rf_59_3, rf_59_4, rf_59_5, rf_59_6, rf_59_7, rf_59_12, rf_59_14, rf_59_15, rf_59_16, rf_59_19, rf_59_23, rf_59_24, rf_59_25, rf_59_26, is_9_59, sr_isIn, bI_0, bI_n0, eq_true q1, eq_false q2, not_true_eq_false, if_true, if_false, find_1]
  · refine Pr_e (e := 1) (x := -1000000001) hI (by omega) (by omega) ?_ ?_
    · rw [en_X8_checks]
      simp only [c20, c2i, c2n, c2r, cs8_0, cs8_1, cs8_2, cs8_3, cs8_4, decide_eq_true_eq, ev_ald0, ev_aldn0, ev_cs3, ev_cv0, ev_cv1, ev_cv2, ev_go, ev_gr, ev_i, ev_if0, ev_if2, ev_ild1, ev_ild2, ev_ild3, ev_ist3, ev_ri, i00, i01, i10, is_sw, not_false_eq_true, not_true_eq_false, pm_bd_s, pm_tl_n, pm_tl_s, ↓reduceIte, pb_X8_checks_0, pb_X8_checks_1, kd_0, rf_0_0, rf_0_1, rf_0_2, rf_0_3, rf_0_4, rf_0_5, rf_0_6, rf_0_7, rf_0_8, is_8_0, sp_isIn, bI_0, bI_n0, eq_false q1, not_false_eq_true, if_true, if_false, fail_1, F1]
    · rw [en_X9_checks]
      simp only [c20, c2i, c2n, c2r, cs8_0, cs8_1, cs8_2, cs8_3, cs8_4, decide_eq_true_eq, ev_ald0, ev_aldn0, ev_bin, ev_cs3, ev_cv1, ev_go, ev_gr, ev_i, ev_ia, ev_if0, ev_if2, ev_ild1, ev_ild2, ev_ild3, ev_ild4, ev_ild5, ev_ild6, ev_ild7, ev_ild8, ev_ild9, ev_inc6, ev_inc7, ev_ist3, ev_ist4, ev_ist5, ev_ist6, ev_ist7, ev_ist8, ev_ist9, ev_ri, i00, i01, i10, not_false_eq_true, not_true_eq_false, pm_bd_s, pm_tl_n, pm_tl_s, ↓reduceIte, pb_X9_checks_0, pb_X9_checks_1, kd_59, rf_59_0, rf_59_1, rf_59_3, rf_59_4, rf_59_5, rf_59_6, rf_59_7, rf_59_12, rf_59_14, rf_59_15, rf_59_16, rf_59_19, rf_59_23, rf_59_24, rf_59_25, rf_59_26, is_9_59, sr_isIn, bI_0, bI_n0, eq_false q1, not_false_eq_true, if_true, if_false, find_1]
end PT
