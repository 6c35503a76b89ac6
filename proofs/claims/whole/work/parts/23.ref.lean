/-! THE REFERENCE: its small methods -/
theorem find_1 {fb : Bool} {d : Nat} {h : pm_HP} : rs fb (d + 1) n_X9_finding [.ref 59, .int (-1000000001)] h = some (some (.int (-1000000001)), pm_si h 62 1 (h.1 62 1 + 1)) := by
  have e : (-1000000000 : Int32) - (-1000000001) = 1 := by decide
  have hix : pm_ix (1 : Int32) 7 = true := by decide
  have hcl : (1 : Int32).toNatClampNeg = 1 := by decide
  rw [en_X9_finding]
  simp only [ev_ald0, ev_aldn0, ev_bin, ev_dup2_ii, ev_dup2_ir, ev_gr, ev_i, ev_ia, ev_ias, ev_ild1, ev_ri, pb_X9_finding_0, kd_59, rf_59_0, rf_59_1, rf_59_3, rf_59_4, rf_59_5, rf_59_6, rf_59_7, rf_59_12, rf_59_14, rf_59_15, rf_59_16, rf_59_19, rf_59_23, rf_59_24, rf_59_25, rf_59_26, is_9_59, kd_62, al_62, e, hix, hcl, ↓reduceIte]
theorem find_2 {fb : Bool} {d : Nat} {h : pm_HP} : rs fb (d + 1) n_X9_finding [.ref 59, .int (-1000000002)] h = some (some (.int (-1000000002)), pm_si h 62 2 (h.1 62 2 + 1)) := by
  have e : (-1000000000 : Int32) - (-1000000002) = 2 := by decide
  have hix : pm_ix (2 : Int32) 7 = true := by decide
  have hcl : (2 : Int32).toNatClampNeg = 2 := by decide
  rw [en_X9_finding]
  simp only [ev_ald0, ev_aldn0, ev_bin, ev_dup2_ii, ev_dup2_ir, ev_gr, ev_i, ev_ia, ev_ias, ev_ild1, ev_ri, pb_X9_finding_0, kd_59, rf_59_0, rf_59_1, rf_59_3, rf_59_4, rf_59_5, rf_59_6, rf_59_7, rf_59_12, rf_59_14, rf_59_15, rf_59_16, rf_59_19, rf_59_23, rf_59_24, rf_59_25, rf_59_26, is_9_59, kd_62, al_62, e, hix, hcl, ↓reduceIte]
theorem find_3 {fb : Bool} {d : Nat} {h : pm_HP} : rs fb (d + 1) n_X9_finding [.ref 59, .int (-1000000003)] h = some (some (.int (-1000000003)), pm_si h 62 3 (h.1 62 3 + 1)) := by
  have e : (-1000000000 : Int32) - (-1000000003) = 3 := by decide
  have hix : pm_ix (3 : Int32) 7 = true := by decide
  have hcl : (3 : Int32).toNatClampNeg = 3 := by decide
  rw [en_X9_finding]
  simp only [ev_ald0, ev_aldn0, ev_bin, ev_dup2_ii, ev_dup2_ir, ev_gr, ev_i, ev_ia, ev_ias, ev_ild1, ev_ri, pb_X9_finding_0, kd_59, rf_59_0, rf_59_1, rf_59_3, rf_59_4, rf_59_5, rf_59_6, rf_59_7, rf_59_12, rf_59_14, rf_59_15, rf_59_16, rf_59_19, rf_59_23, rf_59_24, rf_59_25, rf_59_26, is_9_59, kd_62, al_62, e, hix, hcl, ↓reduceIte]
theorem find_4 {fb : Bool} {d : Nat} {h : pm_HP} : rs fb (d + 1) n_X9_finding [.ref 59, .int (-1000000004)] h = some (some (.int (-1000000004)), pm_si h 62 4 (h.1 62 4 + 1)) := by
  have e : (-1000000000 : Int32) - (-1000000004) = 4 := by decide
  have hix : pm_ix (4 : Int32) 7 = true := by decide
  have hcl : (4 : Int32).toNatClampNeg = 4 := by decide
  rw [en_X9_finding]
  simp only [ev_ald0, ev_aldn0, ev_bin, ev_dup2_ii, ev_dup2_ir, ev_gr, ev_i, ev_ia, ev_ias, ev_ild1, ev_ri, pb_X9_finding_0, kd_59, rf_59_0, rf_59_1, rf_59_3, rf_59_4, rf_59_5, rf_59_6, rf_59_7, rf_59_12, rf_59_14, rf_59_15, rf_59_16, rf_59_19, rf_59_23, rf_59_24, rf_59_25, rf_59_26, is_9_59, kd_62, al_62, e, hix, hcl, ↓reduceIte]
theorem find_5 {fb : Bool} {d : Nat} {h : pm_HP} : rs fb (d + 1) n_X9_finding [.ref 59, .int (-1000000005)] h = some (some (.int (-1000000005)), pm_si h 62 5 (h.1 62 5 + 1)) := by
  have e : (-1000000000 : Int32) - (-1000000005) = 5 := by decide
  have hix : pm_ix (5 : Int32) 7 = true := by decide
  have hcl : (5 : Int32).toNatClampNeg = 5 := by decide
  rw [en_X9_finding]
  simp only [ev_ald0, ev_aldn0, ev_bin, ev_dup2_ii, ev_dup2_ir, ev_gr, ev_i, ev_ia, ev_ias, ev_ild1, ev_ri, pb_X9_finding_0, kd_59, rf_59_0, rf_59_1, rf_59_3, rf_59_4, rf_59_5, rf_59_6, rf_59_7, rf_59_12, rf_59_14, rf_59_15, rf_59_16, rf_59_19, rf_59_23, rf_59_24, rf_59_25, rf_59_26, is_9_59, kd_62, al_62, e, hix, hcl, ↓reduceIte]
theorem find_6 {fb : Bool} {d : Nat} {h : pm_HP} : rs fb (d + 1) n_X9_finding [.ref 59, .int (-1000000006)] h = some (some (.int (-1000000006)), pm_si h 62 6 (h.1 62 6 + 1)) := by
  have e : (-1000000000 : Int32) - (-1000000006) = 6 := by decide
  have hix : pm_ix (6 : Int32) 7 = true := by decide
  have hcl : (6 : Int32).toNatClampNeg = 6 := by decide
  rw [en_X9_finding]
  simp only [ev_ald0, ev_aldn0, ev_bin, ev_dup2_ii, ev_dup2_ir, ev_gr, ev_i, ev_ia, ev_ias, ev_ild1, ev_ri, pb_X9_finding_0, kd_59, rf_59_0, rf_59_1, rf_59_3, rf_59_4, rf_59_5, rf_59_6, rf_59_7, rf_59_12, rf_59_14, rf_59_15, rf_59_16, rf_59_19, rf_59_23, rf_59_24, rf_59_25, rf_59_26, is_9_59, kd_62, al_62, e, hix, hcl, ↓reduceIte]
def rm (h : pm_HP) (c i : Nat) : Int32 := h.1 60 (8 + 5 * i + c)
theorem rm_r {fb : Bool} {d c i : Nat} {h : pm_HP} (hc : c < 5) (hs : i < 24) : rs fb (d + 1) n_X9_mileOf [.ref 59, .int (nI i), .int (nI c)] h = some (some (.int (rm h c i)), h) := by
  have e : (8 : Int32) + 5 * nI i + nI c = nI (8 + 5 * i + c) := by
    show nI 8 + nI 5 * nI i + nI c = _
    rw [nI_mul, nI_add, nI_add]
  have hix : pm_ix (nI (8 + 5 * i + c)) 440 = true := pm_ix_n (by omega) (by omega)
  have hcl := nI_clamp (show 8 + 5 * i + c < 2 ^ 31 by omega)
  rw [en_X9_mileOf]
  simp only [ev_ald0, ev_aldn0, ev_bin, ev_gr, ev_i, ev_ia, ev_ild1, ev_ild2, ev_ri, pb_X9_mileOf_0, kd_59, rf_59_0, rf_59_1, rf_59_3, rf_59_4, rf_59_5, rf_59_6, rf_59_7, rf_59_12, rf_59_14, rf_59_15, rf_59_16, rf_59_19, rf_59_23, rf_59_24, rf_59_25, rf_59_26, is_9_59, kd_60, al_60, e, hix, hcl, ↓reduceIte]
  rfl
theorem rm_0 {fb : Bool} {d i : Nat} {h : pm_HP} (hs : i < 24) : rs fb (d + 1) n_X9_mileOf [.ref 59, .int (nI i), .int 0] h = some (some (.int (rm h 0 i)), h) := rm_r (c := 0) (by omega) hs
theorem rm_1 {fb : Bool} {d i : Nat} {h : pm_HP} (hs : i < 24) : rs fb (d + 1) n_X9_mileOf [.ref 59, .int (nI i), .int 1] h = some (some (.int (rm h 1 i)), h) := rm_r (c := 1) (by omega) hs
theorem rm_2 {fb : Bool} {d i : Nat} {h : pm_HP} (hs : i < 24) : rs fb (d + 1) n_X9_mileOf [.ref 59, .int (nI i), .int 2] h = some (some (.int (rm h 2 i)), h) := rm_r (c := 2) (by omega) hs
theorem rm_3 {fb : Bool} {d i : Nat} {h : pm_HP} (hs : i < 24) : rs fb (d + 1) n_X9_mileOf [.ref 59, .int (nI i), .int 3] h = some (some (.int (rm h 3 i)), h) := rm_r (c := 3) (by omega) hs
theorem rm_4 {fb : Bool} {d i : Nat} {h : pm_HP} (hs : i < 24) : rs fb (d + 1) n_X9_mileOf [.ref 59, .int (nI i), .int 4] h = some (some (.int (rm h 4 i)), h) := rm_r (c := 4) (by omega) hs
def rl (h : pm_HP) (c s : Nat) : Int32 := h.1 60 (128 + 5 * s + c)
theorem rl_r {fb : Bool} {d c s : Nat} {h : pm_HP} (hc : c < 5) (hs : s < 8) : rs fb (d + 1) n_X9_slipOf [.ref 59, .int (nI s), .int (nI c)] h = some (some (.int (rl h c s)), h) := by
  have e : (128 : Int32) + 5 * nI s + nI c = nI (128 + 5 * s + c) := by
    show nI 128 + nI 5 * nI s + nI c = _
    rw [nI_mul, nI_add, nI_add]
  have hix : pm_ix (nI (128 + 5 * s + c)) 440 = true := pm_ix_n (by omega) (by omega)
  have hcl := nI_clamp (show 128 + 5 * s + c < 2 ^ 31 by omega)
  rw [en_X9_slipOf]
  simp only [ev_ald0, ev_aldn0, ev_bin, ev_gr, ev_i, ev_ia, ev_ild1, ev_ild2, ev_ri, pb_X9_slipOf_0, kd_59, rf_59_0, rf_59_1, rf_59_3, rf_59_4, rf_59_5, rf_59_6, rf_59_7, rf_59_12, rf_59_14, rf_59_15, rf_59_16, rf_59_19, rf_59_23, rf_59_24, rf_59_25, rf_59_26, is_9_59, kd_60, al_60, e, hix, hcl, ↓reduceIte]
  rfl
theorem rl_0 {fb : Bool} {d s : Nat} {h : pm_HP} (hs : s < 8) : rs fb (d + 1) n_X9_slipOf [.ref 59, .int (nI s), .int 0] h = some (some (.int (rl h 0 s)), h) := rl_r (c := 0) (by omega) hs
theorem rl_1 {fb : Bool} {d s : Nat} {h : pm_HP} (hs : s < 8) : rs fb (d + 1) n_X9_slipOf [.ref 59, .int (nI s), .int 1] h = some (some (.int (rl h 1 s)), h) := rl_r (c := 1) (by omega) hs
theorem rl_2 {fb : Bool} {d s : Nat} {h : pm_HP} (hs : s < 8) : rs fb (d + 1) n_X9_slipOf [.ref 59, .int (nI s), .int 2] h = some (some (.int (rl h 2 s)), h) := rl_r (c := 2) (by omega) hs
theorem rl_3 {fb : Bool} {d s : Nat} {h : pm_HP} (hs : s < 8) : rs fb (d + 1) n_X9_slipOf [.ref 59, .int (nI s), .int 3] h = some (some (.int (rl h 3 s)), h) := rl_r (c := 3) (by omega) hs
theorem rl_4 {fb : Bool} {d s : Nat} {h : pm_HP} (hs : s < 8) : rs fb (d + 1) n_X9_slipOf [.ref 59, .int (nI s), .int 4] h = some (some (.int (rl h 4 s)), h) := rl_r (c := 4) (by omega) hs
def rt (h : pm_HP) (c t : Nat) : Int32 := h.1 60 (168 + 4 * t + c)
theorem rt_r {fb : Bool} {d c t : Nat} {h : pm_HP} (hc : c < 4) (hs : t < 16) : rs fb (d + 1) n_X9_treeOf [.ref 59, .int (nI t), .int (nI c)] h = some (some (.int (rt h c t)), h) := by
  have e : (168 : Int32) + 4 * nI t + nI c = nI (168 + 4 * t + c) := by
    show nI 168 + nI 4 * nI t + nI c = _
    rw [nI_mul, nI_add, nI_add]
  have hix : pm_ix (nI (168 + 4 * t + c)) 440 = true := pm_ix_n (by omega) (by omega)
  have hcl := nI_clamp (show 168 + 4 * t + c < 2 ^ 31 by omega)
  rw [en_X9_treeOf]
  simp only [ev_ald0, ev_aldn0, ev_bin, ev_gr, ev_i, ev_ia, ev_ild1, ev_ild2, ev_ri, pb_X9_treeOf_0, kd_59, rf_59_0, rf_59_1, rf_59_3, rf_59_4, rf_59_5, rf_59_6, rf_59_7, rf_59_12, rf_59_14, rf_59_15, rf_59_16, rf_59_19, rf_59_23, rf_59_24, rf_59_25, rf_59_26, is_9_59, kd_60, al_60, e, hix, hcl, ↓reduceIte]
  rfl
theorem rt_0 {fb : Bool} {d t : Nat} {h : pm_HP} (hs : t < 16) : rs fb (d + 1) n_X9_treeOf [.ref 59, .int (nI t), .int 0] h = some (some (.int (rt h 0 t)), h) := rt_r (c := 0) (by omega) hs
theorem rt_1 {fb : Bool} {d t : Nat} {h : pm_HP} (hs : t < 16) : rs fb (d + 1) n_X9_treeOf [.ref 59, .int (nI t), .int 1] h = some (some (.int (rt h 1 t)), h) := rt_r (c := 1) (by omega) hs
theorem rt_2 {fb : Bool} {d t : Nat} {h : pm_HP} (hs : t < 16) : rs fb (d + 1) n_X9_treeOf [.ref 59, .int (nI t), .int 2] h = some (some (.int (rt h 2 t)), h) := rt_r (c := 2) (by omega) hs
theorem rt_3 {fb : Bool} {d t : Nat} {h : pm_HP} (hs : t < 16) : rs fb (d + 1) n_X9_treeOf [.ref 59, .int (nI t), .int 3] h = some (some (.int (rt h 3 t)), h) := rt_r (c := 3) (by omega) hs
section EV6
variable {pg : Nat → List pm_Ac} {C : Nat → List Value → pm_HP → Option pm_RV} {k : List pm_Ac} {ls : pm_LS} {st : List Value} {h : pm_HP}
theorem ev_cv6 {y a : Nat} {cs : List Nat} {v0 v1 v2 v3 v4 v5 : Value} (ha : pm_is cs a = true) (hc : pm_cs st ≤ 8) : pm_ev pg C (ac_cv y 6 cs :: k) ls (v5 :: v4 :: v3 :: v2 :: v1 :: v0 :: .ref a :: st) h = pm_bd (C y [.ref a, v0, v1, v2, v3, v4, v5] h) (fun v h' => pm_ev pg C k ls (v.toList ++ st) h') := by
  rw [pm_ev_cons]; simp [ac_cv, pm_tk, pm_pR, ha, hc, pm_c]
end EV6
section R1
variable {fb : Bool} {d : Nat} {h : pm_HP}
theorem sr_isIn {v lo hi : Int32} : rs fb (d + 1) n_X9_isIn [.int v, .int lo, .int hi] h = some (some (.int (bI (lo ≤ v ∧ v ≤ hi))), h) := by
  rw [en_X9_isIn]
  simp only [decide_eq_true_eq, ev_go, ev_i, ev_if2, ev_ild0, ev_ild1, ev_ild2, ev_rz, i00, i01, i10, ↓reduceIte, pb_X9_isIn_0, pb_X9_isIn_1, pb_X9_isIn_2]
  by_cases h1 : v < lo
  · simp [h1, bI, Int32.not_le.mpr h1]
  · by_cases h2 : hi < v
    · simp [h1, h2, bI, Int32.not_le.mpr h2]
    · simp [h1, h2, bI, Int32.not_lt.mp h1, Int32.not_lt.mp h2]
/-- what the reference's held gives -/
def hdR (v lo hi : Int32) : Int32 := if lo < (if v < hi then v else hi) then (if v < hi then v else hi) else lo
theorem sr_held {v lo hi : Int32} : rs fb (d + 1) n_X9_held [.int v, .int lo, .int hi] h = some (some (.int (hdR v lo hi)), h) := by
  rw [en_X9_held]
  simp only [cs8_0, cs8_1, cs8_2, cs8_3, cs8_4, ev_ild0, ev_ild1, ev_ild2, ev_m2, ev_ri, pb_X9_held_0, ↓reduceIte]
  rfl
theorem sr_isMile {i : Int32} : rs fb (d + 2) n_X9_isMile [.int i] h = some (some (.int (bI (0 ≤ i ∧ i ≤ 23))), h) := by
  rw [en_X9_isMile]
  simp only [cs8_0, cs8_1, cs8_2, cs8_3, cs8_4, ev_cs3, ev_i, ev_ild0, ev_rz, pm_bd_s, pm_tl_n, pm_tl_s, pb_X9_isMile_0, sr_isIn, bI_a, ↓reduceIte]
theorem sr_isSheet {i : Int32} : rs fb (d + 2) n_X9_isSheet [.int i] h = some (some (.int (bI (0 ≤ i ∧ i ≤ 3))), h) := by
  rw [en_X9_isSheet]
  simp only [cs8_0, cs8_1, cs8_2, cs8_3, cs8_4, ev_cs3, ev_i, ev_ild0, ev_rz, pm_bd_s, pm_tl_n, pm_tl_s, pb_X9_isSheet_0, sr_isIn, bI_a, ↓reduceIte]
theorem sr_is {k : Int32} {c u : Nat} (hc : c < 440) (hu : h.1 60 c = nI u) (hu2 : u ≤ 24) : rs fb (d + 2) n_X9_is [.ref 59, .int k, .int (nI c)] h = some (some (.int (bI (0 ≤ k ∧ k < nI u))), h) := by
  have hix : pm_ix (nI c) 440 = true := pm_ix_n hc (by omega)
  have hcl := nI_clamp (show c < 2 ^ 31 by omega)
  rw [en_X9_is]
  simp only [cs8_0, cs8_1, cs8_2, cs8_3, cs8_4, ev_ald0, ev_aldn0, ev_bin, ev_cs3, ev_gr, ev_i, ev_ia, ev_ild1, ev_ild2, ev_rz, pm_bd_s, pm_tl_n, pm_tl_s, pb_X9_is_0, kd_59, rf_59_0, rf_59_1, rf_59_3, rf_59_4, rf_59_5, rf_59_6, rf_59_7, rf_59_12, rf_59_14, rf_59_15, rf_59_16, rf_59_19, rf_59_23, rf_59_24, rf_59_25, rf_59_26, is_9_59, kd_60, al_60, hix, hcl, hu, sr_isIn, isIn_z hu2, bI_a, ↓reduceIte]
theorem sr_is0 {k : Int32} {u : Nat} (hu : h.1 60 0 = nI u) (hu2 : u ≤ 24) : rs fb (d + 2) n_X9_is [.ref 59, .int k, .int 0] h = some (some (.int (bI (0 ≤ k ∧ k < nI u))), h) := sr_is (c := 0) (by omega) hu hu2
theorem sr_is1 {k : Int32} {u : Nat} (hu : h.1 60 1 = nI u) (hu2 : u ≤ 24) : rs fb (d + 2) n_X9_is [.ref 59, .int k, .int 1] h = some (some (.int (bI (0 ≤ k ∧ k < nI u))), h) := sr_is (c := 1) (by omega) hu hu2
theorem sr_is2 {k : Int32} {u : Nat} (hu : h.1 60 2 = nI u) (hu2 : u ≤ 24) : rs fb (d + 2) n_X9_is [.ref 59, .int k, .int 2] h = some (some (.int (bI (0 ≤ k ∧ k < nI u))), h) := sr_is (c := 2) (by omega) hu hu2
theorem sr_become {c : Nat} {v : Int32} (hc : c < 440) : rs fb (d + 1) n_X9_become [.ref 59, .int (nI c), .int v] h = some (some (.int (h.1 60 c)), pm_si h 60 c v) := by
  have hix : pm_ix (nI c) 440 = true := pm_ix_n hc (by omega)
  have hcl := nI_clamp (show c < 2 ^ 31 by omega)
  rw [en_X9_become]
  simp only [c20, c2i, c2n, c2r, ev_ald0, ev_aldn0, ev_gr, ev_ia, ev_ias, ev_ild1, ev_ild2, ev_ild3, ev_ist3, ev_ri, pb_X9_become_0, kd_59, rf_59_0, rf_59_1, rf_59_3, rf_59_4, rf_59_5, rf_59_6, rf_59_7, rf_59_12, rf_59_14, rf_59_15, rf_59_16, rf_59_19, rf_59_23, rf_59_24, rf_59_25, rf_59_26, is_9_59, kd_60, al_60, hix, hcl, ↓reduceIte]
theorem sr_above {k : Int32} : rs fb (d + 1) n_X9_above [.int k] h = some (some (.int (if k = 0 then -1 else if k = 3 then 2 else if k = 4 then 1 else if k = 6 then 5 else 0)), h) := by
  rw [en_X9_above]
  simp only [decide_eq_true_eq, ev_go, ev_i, ev_if0, ev_if2, ev_ild0, ev_ri, i00, i01, i10, ↓reduceIte, pb_X9_above_0, pb_X9_above_1, pb_X9_above_2, pb_X9_above_3, pb_X9_above_4, pb_X9_above_5]
  by_cases k0 : k = 0
  · simp [k0]
  · by_cases k3 : k = 3
    · simp [k3]
    · by_cases k4 : k = 4
      · simp [k4]
      · by_cases k6 : k = 6
        · simp [k6]
        · simp [k0, k3, k4, k6]
/-- copies of a row -/
def cq (h : pm_HP) (a b n : Nat) : pm_HP := (fun x j => if x = b ∧ j < n then h.1 a j else h.1 x j, h.2)
theorem cq_0 (h : pm_HP) (a b : Nat) : cq h a b 0 = h := by unfold cq; simp
theorem cq_s (h : pm_HP) (a b n : Nat) : pm_si (cq h a b n) b n (h.1 a n) = cq h a b (n + 1) := by
  unfold cq pm_si
  congr 1
  funext x j
  by_cases q : x = b
  · by_cases q2 : j = n
    · simp [q, q2]
    · by_cases q3 : j < n
      · simp [q, q2, q3, show j < n + 1 by omega]
      · simp [q, q2, q3, show ¬ j < n + 1 by omega]
  · simp [q]
theorem cq_at (h : pm_HP) (a b n x j : Nat) : (cq h a b n).1 x j = if x = b ∧ j < n then h.1 a j else h.1 x j := rfl
set_option maxRecDepth 100000 in
theorem lp_copy {a b : Nat} (ha : pm_kd a = 20) (hb : pm_kd b = 20) (hla : pm_al a = 440) (hlb : pm_al b = 440) (hab : ¬ a = b) : ∀ (k i : Nat), i + k = 440 → pm_ev P_X9_copy (rs fb d) (P_X9_copy 1) [some (.ref a), some (.ref b), some (.int (nI i))] [] (cq h a b i) = some (none, cq h a b 440) := by
  intro k
  induction k with
  | zero =>
    intro i hi
    have e1 : (440 : Int32) ≤ nI i := nI_le (a := 440) (b := i) (by omega) (by omega)
    rw [pb_X9_copy_1]
    simp only [c20, c2i, c2n, c2r, decide_eq_true_eq, ev_ald0, ev_ald1, ev_aldn0, ev_aldn1, ev_go, ev_i, ev_ia, ev_ias, ev_if2, ev_ild2, ev_inc2, ev_ist2, ev_rv, i00, i01, i10, ↓reduceIte, pb_X9_copy_2, e1]
    rw [show i = 440 by omega]
  | succ k ih =>
    intro i hi
    have e1 : ¬ (440 : Int32) ≤ nI i := nI_ge (a := i) (b := 440) (by omega) (by omega)
    have hix : pm_ix (nI i) 440 = true := pm_ix_n (by omega) (by omega)
    have hcl := nI_clamp (show i < 2 ^ 31 by omega)
    have e2 : (cq h a b i).1 a i = h.1 a i := by rw [cq_at, if_neg (fun q => hab q.1)]
    rw [pb_X9_copy_1]
    simp only [c20, c2i, c2n, c2r, decide_eq_true_eq, ev_ald0, ev_ald1, ev_aldn0, ev_aldn1, ev_go, ev_i, ev_ia, ev_ias, ev_if2, ev_ild2, ev_inc2, ev_ist2, ev_rv, i00, i01, i10, ↓reduceIte, pb_X9_copy_2, e1, ha, hb, hla, hlb, hix, hcl, e2, cq_s, nI_1]
    exact ih (i + 1) (by omega)
theorem sr_copy {a b : Nat} (ha : pm_kd a = 20) (hb : pm_kd b = 20) (hla : pm_al a = 440) (hlb : pm_al b = 440) (hab : ¬ a = b) : rs fb (d + 1) n_X9_copy [.ref a, .ref b] h = some (none, cq h a b 440) := by
  rw [en_X9_copy]
  simp only [c20, c2i, c2n, c2r, decide_eq_true_eq, ev_ald0, ev_ald1, ev_aldn0, ev_aldn1, ev_go, ev_i, ev_ia, ev_ias, ev_if2, ev_ild2, ev_inc2, ev_ist2, ev_rv, i00, i01, i10, ↓reduceIte, pb_X9_copy_0]
  have e := lp_copy (fb := fb) (d := d) (h := h) ha hb hla hlb hab 440 0 (by omega)
  rw [cq_0, nI_0] at e
  exact e
end R1
