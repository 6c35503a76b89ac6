/-! LEAVES: numbers, tables -/
theorem is_8_0 : pm_is [8] 0 = true := rfl
theorem is_5_1 : pm_is [5] 1 = true := rfl
theorem is_5_2 : pm_is [5] 2 = true := rfl
theorem is_7_17 : pm_is [7] 17 = true := rfl
theorem is_1_18 : pm_is [1] 18 = true := rfl
theorem is_4_19 : pm_is [4] 19 = true := rfl
theorem is_6_3_3 : pm_is [6, 3] 3 = true := rfl
theorem is_6_3_4 : pm_is [6, 3] 4 = true := rfl
theorem is_6_3_5 : pm_is [6, 3] 5 = true := rfl
theorem is_6_3_6 : pm_is [6, 3] 6 = true := rfl
theorem is_6_3_7 : pm_is [6, 3] 7 = true := rfl
theorem is_6_3_10 : pm_is [6, 3] 10 = true := rfl
theorem is_6_3_11 : pm_is [6, 3] 11 = true := rfl
theorem is_6_3_12 : pm_is [6, 3] 12 = true := rfl
theorem is_6_3_13 : pm_is [6, 3] 13 = true := rfl
theorem is_6_3_14 : pm_is [6, 3] 14 = true := rfl
theorem is_6_3_21 : pm_is [6, 3] 21 = true := rfl
theorem is_6_3_22 : pm_is [6, 3] 22 = true := rfl
theorem is_3_4 : pm_is [3] 4 = true := rfl
theorem is_3_11 : pm_is [3] 11 = true := rfl
theorem is_0_8 : pm_is [0] 8 = true := rfl
theorem is_0_9 : pm_is [0] 9 = true := rfl
theorem is_0_15 : pm_is [0] 15 = true := rfl
theorem is_0_16 : pm_is [0] 16 = true := rfl
theorem is_0_20 : pm_is [0] 20 = true := rfl
theorem is_2_23 : pm_is [2] 23 = true := rfl
theorem is_2_24 : pm_is [2] 24 = true := rfl
theorem is_2_25 : pm_is [2] 25 = true := rfl
theorem is_2_26 : pm_is [2] 26 = true := rfl
theorem is_9_59 : pm_is [9] 59 = true := rfl
theorem is_sw {t : Nat} : pm_is [6, 3] t = pm_is [3, 6] t := by
  unfold pm_is
  simp [List.contains_cons, Bool.or_comm]
theorem v_cat (a : Value) : a.category ≤ 2 := by cases a <;> simp [Value.category]
theorem cs8_0 : (pm_cs [] ≤ 8) = True := by simp [pm_cs]
theorem cs8_1 {a : Value} : (pm_cs [a] ≤ 8) = True := by
  have := v_cat a
  simp only [pm_cs]; simp; omega
theorem cs8_2 {a b : Value} : (pm_cs [a, b] ≤ 8) = True := by
  have := v_cat a; have := v_cat b
  simp only [pm_cs]; simp; omega
theorem cs8_3 {a b c : Value} : (pm_cs [a, b, c] ≤ 8) = True := by
  have := v_cat a; have := v_cat b; have := v_cat c
  simp only [pm_cs]; simp; omega
theorem cs8_4 {a b c e : Value} : (pm_cs [a, b, c, e] ≤ 8) = True := by
  have := v_cat a; have := v_cat b; have := v_cat c; have := v_cat e
  simp only [pm_cs]; simp; omega
theorem cs8_5 {a b c e : Value} {x : Int32} : (pm_cs [.int x, a, b, c, e] ≤ 8) = (pm_cs [a, b, c, e] ≤ 7) := by
  simp only [pm_cs, Value.category]; simp; omega
theorem c2i {x : Int32} : (pm_c2 (some (.int x)) = false) = True := by simp [pm_c2]
theorem c2r {x : Nat} : (pm_c2 (some (.ref x)) = false) = True := by simp [pm_c2]
theorem c2n : (pm_c2 (some .null) = false) = True := by simp [pm_c2]
theorem c20 : (pm_c2 none = false) = True := by simp [pm_c2]
theorem i10 : ((1 : Int32) = 0) = False := by simp
theorem i01 : ((0 : Int32) = 1) = False := by simp
theorem i00 : ((0 : Int32) = 0) = True := by simp
def bI (p : Prop) [Decidable p] : Int32 := if p then 1 else 0
theorem bI_0 (p : Prop) [Decidable p] : (bI p = 0) = ¬ p := by
  unfold bI; by_cases h : p <;> simp [h]
theorem bI_1 (p : Prop) [Decidable p] : (bI p = 1) = p := by
  unfold bI; by_cases h : p <;> simp [h]
theorem bI_a (p : Prop) [Decidable p] : (bI p &&& 1 = bI p) = True := by
  unfold bI; by_cases h : p <;> simp [h]
theorem bI_z (p : Prop) [Decidable p] : (bI p = 0 ∨ bI p = 1) = True := by
  unfold bI; by_cases h : p <;> simp [h]
theorem sp_isIn {fb : Bool} {d : Nat} {v lo hi : Int32} {h : pm_HP} : rs fb (d + 1) n_X8_isIn [.int v, .int lo, .int hi] h = some (some (.int (bI (lo ≤ v ∧ v ≤ hi))), h) := by
  rw [en_X8_isIn]
  simp only [decide_eq_true_eq, ev_go, ev_i, ev_if2, ev_ild0, ev_ild1, ev_ild2, ev_rz, i00, i01, i10, if_false, if_true, pb_X8_isIn_0, pb_X8_isIn_1, pb_X8_isIn_2]
  by_cases h1 : v < lo
  · simp [h1, bI, Int32.not_le.mpr h1]
  · by_cases h2 : hi < v
    · simp [h1, h2, bI, Int32.not_le.mpr h2]
    · simp [h1, h2, bI, Int32.not_lt.mp h1, Int32.not_lt.mp h2]
theorem sp_held {fb : Bool} {d : Nat} {v m : Int32} {h : pm_HP} : rs fb (d + 1) n_X8_held [.int v, .int m] h = some (some (.int (if 0 < (if m < v then m else v) then (if m < v then m else v) else 0)), h) := by
  rw [en_X8_held]
  simp only [cs8_0, cs8_1, cs8_2, cs8_3, cs8_4, ev_i, ev_ild0, ev_ild1, ev_m2, ev_ri, pb_X8_held_0]
  simp
