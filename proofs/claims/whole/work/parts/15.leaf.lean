/-! LEAVES: numbers, tables -/
theorem is_8_0 : pm_is [8] 0 = true := by decide
theorem is_5_1 : pm_is [5] 1 = true := by decide
theorem is_5_2 : pm_is [5] 2 = true := by decide
theorem is_7_17 : pm_is [7] 17 = true := by decide
theorem is_1_18 : pm_is [1] 18 = true := by decide
theorem is_4_19 : pm_is [4] 19 = true := by decide
theorem is_6_3_3 : pm_is [6, 3] 3 = true := by decide
theorem is_6_3_4 : pm_is [6, 3] 4 = true := by decide
theorem is_6_3_5 : pm_is [6, 3] 5 = true := by decide
theorem is_6_3_6 : pm_is [6, 3] 6 = true := by decide
theorem is_6_3_7 : pm_is [6, 3] 7 = true := by decide
theorem is_6_3_10 : pm_is [6, 3] 10 = true := by decide
theorem is_6_3_11 : pm_is [6, 3] 11 = true := by decide
theorem is_6_3_12 : pm_is [6, 3] 12 = true := by decide
theorem is_6_3_13 : pm_is [6, 3] 13 = true := by decide
theorem is_6_3_14 : pm_is [6, 3] 14 = true := by decide
theorem is_6_3_21 : pm_is [6, 3] 21 = true := by decide
theorem is_6_3_22 : pm_is [6, 3] 22 = true := by decide
theorem is_3_6_3 : pm_is [3, 6] 3 = true := by decide
theorem is_3_6_4 : pm_is [3, 6] 4 = true := by decide
theorem is_3_6_5 : pm_is [3, 6] 5 = true := by decide
theorem is_3_6_6 : pm_is [3, 6] 6 = true := by decide
theorem is_3_6_7 : pm_is [3, 6] 7 = true := by decide
theorem is_3_6_10 : pm_is [3, 6] 10 = true := by decide
theorem is_3_6_11 : pm_is [3, 6] 11 = true := by decide
theorem is_3_6_12 : pm_is [3, 6] 12 = true := by decide
theorem is_3_6_13 : pm_is [3, 6] 13 = true := by decide
theorem is_3_6_14 : pm_is [3, 6] 14 = true := by decide
theorem is_3_6_21 : pm_is [3, 6] 21 = true := by decide
theorem is_3_6_22 : pm_is [3, 6] 22 = true := by decide
theorem is_3_4 : pm_is [3] 4 = true := by decide
theorem is_3_11 : pm_is [3] 11 = true := by decide
theorem is_0_8 : pm_is [0] 8 = true := by decide
theorem is_0_9 : pm_is [0] 9 = true := by decide
theorem is_0_15 : pm_is [0] 15 = true := by decide
theorem is_0_16 : pm_is [0] 16 = true := by decide
theorem is_0_20 : pm_is [0] 20 = true := by decide
theorem is_2_23 : pm_is [2] 23 = true := by decide
theorem is_2_24 : pm_is [2] 24 = true := by decide
theorem is_2_25 : pm_is [2] 25 = true := by decide
theorem is_2_26 : pm_is [2] 26 = true := by decide
theorem is_9_59 : pm_is [9] 59 = true := by decide
theorem kd_0 : pm_kd 0 = 8 := by decide
theorem kd_1 : pm_kd 1 = 5 := by decide
theorem kd_2 : pm_kd 2 = 5 := by decide
theorem kd_3 : pm_kd 3 = 6 := by decide
theorem kd_4 : pm_kd 4 = 3 := by decide
theorem kd_5 : pm_kd 5 = 6 := by decide
theorem kd_6 : pm_kd 6 = 6 := by decide
theorem kd_7 : pm_kd 7 = 6 := by decide
theorem kd_8 : pm_kd 8 = 0 := by decide
theorem kd_9 : pm_kd 9 = 0 := by decide
theorem kd_10 : pm_kd 10 = 6 := by decide
theorem kd_11 : pm_kd 11 = 3 := by decide
theorem kd_12 : pm_kd 12 = 6 := by decide
theorem kd_13 : pm_kd 13 = 6 := by decide
theorem kd_14 : pm_kd 14 = 6 := by decide
theorem kd_15 : pm_kd 15 = 0 := by decide
theorem kd_16 : pm_kd 16 = 0 := by decide
theorem kd_17 : pm_kd 17 = 7 := by decide
theorem kd_18 : pm_kd 18 = 1 := by decide
theorem kd_19 : pm_kd 19 = 4 := by decide
theorem kd_20 : pm_kd 20 = 0 := by decide
theorem kd_21 : pm_kd 21 = 6 := by decide
theorem kd_22 : pm_kd 22 = 6 := by decide
theorem kd_23 : pm_kd 23 = 2 := by decide
theorem kd_24 : pm_kd 24 = 2 := by decide
theorem kd_25 : pm_kd 25 = 2 := by decide
theorem kd_26 : pm_kd 26 = 2 := by decide
theorem kd_27 : pm_kd 27 = 21 := by decide
theorem kd_28 : pm_kd 28 = 20 := by decide
theorem kd_29 : pm_kd 29 = 20 := by decide
theorem kd_30 : pm_kd 30 = 20 := by decide
theorem kd_31 : pm_kd 31 = 20 := by decide
theorem kd_32 : pm_kd 32 = 20 := by decide
theorem kd_33 : pm_kd 33 = 20 := by decide
theorem kd_34 : pm_kd 34 = 20 := by decide
theorem kd_35 : pm_kd 35 = 20 := by decide
theorem kd_36 : pm_kd 36 = 20 := by decide
theorem kd_37 : pm_kd 37 = 20 := by decide
theorem kd_38 : pm_kd 38 = 20 := by decide
theorem kd_39 : pm_kd 39 = 20 := by decide
theorem kd_40 : pm_kd 40 = 20 := by decide
theorem kd_41 : pm_kd 41 = 20 := by decide
theorem kd_42 : pm_kd 42 = 20 := by decide
theorem kd_43 : pm_kd 43 = 20 := by decide
theorem kd_44 : pm_kd 44 = 20 := by decide
theorem kd_45 : pm_kd 45 = 20 := by decide
theorem kd_46 : pm_kd 46 = 20 := by decide
theorem kd_47 : pm_kd 47 = 20 := by decide
theorem kd_48 : pm_kd 48 = 20 := by decide
theorem kd_49 : pm_kd 49 = 20 := by decide
theorem kd_50 : pm_kd 50 = 20 := by decide
theorem kd_51 : pm_kd 51 = 20 := by decide
theorem kd_52 : pm_kd 52 = 20 := by decide
theorem kd_53 : pm_kd 53 = 20 := by decide
theorem kd_54 : pm_kd 54 = 20 := by decide
theorem kd_55 : pm_kd 55 = 20 := by decide
theorem kd_56 : pm_kd 56 = 20 := by decide
theorem kd_57 : pm_kd 57 = 20 := by decide
theorem kd_58 : pm_kd 58 = 20 := by decide
theorem kd_59 : pm_kd 59 = 9 := by decide
theorem kd_60 : pm_kd 60 = 20 := by decide
theorem kd_61 : pm_kd 61 = 20 := by decide
theorem kd_62 : pm_kd 62 = 20 := by decide
theorem kd_63 : pm_kd 63 = 20 := by decide
theorem kd_64 : pm_kd 64 = 20 := by decide
theorem kd_65 : pm_kd 65 = 20 := by decide
theorem kd_66 : pm_kd 66 = 22 := by decide
theorem kd_67 : pm_kd 67 = 20 := by decide
theorem kd_68 : pm_kd 68 = 20 := by decide
theorem kd_69 : pm_kd 69 = 20 := by decide
theorem kd_70 : pm_kd 70 = 20 := by decide
theorem kd_71 : pm_kd 71 = 20 := by decide
theorem kd_72 : pm_kd 72 = 20 := by decide
theorem kd_73 : pm_kd 73 = 20 := by decide
theorem kd_74 : pm_kd 74 = 20 := by decide
theorem kd_75 : pm_kd 75 = 20 := by decide
theorem kd_76 : pm_kd 76 = 30 := by decide
theorem kd_77 : pm_kd 77 = 30 := by decide
theorem kd_78 : pm_kd 78 = 30 := by decide
theorem kd_79 : pm_kd 79 = 30 := by decide
theorem kd_80 : pm_kd 80 = 31 := by decide
theorem kd_81 : pm_kd 81 = 31 := by decide
theorem kd_82 : pm_kd 82 = 31 := by decide
theorem kd_85 : pm_kd 85 = 32 := by decide
theorem kd_86 : pm_kd 86 = 32 := by decide
theorem kd_87 : pm_kd 87 = 32 := by decide
theorem al_27 : pm_al 27 = 4 := by decide
theorem al_28 : pm_al 28 = 7 := by decide
theorem al_29 : pm_al 29 = 5 := by decide
theorem al_30 : pm_al 30 = 60 := by decide
theorem al_31 : pm_al 31 = 120 := by decide
theorem al_32 : pm_al 32 = 40 := by decide
theorem al_33 : pm_al 33 = 64 := by decide
theorem al_34 : pm_al 34 = 60 := by decide
theorem al_35 : pm_al 35 = 24 := by decide
theorem al_36 : pm_al 36 = 60 := by decide
theorem al_37 : pm_al 37 = 60 := by decide
theorem al_38 : pm_al 38 = 120 := by decide
theorem al_39 : pm_al 39 = 40 := by decide
theorem al_40 : pm_al 40 = 64 := by decide
theorem al_41 : pm_al 41 = 60 := by decide
theorem al_42 : pm_al 42 = 24 := by decide
theorem al_43 : pm_al 43 = 60 := by decide
theorem al_44 : pm_al 44 = 60 := by decide
theorem al_45 : pm_al 45 = 60 := by decide
theorem al_46 : pm_al 46 = 60 := by decide
theorem al_47 : pm_al 47 = 30 := by decide
theorem al_48 : pm_al 48 = 24 := by decide
theorem al_49 : pm_al 49 = 24 := by decide
theorem al_50 : pm_al 50 = 24 := by decide
theorem al_51 : pm_al 51 = 24 := by decide
theorem al_52 : pm_al 52 = 25 := by decide
theorem al_53 : pm_al 53 = 25 := by decide
theorem al_54 : pm_al 54 = 24 := by decide
theorem al_55 : pm_al 55 = 24 := by decide
theorem al_56 : pm_al 56 = 24 := by decide
theorem al_57 : pm_al 57 = 24 := by decide
theorem al_58 : pm_al 58 = 24 := by decide
theorem al_60 : pm_al 60 = 440 := by decide
theorem al_61 : pm_al 61 = 440 := by decide
theorem al_62 : pm_al 62 = 7 := by decide
theorem al_63 : pm_al 63 = 25 := by decide
theorem al_64 : pm_al 64 = 25 := by decide
theorem al_65 : pm_al 65 = 24 := by decide
theorem al_66 : pm_al 66 = 2 := by decide
theorem al_67 : pm_al 67 = 60 := by decide
theorem al_68 : pm_al 68 = 5 := by decide
theorem al_69 : pm_al 69 = 60 := by decide
theorem al_70 : pm_al 70 = 24 := by decide
theorem al_71 : pm_al 71 = 30 := by decide
theorem al_72 : pm_al 72 = 4 := by decide
theorem al_73 : pm_al 73 = 4 := by decide
theorem al_74 : pm_al 74 = 96 := by decide
theorem al_75 : pm_al 75 = 24 := by decide
theorem al_76 : pm_al 76 = 4 := by decide
theorem al_77 : pm_al 77 = 4 := by decide
theorem al_78 : pm_al 78 = 7 := by decide
theorem al_79 : pm_al 79 = 28 := by decide
theorem al_85 : pm_al 85 = 5 := by decide
theorem al_86 : pm_al 86 = 4 := by decide
theorem al_87 : pm_al 87 = 0 := by decide
theorem rf_0_0 : pm_rf 0 0 = 1 := by decide
theorem rf_0_1 : pm_rf 0 1 = 2 := by decide
theorem rf_0_2 : pm_rf 0 2 = 17 := by decide
theorem rf_0_3 : pm_rf 0 3 = 18 := by decide
theorem rf_0_4 : pm_rf 0 4 = 19 := by decide
theorem rf_0_5 : pm_rf 0 5 = 27 := by decide
theorem rf_0_6 : pm_rf 0 6 = 28 := by decide
theorem rf_0_7 : pm_rf 0 7 = 29 := by decide
theorem rf_0_8 : pm_rf 0 8 = 30 := by decide
theorem rf_1_0 : pm_rf 1 0 = 3 := by decide
theorem rf_1_1 : pm_rf 1 1 = 4 := by decide
theorem rf_1_2 : pm_rf 1 2 = 5 := by decide
theorem rf_1_3 : pm_rf 1 3 = 6 := by decide
theorem rf_1_4 : pm_rf 1 4 = 7 := by decide
theorem rf_1_5 : pm_rf 1 5 = 8 := by decide
theorem rf_1_6 : pm_rf 1 6 = 9 := by decide
theorem rf_2_0 : pm_rf 2 0 = 10 := by decide
theorem rf_2_1 : pm_rf 2 1 = 11 := by decide
theorem rf_2_2 : pm_rf 2 2 = 12 := by decide
theorem rf_2_3 : pm_rf 2 3 = 13 := by decide
theorem rf_2_4 : pm_rf 2 4 = 14 := by decide
theorem rf_2_5 : pm_rf 2 5 = 15 := by decide
theorem rf_2_6 : pm_rf 2 6 = 16 := by decide
theorem rf_3_2 : pm_rf 3 2 = 31 := by decide
theorem rf_4_2 : pm_rf 4 2 = 32 := by decide
theorem rf_5_2 : pm_rf 5 2 = 33 := by decide
theorem rf_6_2 : pm_rf 6 2 = 34 := by decide
theorem rf_7_2 : pm_rf 7 2 = 35 := by decide
theorem rf_8_0 : pm_rf 8 0 = 36 := by decide
theorem rf_9_0 : pm_rf 9 0 = 37 := by decide
theorem rf_10_2 : pm_rf 10 2 = 38 := by decide
theorem rf_11_2 : pm_rf 11 2 = 39 := by decide
theorem rf_12_2 : pm_rf 12 2 = 40 := by decide
theorem rf_13_2 : pm_rf 13 2 = 41 := by decide
theorem rf_14_2 : pm_rf 14 2 = 42 := by decide
theorem rf_15_0 : pm_rf 15 0 = 43 := by decide
theorem rf_16_0 : pm_rf 16 0 = 44 := by decide
theorem rf_17_0 : pm_rf 17 0 = 52 := by decide
theorem rf_17_1 : pm_rf 17 1 = 53 := by decide
theorem rf_17_2 : pm_rf 17 2 = 54 := by decide
theorem rf_17_3 : pm_rf 17 3 = 55 := by decide
theorem rf_17_4 : pm_rf 17 4 = 56 := by decide
theorem rf_17_5 : pm_rf 17 5 = 57 := by decide
theorem rf_17_6 : pm_rf 17 6 = 58 := by decide
theorem rf_18_0 : pm_rf 18 0 = 20 := by decide
theorem rf_18_1 : pm_rf 18 1 = 21 := by decide
theorem rf_19_0 : pm_rf 19 0 = 22 := by decide
theorem rf_20_0 : pm_rf 20 0 = 45 := by decide
theorem rf_21_2 : pm_rf 21 2 = 46 := by decide
theorem rf_22_2 : pm_rf 22 2 = 47 := by decide
theorem rf_23_0 : pm_rf 23 0 = 48 := by decide
theorem rf_24_0 : pm_rf 24 0 = 49 := by decide
theorem rf_25_0 : pm_rf 25 0 = 50 := by decide
theorem rf_26_0 : pm_rf 26 0 = 51 := by decide
theorem rf_27_0 : pm_rf 27 0 = 23 := by decide
theorem rf_27_1 : pm_rf 27 1 = 24 := by decide
theorem rf_27_2 : pm_rf 27 2 = 25 := by decide
theorem rf_27_3 : pm_rf 27 3 = 26 := by decide
theorem rf_59_0 : pm_rf 59 0 = 60 := by decide
theorem rf_59_1 : pm_rf 59 1 = 61 := by decide
theorem rf_59_3 : pm_rf 59 3 = 62 := by decide
theorem rf_59_4 : pm_rf 59 4 = 63 := by decide
theorem rf_59_5 : pm_rf 59 5 = 64 := by decide
theorem rf_59_6 : pm_rf 59 6 = 65 := by decide
theorem rf_59_7 : pm_rf 59 7 = 66 := by decide
theorem rf_59_12 : pm_rf 59 12 = 67 := by decide
theorem rf_59_14 : pm_rf 59 14 = 68 := by decide
theorem rf_59_15 : pm_rf 59 15 = 69 := by decide
theorem rf_59_16 : pm_rf 59 16 = 70 := by decide
theorem rf_59_19 : pm_rf 59 19 = 71 := by decide
theorem rf_59_23 : pm_rf 59 23 = 72 := by decide
theorem rf_59_24 : pm_rf 59 24 = 73 := by decide
theorem rf_59_25 : pm_rf 59 25 = 74 := by decide
theorem rf_59_26 : pm_rf 59 26 = 75 := by decide
theorem rf_66_0 : pm_rf 66 0 = 80 := by decide
theorem rf_66_1 : pm_rf 66 1 = 81 := by decide
theorem rf_80_0 : pm_rf 80 0 = 85 := by decide
theorem rf_81_0 : pm_rf 81 0 = 86 := by decide
theorem rf_82_0 : pm_rf 82 0 = 87 := by decide
theorem fc_3_0 : pm_fc 3 0 = 5 := by decide
theorem fc_3_1 : pm_fc 3 1 = 24 := by decide
theorem fc_4_0 : pm_fc 4 0 = 5 := by decide
theorem fc_4_1 : pm_fc 4 1 = 8 := by decide
theorem fc_5_0 : pm_fc 5 0 = 4 := by decide
theorem fc_5_1 : pm_fc 5 1 = 16 := by decide
theorem fc_6_0 : pm_fc 6 0 = 1 := by decide
theorem fc_6_1 : pm_fc 6 1 = 60 := by decide
theorem fc_7_0 : pm_fc 7 0 = 1 := by decide
theorem fc_7_1 : pm_fc 7 1 = 24 := by decide
theorem fc_10_0 : pm_fc 10 0 = 5 := by decide
theorem fc_10_1 : pm_fc 10 1 = 24 := by decide
theorem fc_11_0 : pm_fc 11 0 = 5 := by decide
theorem fc_11_1 : pm_fc 11 1 = 8 := by decide
theorem fc_12_0 : pm_fc 12 0 = 4 := by decide
theorem fc_12_1 : pm_fc 12 1 = 16 := by decide
theorem fc_13_0 : pm_fc 13 0 = 1 := by decide
theorem fc_13_1 : pm_fc 13 1 = 60 := by decide
theorem fc_14_0 : pm_fc 14 0 = 1 := by decide
theorem fc_14_1 : pm_fc 14 1 = 24 := by decide
theorem fc_21_0 : pm_fc 21 0 = 1 := by decide
theorem fc_21_1 : pm_fc 21 1 = 60 := by decide
theorem fc_22_0 : pm_fc 22 0 = 1 := by decide
theorem fc_22_1 : pm_fc 22 1 = 30 := by decide
theorem is_sw {t : Nat} : pm_is [6, 3] t = pm_is [3, 6] t := by
  unfold pm_is
  simp [List.contains_cons, Bool.or_comm]
theorem v_cat (a : Value) : a.category ≤ 2 := by cases a <;> simp [Value.category]
theorem cs8_0 : (pm_cs [] ≤ 8) = True := by simp [pm_cs]
theorem cs8_1 {a : Value} : (pm_cs [a] ≤ 8) = True := by
  have := v_cat a
  simp only [pm_cs]; simp; omega
theorem cs8_2 {a b : Value} : (pm_cs [a, b] ≤ 8) = True := by
  have := v_cat a; have := v_cat b
  simp only [pm_cs]; simp; omega
theorem cs8_3 {a b c : Value} : (pm_cs [a, b, c] ≤ 8) = True := by
  have := v_cat a; have := v_cat b; have := v_cat c
  simp only [pm_cs]; simp; omega
theorem cs8_4 {a b c e : Value} : (pm_cs [a, b, c, e] ≤ 8) = True := by
  have := v_cat a; have := v_cat b; have := v_cat c; have := v_cat e
  simp only [pm_cs]; simp; omega
theorem cs8_5 {a b c e : Value} {x : Int32} : (pm_cs [.int x, a, b, c, e] ≤ 8) = (pm_cs [a, b, c, e] ≤ 7) := by
  simp only [pm_cs, Value.category]; simp; omega
theorem c2i {x : Int32} : (pm_c2 (some (.int x)) = false) = True := by simp [pm_c2]
theorem c2r {x : Nat} : (pm_c2 (some (.ref x)) = false) = True := by simp [pm_c2]
theorem c2n : (pm_c2 (some .null) = false) = True := by simp [pm_c2]
theorem c20 : (pm_c2 none = false) = True := by simp [pm_c2]
theorem i10 : ((1 : Int32) = 0) = False := by simp
theorem i01 : ((0 : Int32) = 1) = False := by simp
theorem i00 : ((0 : Int32) = 0) = True := by simp
def bI (p : Prop) [Decidable p] : Int32 := if p then 1 else 0
theorem bI_0 (p : Prop) [Decidable p] : (bI p = 0) = ¬ p := by
  unfold bI; by_cases h : p <;> simp [h]
theorem bI_1 (p : Prop) [Decidable p] : (bI p = 1) = p := by
  unfold bI; by_cases h : p <;> simp [h]
theorem bI_a (p : Prop) [Decidable p] : (bI p &&& 1 = bI p) = True := by
  unfold bI; by_cases h : p <;> simp [h]
theorem bI_z (p : Prop) [Decidable p] : (bI p = 0 ∨ bI p = 1) = True := by
  unfold bI; by_cases h : p <;> simp [h]
theorem sp_isIn {fb : Bool} {d : Nat} {v lo hi : Int32} {h : pm_HP} : rs fb (d + 1) n_X8_isIn [.int v, .int lo, .int hi] h = some (some (.int (bI (lo ≤ v ∧ v ≤ hi))), h) := by
  rw [en_X8_isIn]
  simp only [decide_eq_true_eq, ev_go, ev_i, ev_if2, ev_ild0, ev_ild1, ev_ild2, ev_rz, i00, i01, i10, if_false, if_true, pb_X8_isIn_0, pb_X8_isIn_1, pb_X8_isIn_2]
  by_cases h1 : v < lo
  · simp [h1, bI, Int32.not_le.mpr h1]
  · by_cases h2 : hi < v
    · simp [h1, h2, bI, Int32.not_le.mpr h2]
    · simp [h1, h2, bI, Int32.not_lt.mp h1, Int32.not_lt.mp h2]
theorem sp_held {fb : Bool} {d : Nat} {v m : Int32} {h : pm_HP} : rs fb (d + 1) n_X8_held [.int v, .int m] h = some (some (.int (if 0 < (if m < v then m else v) then (if m < v then m else v) else 0)), h) := by
  rw [en_X8_held]
  simp only [cs8_0, cs8_1, cs8_2, cs8_3, cs8_4, ev_i, ev_ild0, ev_ild1, ev_m2, ev_ri, pb_X8_held_0]
  simp
