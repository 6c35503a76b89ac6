/-! THE LAYOUT: the cells that the two constructors make, by number -/
def pm_kdT : List Nat := [8, 5, 5, 6, 3, 6, 6, 6, 0, 0, 6, 3, 6, 6, 6, 0, 0, 7, 1, 4, 0, 6, 6, 2, 2, 2, 2, 21, 20, 20, 20, 20, 20, 20, 20, 20, 20, 20, 20, 20, 20, 20, 20, 20, 20, 20, 20, 20, 20, 20, 20, 20, 20, 20, 20, 20, 20, 20, 20, 9, 20, 20, 20, 20, 20, 20, 22, 20, 20, 20, 20, 20, 20, 20, 20, 20, 30, 30, 30, 30, 31, 31, 31, 99, 99, 32, 32, 32, 99, 99]
def pm_kd (i : Nat) : Nat := pm_kdT.getD i 99
def pm_alT : List Nat := [0, 0, 0, 0, 0, 0, 0, 0, 0, 0, 0, 0, 0, 0, 0, 0, 0, 0, 0, 0, 0, 0, 0, 0, 0, 0, 0, 4, 7, 5, 60, 120, 40, 64, 60, 24, 60, 60, 120, 40, 64, 60, 24, 60, 60, 60, 60, 30, 24, 24, 24, 24, 25, 25, 24, 24, 24, 24, 24, 0, 440, 440, 7, 25, 25, 24, 2, 60, 5, 60, 24, 30, 4, 4, 96, 24, 4, 4, 7, 28, 0, 0, 0, 0, 0, 5, 4, 0, 0, 0]
def pm_al (i : Nat) : Nat := pm_alT.getD i 0
def pm_rfT : List (List Nat) := [[1, 2, 17, 18, 19, 27, 28, 29, 30], [3, 4, 5, 6, 7, 8, 9], [10, 11, 12, 13, 14, 15, 16], [0, 0, 31], [0, 0, 32], [0, 0, 33], [0, 0, 34], [0, 0, 35], [36], [37], [0, 0, 38], [0, 0, 39], [0, 0, 40], [0, 0, 41], [0, 0, 42], [43], [44], [52, 53, 54, 55, 56, 57, 58], [20, 21], [22], [45], [0, 0, 46], [0, 0, 47], [48], [49], [50], [51], [23, 24, 25, 26], [], [], [], [], [], [], [], [], [], [], [], [], [], [], [], [], [], [], [], [], [], [], [], [], [], [], [], [], [], [], [], [60, 61, 0, 62, 63, 64, 65, 66, 0, 0, 0, 0, 67, 0, 68, 69, 70, 0, 0, 71, 0, 0, 0, 72, 73, 74, 75], [], [], [], [], [], [], [80, 81], [], [], [], [], [], [], [], [], [], [], [], [], [], [85], [86], [87], [], [], [], [], [], [], []]
def pm_rf (i k : Nat) : Nat := (pm_rfT.getD i []).getD k 0
def pm_ftT : List (List Nat) := [[2, 0], [2, 2, 3, 0, 0, 0], [2, 0, 0], [4, 4, 2, 0], [2, 0, 0, 0, 0], [2, 2, 2, 2, 2, 2, 2, 0, 0, 0], [4, 4, 2, 0], [2, 2, 2, 2, 2, 2, 2, 0, 0, 0], [2, 2, 2, 2, 2, 2, 2, 2, 2, 0], [2, 2, 0, 2, 2, 2, 2, 2, 0, 0, 0, 0, 2, 0, 2, 2, 2, 1, 1, 2, 0, 0, 0, 2, 2, 2, 2]]
def pm_ft (c k : Nat) : Nat := (pm_ftT.getD c []).getD k 0
def pm_fcT : List (List Int32) := [[], [], [], [5, 24], [5, 8], [4, 16], [1, 60], [1, 24], [], [], [5, 24], [5, 8], [4, 16], [1, 60], [1, 24], [], [], [], [], [], [], [1, 60], [1, 30], [], [], [], [], [], [], [], [], [], [], [], [], [], [], [], [], [], [], [], [], [], [], [], [], [], [], [], [], [], [], [], [], [], [], [], [], [], [], [], [], [], [], [], [], [], [], [], [], [], [], [], [], [], [], [], [], [], [], [], [], [], [], [], [], [], [], []]
def pm_fc (i k : Nat) : Int32 := (pm_fcT.getD i []).getD k 0
def pm_nfT : List Nat := [2, 6, 3, 4, 5, 10, 4, 10, 10, 27]
def pm_nf (c : Nat) : Nat := pm_nfT.getD c 0
def pm_svT : List (List Int32) := [[-99, 0, 0, 0], [99, 9, 99, 1], [-1, 0, 0, 2, 1, 0, 5], [10, 11, 12, 13, 20, 0, 0, 21, 0, 30, 0, 0, 0, 41, 40, 0, 50, 0, 0, 51, 0, 0, 60, 0, 71, 0, 70, 0]]
def pm_sv (i k : Nat) : Int32 := (pm_svT.getD (i - 76) []).getD k 0
def pm_lenT : List Nat := [5, 4, 0]
def pm_bytT : List (List Int32) := [[105, 110, 115, 97, 116], [105, 108, 119, 99], []]
def pm_by (i k : Nat) : Int32 := (pm_bytT.getD (i - 85) []).getD k 0
theorem pm_kd_0 : pm_kd 0 = 8 := rfl
theorem pm_kd_1 : pm_kd 1 = 5 := rfl
theorem pm_kd_2 : pm_kd 2 = 5 := rfl
theorem pm_kd_3 : pm_kd 3 = 6 := rfl
theorem pm_kd_4 : pm_kd 4 = 3 := rfl
theorem pm_kd_5 : pm_kd 5 = 6 := rfl
theorem pm_kd_6 : pm_kd 6 = 6 := rfl
theorem pm_kd_7 : pm_kd 7 = 6 := rfl
theorem pm_kd_8 : pm_kd 8 = 0 := rfl
theorem pm_kd_9 : pm_kd 9 = 0 := rfl
theorem pm_kd_10 : pm_kd 10 = 6 := rfl
theorem pm_kd_11 : pm_kd 11 = 3 := rfl
theorem pm_kd_12 : pm_kd 12 = 6 := rfl
theorem pm_kd_13 : pm_kd 13 = 6 := rfl
theorem pm_kd_14 : pm_kd 14 = 6 := rfl
theorem pm_kd_15 : pm_kd 15 = 0 := rfl
theorem pm_kd_16 : pm_kd 16 = 0 := rfl
theorem pm_kd_17 : pm_kd 17 = 7 := rfl
theorem pm_kd_18 : pm_kd 18 = 1 := rfl
theorem pm_kd_19 : pm_kd 19 = 4 := rfl
theorem pm_kd_20 : pm_kd 20 = 0 := rfl
theorem pm_kd_21 : pm_kd 21 = 6 := rfl
theorem pm_kd_22 : pm_kd 22 = 6 := rfl
theorem pm_kd_23 : pm_kd 23 = 2 := rfl
theorem pm_kd_24 : pm_kd 24 = 2 := rfl
theorem pm_kd_25 : pm_kd 25 = 2 := rfl
theorem pm_kd_26 : pm_kd 26 = 2 := rfl
theorem pm_kd_27 : pm_kd 27 = 21 := rfl
theorem pm_al_27 : pm_al 27 = 4 := rfl
theorem pm_kd_28 : pm_kd 28 = 20 := rfl
theorem pm_al_28 : pm_al 28 = 7 := rfl
theorem pm_kd_29 : pm_kd 29 = 20 := rfl
theorem pm_al_29 : pm_al 29 = 5 := rfl
theorem pm_kd_30 : pm_kd 30 = 20 := rfl
theorem pm_al_30 : pm_al 30 = 60 := rfl
theorem pm_kd_31 : pm_kd 31 = 20 := rfl
theorem pm_al_31 : pm_al 31 = 120 := rfl
theorem pm_kd_32 : pm_kd 32 = 20 := rfl
theorem pm_al_32 : pm_al 32 = 40 := rfl
theorem pm_kd_33 : pm_kd 33 = 20 := rfl
theorem pm_al_33 : pm_al 33 = 64 := rfl
theorem pm_kd_34 : pm_kd 34 = 20 := rfl
theorem pm_al_34 : pm_al 34 = 60 := rfl
theorem pm_kd_35 : pm_kd 35 = 20 := rfl
theorem pm_al_35 : pm_al 35 = 24 := rfl
theorem pm_kd_36 : pm_kd 36 = 20 := rfl
theorem pm_al_36 : pm_al 36 = 60 := rfl
theorem pm_kd_37 : pm_kd 37 = 20 := rfl
theorem pm_al_37 : pm_al 37 = 60 := rfl
theorem pm_kd_38 : pm_kd 38 = 20 := rfl
theorem pm_al_38 : pm_al 38 = 120 := rfl
theorem pm_kd_39 : pm_kd 39 = 20 := rfl
theorem pm_al_39 : pm_al 39 = 40 := rfl
theorem pm_kd_40 : pm_kd 40 = 20 := rfl
theorem pm_al_40 : pm_al 40 = 64 := rfl
theorem pm_kd_41 : pm_kd 41 = 20 := rfl
theorem pm_al_41 : pm_al 41 = 60 := rfl
theorem pm_kd_42 : pm_kd 42 = 20 := rfl
theorem pm_al_42 : pm_al 42 = 24 := rfl
theorem pm_kd_43 : pm_kd 43 = 20 := rfl
theorem pm_al_43 : pm_al 43 = 60 := rfl
theorem pm_kd_44 : pm_kd 44 = 20 := rfl
theorem pm_al_44 : pm_al 44 = 60 := rfl
theorem pm_kd_45 : pm_kd 45 = 20 := rfl
theorem pm_al_45 : pm_al 45 = 60 := rfl
theorem pm_kd_46 : pm_kd 46 = 20 := rfl
theorem pm_al_46 : pm_al 46 = 60 := rfl
theorem pm_kd_47 : pm_kd 47 = 20 := rfl
theorem pm_al_47 : pm_al 47 = 30 := rfl
theorem pm_kd_48 : pm_kd 48 = 20 := rfl
theorem pm_al_48 : pm_al 48 = 24 := rfl
theorem pm_kd_49 : pm_kd 49 = 20 := rfl
theorem pm_al_49 : pm_al 49 = 24 := rfl
theorem pm_kd_50 : pm_kd 50 = 20 := rfl
theorem pm_al_50 : pm_al 50 = 24 := rfl
theorem pm_kd_51 : pm_kd 51 = 20 := rfl
theorem pm_al_51 : pm_al 51 = 24 := rfl
theorem pm_kd_52 : pm_kd 52 = 20 := rfl
theorem pm_al_52 : pm_al 52 = 25 := rfl
theorem pm_kd_53 : pm_kd 53 = 20 := rfl
theorem pm_al_53 : pm_al 53 = 25 := rfl
theorem pm_kd_54 : pm_kd 54 = 20 := rfl
theorem pm_al_54 : pm_al 54 = 24 := rfl
theorem pm_kd_55 : pm_kd 55 = 20 := rfl
theorem pm_al_55 : pm_al 55 = 24 := rfl
theorem pm_kd_56 : pm_kd 56 = 20 := rfl
theorem pm_al_56 : pm_al 56 = 24 := rfl
theorem pm_kd_57 : pm_kd 57 = 20 := rfl
theorem pm_al_57 : pm_al 57 = 24 := rfl
theorem pm_kd_58 : pm_kd 58 = 20 := rfl
theorem pm_al_58 : pm_al 58 = 24 := rfl
theorem pm_kd_59 : pm_kd 59 = 9 := rfl
theorem pm_kd_60 : pm_kd 60 = 20 := rfl
theorem pm_al_60 : pm_al 60 = 440 := rfl
theorem pm_kd_61 : pm_kd 61 = 20 := rfl
theorem pm_al_61 : pm_al 61 = 440 := rfl
theorem pm_kd_62 : pm_kd 62 = 20 := rfl
theorem pm_al_62 : pm_al 62 = 7 := rfl
theorem pm_kd_63 : pm_kd 63 = 20 := rfl
theorem pm_al_63 : pm_al 63 = 25 := rfl
theorem pm_kd_64 : pm_kd 64 = 20 := rfl
theorem pm_al_64 : pm_al 64 = 25 := rfl
theorem pm_kd_65 : pm_kd 65 = 20 := rfl
theorem pm_al_65 : pm_al 65 = 24 := rfl
theorem pm_kd_66 : pm_kd 66 = 22 := rfl
theorem pm_al_66 : pm_al 66 = 2 := rfl
theorem pm_kd_67 : pm_kd 67 = 20 := rfl
theorem pm_al_67 : pm_al 67 = 60 := rfl
theorem pm_kd_68 : pm_kd 68 = 20 := rfl
theorem pm_al_68 : pm_al 68 = 5 := rfl
theorem pm_kd_69 : pm_kd 69 = 20 := rfl
theorem pm_al_69 : pm_al 69 = 60 := rfl
theorem pm_kd_70 : pm_kd 70 = 20 := rfl
theorem pm_al_70 : pm_al 70 = 24 := rfl
theorem pm_kd_71 : pm_kd 71 = 20 := rfl
theorem pm_al_71 : pm_al 71 = 30 := rfl
theorem pm_kd_72 : pm_kd 72 = 20 := rfl
theorem pm_al_72 : pm_al 72 = 4 := rfl
theorem pm_kd_73 : pm_kd 73 = 20 := rfl
theorem pm_al_73 : pm_al 73 = 4 := rfl
theorem pm_kd_74 : pm_kd 74 = 20 := rfl
theorem pm_al_74 : pm_al 74 = 96 := rfl
theorem pm_kd_75 : pm_kd 75 = 20 := rfl
theorem pm_al_75 : pm_al 75 = 24 := rfl
theorem pm_kd_76 : pm_kd 76 = 30 := rfl
theorem pm_al_76 : pm_al 76 = 4 := rfl
theorem pm_kd_77 : pm_kd 77 = 30 := rfl
theorem pm_al_77 : pm_al 77 = 4 := rfl
theorem pm_kd_78 : pm_kd 78 = 30 := rfl
theorem pm_al_78 : pm_al 78 = 7 := rfl
theorem pm_kd_79 : pm_kd 79 = 30 := rfl
theorem pm_al_79 : pm_al 79 = 28 := rfl
theorem pm_kd_80 : pm_kd 80 = 31 := rfl
theorem pm_kd_81 : pm_kd 81 = 31 := rfl
theorem pm_kd_82 : pm_kd 82 = 31 := rfl
theorem pm_kd_83 : pm_kd 83 = 99 := rfl
theorem pm_kd_84 : pm_kd 84 = 99 := rfl
theorem pm_kd_85 : pm_kd 85 = 32 := rfl
theorem pm_al_85 : pm_al 85 = 5 := rfl
theorem pm_kd_86 : pm_kd 86 = 32 := rfl
theorem pm_al_86 : pm_al 86 = 4 := rfl
theorem pm_kd_87 : pm_kd 87 = 32 := rfl
theorem pm_al_87 : pm_al 87 = 0 := rfl
theorem pm_kd_88 : pm_kd 88 = 99 := rfl
theorem pm_kd_89 : pm_kd 89 = 99 := rfl
theorem pm_rf_0_0 : pm_rf 0 0 = 1 := rfl
theorem pm_rf_0_1 : pm_rf 0 1 = 2 := rfl
theorem pm_rf_0_2 : pm_rf 0 2 = 17 := rfl
theorem pm_rf_0_3 : pm_rf 0 3 = 18 := rfl
theorem pm_rf_0_4 : pm_rf 0 4 = 19 := rfl
theorem pm_rf_0_5 : pm_rf 0 5 = 27 := rfl
theorem pm_rf_0_6 : pm_rf 0 6 = 28 := rfl
theorem pm_rf_0_7 : pm_rf 0 7 = 29 := rfl
theorem pm_rf_0_8 : pm_rf 0 8 = 30 := rfl
theorem pm_rf_1_0 : pm_rf 1 0 = 3 := rfl
theorem pm_rf_1_1 : pm_rf 1 1 = 4 := rfl
theorem pm_rf_1_2 : pm_rf 1 2 = 5 := rfl
theorem pm_rf_1_3 : pm_rf 1 3 = 6 := rfl
theorem pm_rf_1_4 : pm_rf 1 4 = 7 := rfl
theorem pm_rf_1_5 : pm_rf 1 5 = 8 := rfl
theorem pm_rf_1_6 : pm_rf 1 6 = 9 := rfl
theorem pm_rf_2_0 : pm_rf 2 0 = 10 := rfl
theorem pm_rf_2_1 : pm_rf 2 1 = 11 := rfl
theorem pm_rf_2_2 : pm_rf 2 2 = 12 := rfl
theorem pm_rf_2_3 : pm_rf 2 3 = 13 := rfl
theorem pm_rf_2_4 : pm_rf 2 4 = 14 := rfl
theorem pm_rf_2_5 : pm_rf 2 5 = 15 := rfl
theorem pm_rf_2_6 : pm_rf 2 6 = 16 := rfl
theorem pm_rf_3_2 : pm_rf 3 2 = 31 := rfl
theorem pm_rf_4_2 : pm_rf 4 2 = 32 := rfl
theorem pm_rf_5_2 : pm_rf 5 2 = 33 := rfl
theorem pm_rf_6_2 : pm_rf 6 2 = 34 := rfl
theorem pm_rf_7_2 : pm_rf 7 2 = 35 := rfl
theorem pm_rf_8_0 : pm_rf 8 0 = 36 := rfl
theorem pm_rf_9_0 : pm_rf 9 0 = 37 := rfl
theorem pm_rf_10_2 : pm_rf 10 2 = 38 := rfl
theorem pm_rf_11_2 : pm_rf 11 2 = 39 := rfl
theorem pm_rf_12_2 : pm_rf 12 2 = 40 := rfl
theorem pm_rf_13_2 : pm_rf 13 2 = 41 := rfl
theorem pm_rf_14_2 : pm_rf 14 2 = 42 := rfl
theorem pm_rf_15_0 : pm_rf 15 0 = 43 := rfl
theorem pm_rf_16_0 : pm_rf 16 0 = 44 := rfl
theorem pm_rf_17_0 : pm_rf 17 0 = 52 := rfl
theorem pm_rf_17_1 : pm_rf 17 1 = 53 := rfl
theorem pm_rf_17_2 : pm_rf 17 2 = 54 := rfl
theorem pm_rf_17_3 : pm_rf 17 3 = 55 := rfl
theorem pm_rf_17_4 : pm_rf 17 4 = 56 := rfl
theorem pm_rf_17_5 : pm_rf 17 5 = 57 := rfl
theorem pm_rf_17_6 : pm_rf 17 6 = 58 := rfl
theorem pm_rf_18_0 : pm_rf 18 0 = 20 := rfl
theorem pm_rf_18_1 : pm_rf 18 1 = 21 := rfl
theorem pm_rf_19_0 : pm_rf 19 0 = 22 := rfl
theorem pm_rf_20_0 : pm_rf 20 0 = 45 := rfl
theorem pm_rf_21_2 : pm_rf 21 2 = 46 := rfl
theorem pm_rf_22_2 : pm_rf 22 2 = 47 := rfl
theorem pm_rf_23_0 : pm_rf 23 0 = 48 := rfl
theorem pm_rf_24_0 : pm_rf 24 0 = 49 := rfl
theorem pm_rf_25_0 : pm_rf 25 0 = 50 := rfl
theorem pm_rf_26_0 : pm_rf 26 0 = 51 := rfl
theorem pm_rf_27_0 : pm_rf 27 0 = 23 := rfl
theorem pm_rf_27_1 : pm_rf 27 1 = 24 := rfl
theorem pm_rf_27_2 : pm_rf 27 2 = 25 := rfl
theorem pm_rf_27_3 : pm_rf 27 3 = 26 := rfl
theorem pm_rf_59_0 : pm_rf 59 0 = 60 := rfl
theorem pm_rf_59_1 : pm_rf 59 1 = 61 := rfl
theorem pm_rf_59_3 : pm_rf 59 3 = 62 := rfl
theorem pm_rf_59_4 : pm_rf 59 4 = 63 := rfl
theorem pm_rf_59_5 : pm_rf 59 5 = 64 := rfl
theorem pm_rf_59_6 : pm_rf 59 6 = 65 := rfl
theorem pm_rf_59_7 : pm_rf 59 7 = 66 := rfl
theorem pm_rf_59_12 : pm_rf 59 12 = 67 := rfl
theorem pm_rf_59_14 : pm_rf 59 14 = 68 := rfl
theorem pm_rf_59_15 : pm_rf 59 15 = 69 := rfl
theorem pm_rf_59_16 : pm_rf 59 16 = 70 := rfl
theorem pm_rf_59_19 : pm_rf 59 19 = 71 := rfl
theorem pm_rf_59_23 : pm_rf 59 23 = 72 := rfl
theorem pm_rf_59_24 : pm_rf 59 24 = 73 := rfl
theorem pm_rf_59_25 : pm_rf 59 25 = 74 := rfl
theorem pm_rf_59_26 : pm_rf 59 26 = 75 := rfl
theorem pm_rf_66_0 : pm_rf 66 0 = 80 := rfl
theorem pm_rf_66_1 : pm_rf 66 1 = 81 := rfl
theorem pm_rf_80_0 : pm_rf 80 0 = 85 := rfl
theorem pm_rf_81_0 : pm_rf 81 0 = 86 := rfl
theorem pm_rf_82_0 : pm_rf 82 0 = 87 := rfl
theorem pm_fc_3_0 : pm_fc 3 0 = 5 := rfl
theorem pm_fc_3_1 : pm_fc 3 1 = 24 := rfl
theorem pm_fc_4_0 : pm_fc 4 0 = 5 := rfl
theorem pm_fc_4_1 : pm_fc 4 1 = 8 := rfl
theorem pm_fc_5_0 : pm_fc 5 0 = 4 := rfl
theorem pm_fc_5_1 : pm_fc 5 1 = 16 := rfl
theorem pm_fc_6_0 : pm_fc 6 0 = 1 := rfl
theorem pm_fc_6_1 : pm_fc 6 1 = 60 := rfl
theorem pm_fc_7_0 : pm_fc 7 0 = 1 := rfl
theorem pm_fc_7_1 : pm_fc 7 1 = 24 := rfl
theorem pm_fc_10_0 : pm_fc 10 0 = 5 := rfl
theorem pm_fc_10_1 : pm_fc 10 1 = 24 := rfl
theorem pm_fc_11_0 : pm_fc 11 0 = 5 := rfl
theorem pm_fc_11_1 : pm_fc 11 1 = 8 := rfl
theorem pm_fc_12_0 : pm_fc 12 0 = 4 := rfl
theorem pm_fc_12_1 : pm_fc 12 1 = 16 := rfl
theorem pm_fc_13_0 : pm_fc 13 0 = 1 := rfl
theorem pm_fc_13_1 : pm_fc 13 1 = 60 := rfl
theorem pm_fc_14_0 : pm_fc 14 0 = 1 := rfl
theorem pm_fc_14_1 : pm_fc 14 1 = 24 := rfl
theorem pm_fc_21_0 : pm_fc 21 0 = 1 := rfl
theorem pm_fc_21_1 : pm_fc 21 1 = 60 := rfl
theorem pm_fc_22_0 : pm_fc 22 0 = 1 := rfl
theorem pm_fc_22_1 : pm_fc 22 1 = 30 := rfl
def pm_sd (v : Int32) : Nat := 80 + v.toNatClampNeg
def pm_val (h : pm_HP) (i k : Nat) : Value := match pm_ft (pm_kd i) k with
  | 0 => .int (h.1 i k)
  | 1 => .long (h.2 i k)
  | 2 => .ref (pm_rf i k)
  | 3 => .ref (pm_sd (h.1 i k))
  | _ => .int (pm_fc i k)
/-- is the cell one of these kinds -/
def pm_is (cs : List Nat) (a : Nat) : Bool := cs.contains (pm_kd a)
def pm_ix (i : Int32) (n : Nat) : Bool := decide (0 ≤ i) && decide (i.toNatClampNeg < n)
def ac_gi (cs : List Nat) (k : Nat) : pm_Ac := fun ls st h => match pm_pR st with
  | some (a, r) => if pm_is cs a = true then pm_n ls (.int (h.1 a k) :: r) h else none
  | none => none
def ac_gl (cs : List Nat) (k : Nat) : pm_Ac := fun ls st h => match pm_pR st with
  | some (a, r) => if pm_is cs a = true then pm_n ls (.long (h.2 a k) :: r) h else none
  | none => none
def ac_gr (cs : List Nat) (k : Nat) : pm_Ac := fun ls st h => match pm_pR st with
  | some (a, r) => if pm_is cs a = true then pm_n ls (.ref (pm_rf a k) :: r) h else none
  | none => none
def ac_gc (cs : List Nat) (k : Nat) : pm_Ac := fun ls st h => match pm_pR st with
  | some (a, r) => if pm_is cs a = true then pm_n ls (.int (pm_fc a k) :: r) h else none
  | none => none
def ac_gs (cs : List Nat) (k : Nat) : pm_Ac := fun ls st h => match pm_pR st with
  | some (a, r) => if pm_is cs a = true then pm_n ls (.ref (pm_sd (h.1 a k)) :: r) h else none
  | none => none
def ac_pi (cs : List Nat) (k : Nat) : pm_Ac := fun ls st h => match pm_pI st with
  | some (v, r) => (match pm_pR r with
    | some (a, r) => if pm_is cs a = true then pm_n ls r (pm_si h a k v) else none
    | none => none)
  | none => none
def ac_pz (cs : List Nat) (k : Nat) : pm_Ac := fun ls st h => match pm_pI st with
  | some (v, r) => (match pm_pR r with
    | some (a, r) => if pm_is cs a = true ∧ (v = 0 ∨ v = 1) then pm_n ls r (pm_si h a k v) else none
    | none => none)
  | none => none
def ac_pl (cs : List Nat) (k : Nat) : pm_Ac := fun ls st h => match pm_pL st with
  | some (v, r) => (match pm_pR r with
    | some (a, r) => if pm_is cs a = true then pm_n ls r (pm_sl h a k v) else none
    | none => none)
  | none => none
def ac_ps (cs : List Nat) (k : Nat) : pm_Ac := fun ls st h => match pm_pR st with
  | some (v, r) => (match pm_pR r with
    | some (a, r) => if pm_is cs a = true ∧ pm_kd v = 31 then pm_n ls r (pm_si h a k (nI (v - 80))) else none
    | none => none)
  | none => none
def ac_ia : pm_Ac := fun ls st h => match pm_pI st with
  | some (i, r) => (match pm_pR r with
    | some (a, r) => if pm_kd a = 20 ∧ pm_ix i (pm_al a) = true then pm_n ls (.int (h.1 a i.toNatClampNeg) :: r) h else none
    | none => none)
  | none => none
def ac_is : pm_Ac := fun ls st h => match pm_pI st with
  | some (i, r) => (match pm_pR r with
    | some (a, r) => if pm_kd a = 30 ∧ pm_ix i (pm_al a) = true then pm_n ls (.int (pm_sv a i.toNatClampNeg) :: r) h else none
    | none => none)
  | none => none
def ac_ba : pm_Ac := fun ls st h => match pm_pI st with
  | some (i, r) => (match pm_pR r with
    | some (a, r) => if pm_kd a = 32 ∧ pm_ix i (pm_al a) = true then pm_n ls (.int (pm_by a i.toNatClampNeg) :: r) h else none
    | none => none)
  | none => none
def ac_aa : pm_Ac := fun ls st h => match pm_pI st with
  | some (i, r) => (match pm_pR r with
    | some (a, r) => if (pm_kd a = 21 ∨ pm_kd a = 22) ∧ pm_ix i (pm_al a) = true then pm_n ls (.ref (pm_rf a i.toNatClampNeg) :: r) h else none
    | none => none)
  | none => none
def ac_ias : pm_Ac := fun ls st h => match pm_pI st with
  | some (x, r) => (match pm_pI r with
    | some (i, r) => (match pm_pR r with
      | some (a, r) => if pm_kd a = 20 ∧ pm_ix i (pm_al a) = true then pm_n ls r (pm_si h a i.toNatClampNeg x) else none
      | none => none)
    | none => none)
  | none => none
def ac_ln : pm_Ac := fun ls st h => match pm_pR st with
  | some (a, r) => if pm_kd a = 20 ∨ pm_kd a = 21 ∨ pm_kd a = 22 then pm_n ls (.int (nI (pm_al a)) :: r) h else none
  | none => none
def ac_lb : pm_Ac := fun ls st h => match pm_pR st with
  | some (a, r) => if pm_kd a = 32 then pm_n ls (.int (nI (pm_al a)) :: r) h else none
  | none => none
/-- of a text: its bytes, its coder -/
def ac_tv : pm_Ac := fun ls st h => match pm_pR st with
  | some (a, r) => if pm_kd a = 31 then pm_n ls (.ref (a + 5) :: r) h else none
  | none => none
def ac_tc : pm_Ac := fun ls st h => match pm_pR st with
  | some (a, r) => if pm_kd a = 31 then pm_n ls (.int 0 :: r) h else none
  | none => none
def ac_cv (y n : Nat) (cs : List Nat) : pm_Ac := fun ls st h => match pm_tk n st [] with
  | some (as, r) => (match pm_pR r with
    | some (a, r) => if pm_is cs a = true ∧ pm_cs r ≤ 8 then pm_c y (.ref a :: as) ls r h else none
    | none => none)
  | none => none
def pm_cp (h : pm_HP) (a0 a1 sp dp n : Nat) : pm_HP := (fun a b => if a = a1 then va_cpy (h.1 a0) (h.1 a1) sp dp n b else h.1 a b, h.2)
def ac_cp : pm_Ac := fun ls st h => match st with
  | .int n :: .int dp :: .ref a1 :: .int sp :: .ref a0 :: r => if pm_kd a0 = 20 ∧ pm_kd a1 = 20 ∧ 0 ≤ sp ∧ 0 ≤ dp ∧ 0 ≤ n ∧ sp.toNatClampNeg + n.toNatClampNeg ≤ pm_al a0 ∧ dp.toNatClampNeg + n.toNatClampNeg ≤ pm_al a1 ∧ pm_cs r ≤ 8 then pm_n ls r (pm_cp h a0 a1 sp.toNatClampNeg dp.toNatClampNeg n.toNatClampNeg) else none
  | _ => none
