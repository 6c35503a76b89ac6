/-! ENTRIES AND BLOCKS, by program -/
theorem en_X0_isTold {fb : Bool} {d : Nat} {a0 : Nat} {h : pm_HP} : rs fb (d + 1) n_X0_isTold [.ref a0] h = pm_ev (P_X0_isTold) (rs fb d) (P_X0_isTold 0) [some (.ref a0)] [] h := rfl
theorem pb_X0_isTold_0 : P_X0_isTold 0 = [ac_ald 0, ac_gi [0] 1, ac_if0 (fun x => decide (x ≤ 0)) 1, ac_i (1), ac_go 2] := rfl
theorem pb_X0_isTold_1 : P_X0_isTold 1 = [ac_i (0), ac_go 2] := rfl
theorem pb_X0_isTold_2 : P_X0_isTold 2 = [ac_rz (fun v => v &&& 1)] := rfl
theorem en_X0_clear {fb : Bool} {d : Nat} {a0 : Nat} {h : pm_HP} : rs fb (d + 1) n_X0_clear [.ref a0] h = pm_ev (P_X0_clear) (rs fb d) (P_X0_clear 0) [some (.ref a0)] [] h := rfl
theorem pb_X0_clear_0 : P_X0_clear 0 = [ac_ald 0, ac_i (0), ac_pi [0] 1, ac_rv] := rfl
theorem en_X0_add {fb : Bool} {d : Nat} {a0 : Nat} {x1 : Int32} {h : pm_HP} : rs fb (d + 1) n_X0_add [.ref a0, .int x1] h = pm_ev (P_X0_add) (rs fb d) (P_X0_add 0) [some (.ref a0), some (.int x1)] [] h := rfl
theorem pb_X0_add_0 : P_X0_add 0 = [ac_ald 0, ac_gi [0] 1, ac_ald 0, ac_gr [0] 0, ac_ln, ac_if2 (fun x y => decide (y ≤ x)) 1, ac_ald 0, ac_gr [0] 0, ac_ald 0, ac_gi [0] 1, ac_ild 1, ac_ias, ac_ald 0, ac_dup, ac_gi [0] 1, ac_i (1), ac_bin (fun x y => x + y), ac_pi [0] 1, ac_go 1] := rfl
theorem pb_X0_add_1 : P_X0_add 1 = [ac_rv] := rfl
theorem en_X0_take {fb : Bool} {d : Nat} {a0 : Nat} {x1 : Nat} {h : pm_HP} : rs fb (d + 1) n_X0_take [.ref a0, .ref x1] h = pm_ev (P_X0_take) (rs fb d) (P_X0_take 0) [some (.ref a0), some (.ref x1)] [] h := rfl
theorem pb_X0_take_0 : P_X0_take 0 = [ac_ald 1, ac_gr [0] 0, ac_i (0), ac_ald 0, ac_gr [0] 0, ac_i (0), ac_ald 0, ac_gr [0] 0, ac_ln, ac_cp, ac_ald 0, ac_ald 1, ac_gi [0] 1, ac_pi [0] 1, ac_rv] := rfl
theorem en_X0_workedOut {fb : Bool} {d : Nat} {a0 : Nat} {x1 : Nat} {x2 : Nat} {h : pm_HP} : rs fb (d + 1) n_X0_workedOut [.ref a0, .ref x1, .ref x2] h = pm_ev (P_X0_workedOut) (rs fb d) (P_X0_workedOut 0) [some (.ref a0), some (.ref x1), some (.ref x2), none, none, none] [] h := rfl
theorem pb_X0_workedOut_0 : P_X0_workedOut 0 = [ac_i (0), ac_ist 3, ac_i (0), ac_ist 4, ac_go 1] := rfl
theorem pb_X0_workedOut_1 : P_X0_workedOut 1 = [ac_ild 4, ac_ald 0, ac_gi [0] 1, ac_if2 (fun x y => decide (y ≤ x)) 9, ac_ald 0, ac_gr [0] 0, ac_ild 4, ac_ia, ac_ist 5, ac_ild 5, ac_i (20000), ac_if2 (fun x y => decide (y ≤ x)) 4, ac_ild 3, ac_ald 2, ac_ln, ac_if2 (fun x y => decide (y ≤ x)) 4, ac_ald 2, ac_ild 3, ac_ild 5, ac_i (10000), ac_if2 (fun x y => decide (y ≤ x)) 2, ac_ild 5, ac_go 3] := rfl
theorem pb_X0_workedOut_2 : P_X0_workedOut 2 = [ac_ald 1, ac_ild 5, ac_i (10000), ac_bin (fun x y => x - y), ac_cs n_X0_named 2, ac_go 3] := rfl
theorem pb_X0_workedOut_3 : P_X0_workedOut 3 = [ac_ias, ac_inc 3 (1), ac_go 8] := rfl
theorem pb_X0_workedOut_4 : P_X0_workedOut 4 = [ac_ild 5, ac_i (20033), ac_if2 (fun x y => decide (¬ x = y)) 7, ac_ild 3, ac_i (1), ac_if2 (fun x y => decide (x < y)) 7, ac_ald 2, ac_ild 3, ac_i (1), ac_bin (fun x y => x - y), ac_ald 2, ac_ild 3, ac_i (1), ac_bin (fun x y => x - y), ac_ia, ac_if0 (fun x => decide (¬ x = 0)) 5, ac_i (1), ac_go 6] := rfl
theorem pb_X0_workedOut_5 : P_X0_workedOut 5 = [ac_i (0), ac_go 6] := rfl
theorem pb_X0_workedOut_6 : P_X0_workedOut 6 = [ac_cs n_X0_truth 1, ac_ias, ac_go 8] := rfl
theorem pb_X0_workedOut_7 : P_X0_workedOut 7 = [ac_ild 3, ac_i (2), ac_if2 (fun x y => decide (x < y)) 8, ac_inc 3 (-1), ac_ald 2, ac_ild 3, ac_i (1), ac_bin (fun x y => x - y), ac_ild 5, ac_i (20000), ac_bin (fun x y => x - y), ac_ald 2, ac_ild 3, ac_i (1), ac_bin (fun x y => x - y), ac_ia, ac_ald 2, ac_ild 3, ac_ia, ac_cs n_X0_joined 3, ac_ias, ac_go 8] := rfl
theorem pb_X0_workedOut_8 : P_X0_workedOut 8 = [ac_inc 4 (1), ac_go 1] := rfl
theorem pb_X0_workedOut_9 : P_X0_workedOut 9 = [ac_ild 3, ac_if0 (fun x => decide (x ≤ 0)) 10, ac_ald 2, ac_i (0), ac_ia, ac_go 11] := rfl
theorem pb_X0_workedOut_10 : P_X0_workedOut 10 = [ac_i (0), ac_go 11] := rfl
theorem pb_X0_workedOut_11 : P_X0_workedOut 11 = [ac_ri] := rfl
theorem en_X0_named {fb : Bool} {d : Nat} {x0 : Nat} {x1 : Int32} {h : pm_HP} : rs fb (d + 1) n_X0_named [.ref x0, .int x1] h = pm_ev (P_X0_named) (rs fb d) (P_X0_named 0) [some (.ref x0), some (.int x1)] [] h := rfl
theorem pb_X0_named_0 : P_X0_named 0 = [ac_ild 1, ac_i (0), ac_ald 0, ac_ln, ac_i (1), ac_bin (fun x y => x - y), ac_cs n_X8_isIn 3, ac_if0 (fun x => decide (x = 0)) 1, ac_ald 0, ac_ild 1, ac_ia, ac_go 2] := rfl
theorem pb_X0_named_1 : P_X0_named 1 = [ac_i (0), ac_go 2] := rfl
theorem pb_X0_named_2 : P_X0_named 2 = [ac_ri] := rfl
theorem en_X0_joined {fb : Bool} {d : Nat} {x0 : Int32} {x1 : Int32} {x2 : Int32} {h : pm_HP} : rs fb (d + 1) n_X0_joined [.int x0, .int x1, .int x2] h = pm_ev (P_X0_joined) (rs fb d) (P_X0_joined 0) [some (.int x0), some (.int x1), some (.int x2)] [] h := rfl
theorem pb_X0_joined_0 : P_X0_joined 0 = [ac_ild 0, ac_sw [(38, 5), (42, 19), (43, 17), (45, 18), (47, 20), (60, 8), (61, 11), (62, 14), (124, 1)] 23] := rfl
theorem pb_X0_joined_1 : P_X0_joined 1 = [ac_ild 1, ac_if0 (fun x => decide (¬ x = 0)) 2, ac_ild 2, ac_if0 (fun x => decide (x = 0)) 3, ac_go 2] := rfl
theorem pb_X0_joined_2 : P_X0_joined 2 = [ac_i (1), ac_go 4] := rfl
theorem pb_X0_joined_3 : P_X0_joined 3 = [ac_i (0), ac_go 4] := rfl
theorem pb_X0_joined_4 : P_X0_joined 4 = [ac_cs n_X0_truth 1, ac_ri] := rfl
theorem pb_X0_joined_5 : P_X0_joined 5 = [ac_ild 1, ac_if0 (fun x => decide (x = 0)) 6, ac_ild 2, ac_if0 (fun x => decide (x = 0)) 6, ac_i (1), ac_go 7] := rfl
theorem pb_X0_joined_6 : P_X0_joined 6 = [ac_i (0), ac_go 7] := rfl
theorem pb_X0_joined_7 : P_X0_joined 7 = [ac_cs n_X0_truth 1, ac_ri] := rfl
theorem pb_X0_joined_8 : P_X0_joined 8 = [ac_ild 1, ac_ild 2, ac_if2 (fun x y => decide (y ≤ x)) 9, ac_i (1), ac_go 10] := rfl
theorem pb_X0_joined_9 : P_X0_joined 9 = [ac_i (0), ac_go 10] := rfl
theorem pb_X0_joined_10 : P_X0_joined 10 = [ac_cs n_X0_truth 1, ac_ri] := rfl
theorem pb_X0_joined_11 : P_X0_joined 11 = [ac_ild 1, ac_ild 2, ac_if2 (fun x y => decide (¬ x = y)) 12, ac_i (1), ac_go 13] := rfl
theorem pb_X0_joined_12 : P_X0_joined 12 = [ac_i (0), ac_go 13] := rfl
theorem pb_X0_joined_13 : P_X0_joined 13 = [ac_cs n_X0_truth 1, ac_ri] := rfl
theorem pb_X0_joined_14 : P_X0_joined 14 = [ac_ild 1, ac_ild 2, ac_if2 (fun x y => decide (x ≤ y)) 15, ac_i (1), ac_go 16] := rfl
theorem pb_X0_joined_15 : P_X0_joined 15 = [ac_i (0), ac_go 16] := rfl
theorem pb_X0_joined_16 : P_X0_joined 16 = [ac_cs n_X0_truth 1, ac_ri] := rfl
theorem pb_X0_joined_17 : P_X0_joined 17 = [ac_ild 1, ac_ild 2, ac_bin (fun x y => x + y), ac_ri] := rfl
theorem pb_X0_joined_18 : P_X0_joined 18 = [ac_ild 1, ac_ild 2, ac_bin (fun x y => x - y), ac_ri] := rfl
theorem pb_X0_joined_19 : P_X0_joined 19 = [ac_ild 1, ac_ild 2, ac_bin (fun x y => x * y), ac_ri] := rfl
theorem pb_X0_joined_20 : P_X0_joined 20 = [ac_ild 2, ac_if0 (fun x => decide (¬ x = 0)) 21, ac_i (0), ac_go 22] := rfl
theorem pb_X0_joined_21 : P_X0_joined 21 = [ac_ild 1, ac_ild 2, ac_dv (fun x y => x / y), ac_go 22] := rfl
theorem pb_X0_joined_22 : P_X0_joined 22 = [ac_ri] := rfl
theorem pb_X0_joined_23 : P_X0_joined 23 = [ac_ild 2, ac_if0 (fun x => decide (¬ x = 0)) 24, ac_i (0), ac_go 25] := rfl
theorem pb_X0_joined_24 : P_X0_joined 24 = [ac_ild 1, ac_ild 2, ac_dv (fun x y => x - x / y * y), ac_go 25] := rfl
theorem pb_X0_joined_25 : P_X0_joined 25 = [ac_ri] := rfl
theorem en_X0_truth {fb : Bool} {d : Nat} {x0 : Int32} {h : pm_HP} : rs fb (d + 1) n_X0_truth [.int x0] h = pm_ev (P_X0_truth) (rs fb d) (P_X0_truth 0) [some (.int x0)] [] h := rfl
theorem pb_X0_truth_0 : P_X0_truth 0 = [ac_ild 0, ac_if0 (fun x => decide (x = 0)) 1, ac_i (1), ac_go 2] := rfl
theorem pb_X0_truth_1 : P_X0_truth 1 = [ac_i (0), ac_go 2] := rfl
theorem pb_X0_truth_2 : P_X0_truth 2 = [ac_ri] := rfl
theorem en_X1_faultOf {fb : Bool} {d : Nat} {a0 : Nat} {x1 : Nat} {x2 : Nat} {h : pm_HP} : rs fb (d + 1) n_X1_faultOf [.ref a0, .ref x1, .ref x2] h = pm_ev (P_X1_faultOf) (rs fb d) (P_X1_faultOf 0) [some (.ref a0), some (.ref x1), some (.ref x2)] [] h := rfl
theorem pb_X1_faultOf_0 : P_X1_faultOf 0 = [ac_ald 0, ac_gr [1] 1, ac_ald 1, ac_cv n_X6_take 1 [6, 3], ac_ald 0, ac_ald 2, ac_ps [1] 2, ac_ald 0, ac_gr [1] 0, ac_cv n_X0_clear 0 [0], ac_ald 0, ac_i (0), ac_pi [1] 3, ac_ald 0, ac_i (0), ac_pi [1] 4, ac_ald 0, ac_i (0), ac_pz [1] 5, ac_ald 0, ac_cv n_X1_readT 0 [1], ac_ald 0, ac_gi [1] 5, ac_if0 (fun x => decide (¬ x = 0)) 1, ac_ald 0, ac_gi [1] 3, ac_ald 0, ac_gr [1] 1, ac_cv n_X6_used 0 [6, 3], ac_if2 (fun x y => decide (y ≤ x)) 2, ac_go 1] := rfl
theorem pb_X1_faultOf_1 : P_X1_faultOf 1 = [ac_ald 0, ac_gi [1] 3, ac_go 3] := rfl
theorem pb_X1_faultOf_2 : P_X1_faultOf 2 = [ac_i (-1), ac_go 3] := rfl
theorem pb_X1_faultOf_3 : P_X1_faultOf 3 = [ac_ri] := rfl
theorem en_X1_readT {fb : Bool} {d : Nat} {a0 : Nat} {h : pm_HP} : rs fb (d + 1) n_X1_readT [.ref a0] h = pm_ev (P_X1_readT) (rs fb d) (P_X1_readT 0) [some (.ref a0), none] [] h := rfl
theorem pb_X1_readT_0 : P_X1_readT 0 = [ac_ald 0, ac_cv n_X1_readA 0 [1], ac_i (0), ac_ist 1, ac_go 1] := rfl
theorem pb_X1_readT_1 : P_X1_readT 1 = [ac_ild 1, ac_i (60), ac_if2 (fun x y => decide (y ≤ x)) 2, ac_ald 0, ac_i (124), ac_cv n_X1_isNext 1 [1], ac_if0 (fun x => decide (x = 0)) 2, ac_ald 0, ac_dup, ac_gi [1] 3, ac_i (1), ac_bin (fun x y => x + y), ac_pi [1] 3, ac_ald 0, ac_cv n_X1_readA 0 [1], ac_ald 0, ac_gr [1] 0, ac_i (20124), ac_cv n_X0_add 1 [0], ac_inc 1 (1), ac_go 1] := rfl
theorem pb_X1_readT_2 : P_X1_readT 2 = [ac_rv] := rfl
theorem en_X1_readA {fb : Bool} {d : Nat} {a0 : Nat} {h : pm_HP} : rs fb (d + 1) n_X1_readA [.ref a0] h = pm_ev (P_X1_readA) (rs fb d) (P_X1_readA 0) [some (.ref a0), none] [] h := rfl
theorem pb_X1_readA_0 : P_X1_readA 0 = [ac_ald 0, ac_cv n_X1_readB 0 [1], ac_i (0), ac_ist 1, ac_go 1] := rfl
theorem pb_X1_readA_1 : P_X1_readA 1 = [ac_ild 1, ac_i (60), ac_if2 (fun x y => decide (y ≤ x)) 2, ac_ald 0, ac_i (38), ac_cv n_X1_isNext 1 [1], ac_if0 (fun x => decide (x = 0)) 2, ac_ald 0, ac_dup, ac_gi [1] 3, ac_i (1), ac_bin (fun x y => x + y), ac_pi [1] 3, ac_ald 0, ac_cv n_X1_readB 0 [1], ac_ald 0, ac_gr [1] 0, ac_i (20038), ac_cv n_X0_add 1 [0], ac_inc 1 (1), ac_go 1] := rfl
theorem pb_X1_readA_2 : P_X1_readA 2 = [ac_rv] := rfl
theorem en_X1_readB {fb : Bool} {d : Nat} {a0 : Nat} {h : pm_HP} : rs fb (d + 1) n_X1_readB [.ref a0] h = pm_ev (P_X1_readB) (rs fb d) (P_X1_readB 0) [some (.ref a0), none] [] h := rfl
theorem pb_X1_readB_0 : P_X1_readB 0 = [ac_ald 0, ac_cv n_X1_readS 0 [1], ac_ald 0, ac_i (60), ac_cv n_X1_isNext 1 [1], ac_if0 (fun x => decide (¬ x = 0)) 1, ac_ald 0, ac_i (61), ac_cv n_X1_isNext 1 [1], ac_if0 (fun x => decide (¬ x = 0)) 1, ac_ald 0, ac_i (62), ac_cv n_X1_isNext 1 [1], ac_if0 (fun x => decide (x = 0)) 2, ac_go 1] := rfl
theorem pb_X1_readB_1 : P_X1_readB 1 = [ac_ald 0, ac_cv n_X1_next 0 [1], ac_ist 1, ac_ald 0, ac_dup, ac_gi [1] 3, ac_i (1), ac_bin (fun x y => x + y), ac_pi [1] 3, ac_ald 0, ac_cv n_X1_readS 0 [1], ac_ald 0, ac_gr [1] 0, ac_i (20000), ac_ild 1, ac_bin (fun x y => x + y), ac_cv n_X0_add 1 [0], ac_go 2] := rfl
theorem pb_X1_readB_2 : P_X1_readB 2 = [ac_rv] := rfl
theorem en_X1_readS {fb : Bool} {d : Nat} {a0 : Nat} {h : pm_HP} : rs fb (d + 1) n_X1_readS [.ref a0] h = pm_ev (P_X1_readS) (rs fb d) (P_X1_readS 0) [some (.ref a0), none, none] [] h := rfl
theorem pb_X1_readS_0 : P_X1_readS 0 = [ac_ald 0, ac_cv n_X1_readP 0 [1], ac_i (0), ac_ist 1, ac_go 1] := rfl
theorem pb_X1_readS_1 : P_X1_readS 1 = [ac_ild 1, ac_i (60), ac_if2 (fun x y => decide (y ≤ x)) 3, ac_ald 0, ac_i (43), ac_cv n_X1_isNext 1 [1], ac_if0 (fun x => decide (¬ x = 0)) 2, ac_ald 0, ac_i (45), ac_cv n_X1_isNext 1 [1], ac_if0 (fun x => decide (x = 0)) 3, ac_go 2] := rfl
theorem pb_X1_readS_2 : P_X1_readS 2 = [ac_ald 0, ac_cv n_X1_next 0 [1], ac_ist 2, ac_ald 0, ac_dup, ac_gi [1] 3, ac_i (1), ac_bin (fun x y => x + y), ac_pi [1] 3, ac_ald 0, ac_cv n_X1_readP 0 [1], ac_ald 0, ac_gr [1] 0, ac_i (20000), ac_ild 2, ac_bin (fun x y => x + y), ac_cv n_X0_add 1 [0], ac_inc 1 (1), ac_go 1] := rfl
theorem pb_X1_readS_3 : P_X1_readS 3 = [ac_rv] := rfl
theorem en_X1_readP {fb : Bool} {d : Nat} {a0 : Nat} {h : pm_HP} : rs fb (d + 1) n_X1_readP [.ref a0] h = pm_ev (P_X1_readP) (rs fb d) (P_X1_readP 0) [some (.ref a0), none, none] [] h := rfl
theorem pb_X1_readP_0 : P_X1_readP 0 = [ac_ald 0, ac_cv n_X1_readQ 0 [1], ac_i (0), ac_ist 1, ac_go 1] := rfl
theorem pb_X1_readP_1 : P_X1_readP 1 = [ac_ild 1, ac_i (60), ac_if2 (fun x y => decide (y ≤ x)) 3, ac_ald 0, ac_i (42), ac_cv n_X1_isNext 1 [1], ac_if0 (fun x => decide (¬ x = 0)) 2, ac_ald 0, ac_i (47), ac_cv n_X1_isNext 1 [1], ac_if0 (fun x => decide (¬ x = 0)) 2, ac_ald 0, ac_i (37), ac_cv n_X1_isNext 1 [1], ac_if0 (fun x => decide (x = 0)) 3, ac_go 2] := rfl
theorem pb_X1_readP_2 : P_X1_readP 2 = [ac_ald 0, ac_cv n_X1_next 0 [1], ac_ist 2, ac_ald 0, ac_dup, ac_gi [1] 3, ac_i (1), ac_bin (fun x y => x + y), ac_pi [1] 3, ac_ald 0, ac_cv n_X1_readQ 0 [1], ac_ald 0, ac_gr [1] 0, ac_i (20000), ac_ild 2, ac_bin (fun x y => x + y), ac_cv n_X0_add 1 [0], ac_inc 1 (1), ac_go 1] := rfl
theorem pb_X1_readP_3 : P_X1_readP 3 = [ac_rv] := rfl
theorem en_X1_readQ {fb : Bool} {d : Nat} {a0 : Nat} {h : pm_HP} : rs fb (d + 1) n_X1_readQ [.ref a0] h = pm_ev (P_X1_readQ) (rs fb d) (P_X1_readQ 0) [some (.ref a0), none] [] h := rfl
theorem pb_X1_readQ_0 : P_X1_readQ 0 = [ac_ald 0, ac_cv n_X1_next 0 [1], ac_ist 1, ac_ild 1, ac_cs n_X1_isDigit 1, ac_if0 (fun x => decide (x = 0)) 1, ac_ald 0, ac_cv n_X1_readNumber 0 [1], ac_go 9] := rfl
theorem pb_X1_readQ_1 : P_X1_readQ 1 = [ac_ald 0, ac_ild 1, ac_cv n_X1_nameOf 1 [1], ac_if0 (fun x => decide (x < 0)) 2, ac_ald 0, ac_gr [1] 0, ac_i (10000), ac_ald 0, ac_ild 1, ac_cv n_X1_nameOf 1 [1], ac_bin (fun x y => x + y), ac_cv n_X0_add 1 [0], ac_ald 0, ac_dup, ac_gi [1] 3, ac_i (1), ac_bin (fun x y => x + y), ac_pi [1] 3, ac_go 9] := rfl
theorem pb_X1_readQ_2 : P_X1_readQ 2 = [ac_ild 1, ac_i (33), ac_if2 (fun x y => decide (¬ x = y)) 3, ac_ald 0, ac_gi [1] 4, ac_i (5), ac_if2 (fun x y => decide (y ≤ x)) 3, ac_ald 0, ac_dup, ac_gi [1] 4, ac_i (1), ac_bin (fun x y => x + y), ac_pi [1] 4, ac_ald 0, ac_dup, ac_gi [1] 3, ac_i (1), ac_bin (fun x y => x + y), ac_pi [1] 3, ac_ald 0, ac_cv n_X1_readQ 0 [1], ac_ald 0, ac_dup, ac_gi [1] 4, ac_i (1), ac_bin (fun x y => x - y), ac_pi [1] 4, ac_ald 0, ac_gr [1] 0, ac_i (20033), ac_cv n_X0_add 1 [0], ac_go 9] := rfl
theorem pb_X1_readQ_3 : P_X1_readQ 3 = [ac_ild 1, ac_i (40), ac_if2 (fun x y => decide (¬ x = y)) 8, ac_ald 0, ac_gi [1] 4, ac_i (5), ac_if2 (fun x y => decide (y ≤ x)) 8, ac_ald 0, ac_dup, ac_gi [1] 4, ac_i (1), ac_bin (fun x y => x + y), ac_pi [1] 4, ac_ald 0, ac_dup, ac_gi [1] 3, ac_i (1), ac_bin (fun x y => x + y), ac_pi [1] 3, ac_ald 0, ac_cv n_X1_readT 0 [1], ac_ald 0, ac_dup, ac_gi [1] 4, ac_i (1), ac_bin (fun x y => x - y), ac_pi [1] 4, ac_ald 0, ac_ald 0, ac_i (41), ac_cv n_X1_isNext 1 [1], ac_if0 (fun x => decide (¬ x = 0)) 4, ac_i (1), ac_go 5] := rfl
theorem pb_X1_readQ_4 : P_X1_readQ 4 = [ac_i (0), ac_go 5] := rfl
theorem pb_X1_readQ_5 : P_X1_readQ 5 = [ac_pz [1] 5, ac_ald 0, ac_dup, ac_gi [1] 3, ac_ald 0, ac_gi [1] 5, ac_if0 (fun x => decide (x = 0)) 6, ac_i (0), ac_go 7] := rfl
theorem pb_X1_readQ_6 : P_X1_readQ 6 = [ac_i (1), ac_go 7] := rfl
theorem pb_X1_readQ_7 : P_X1_readQ 7 = [ac_bin (fun x y => x + y), ac_pi [1] 3, ac_go 9] := rfl
theorem pb_X1_readQ_8 : P_X1_readQ 8 = [ac_ald 0, ac_i (1), ac_pz [1] 5, ac_go 9] := rfl
theorem pb_X1_readQ_9 : P_X1_readQ 9 = [ac_rv] := rfl
theorem en_X1_readNumber {fb : Bool} {d : Nat} {a0 : Nat} {h : pm_HP} : rs fb (d + 1) n_X1_readNumber [.ref a0] h = pm_ev (P_X1_readNumber) (rs fb d) (P_X1_readNumber 0) [some (.ref a0), none, none] [] h := rfl
theorem pb_X1_readNumber_0 : P_X1_readNumber 0 = [ac_i (0), ac_ist 1, ac_i (0), ac_ist 2, ac_go 1] := rfl
theorem pb_X1_readNumber_1 : P_X1_readNumber 1 = [ac_ild 2, ac_i (4), ac_if2 (fun x y => decide (y ≤ x)) 2, ac_ald 0, ac_cv n_X1_next 0 [1], ac_cs n_X1_isDigit 1, ac_if0 (fun x => decide (x = 0)) 2, ac_i (10), ac_ild 1, ac_bin (fun x y => x * y), ac_ald 0, ac_cv n_X1_next 0 [1], ac_bin (fun x y => x + y), ac_i (48), ac_bin (fun x y => x - y), ac_ist 1, ac_ald 0, ac_dup, ac_gi [1] 3, ac_i (1), ac_bin (fun x y => x + y), ac_pi [1] 3, ac_inc 2 (1), ac_go 1] := rfl
theorem pb_X1_readNumber_2 : P_X1_readNumber 2 = [ac_ald 0, ac_gr [1] 0, ac_ild 1, ac_cv n_X0_add 1 [0], ac_rv] := rfl
theorem en_X1_nameOf {fb : Bool} {d : Nat} {a0 : Nat} {x1 : Int32} {h : pm_HP} : rs fb (d + 1) n_X1_nameOf [.ref a0, .int x1] h = pm_ev (P_X1_nameOf) (rs fb d) (P_X1_nameOf 0) [some (.ref a0), some (.int x1)] [] h := rfl
theorem pb_X1_nameOf_0 : P_X1_nameOf 0 = [ac_ild 1, ac_i (0), ac_i (255), ac_cs n_X8_isIn 3, ac_if0 (fun x => decide (x = 0)) 1, ac_ald 0, ac_gs [1] 2, ac_ild 1, ac_un (fun x => (x.toUInt32 % 65536).toInt32), ac_ct n_J0_indexOf_0f7a4 1, ac_go 2] := rfl
theorem pb_X1_nameOf_1 : P_X1_nameOf 1 = [ac_i (-1), ac_go 2] := rfl
theorem pb_X1_nameOf_2 : P_X1_nameOf 2 = [ac_ri] := rfl
theorem en_X1_next {fb : Bool} {d : Nat} {a0 : Nat} {h : pm_HP} : rs fb (d + 1) n_X1_next [.ref a0] h = pm_ev (P_X1_next) (rs fb d) (P_X1_next 0) [some (.ref a0)] [] h := rfl
theorem pb_X1_next_0 : P_X1_next 0 = [ac_ald 0, ac_gi [1] 3, ac_ald 0, ac_gr [1] 1, ac_cv n_X6_used 0 [6, 3], ac_if2 (fun x y => decide (y ≤ x)) 1, ac_ald 0, ac_gr [1] 1, ac_i (0), ac_ald 0, ac_gi [1] 3, ac_cv n_X6_at 2 [6, 3], ac_go 2] := rfl
theorem pb_X1_next_1 : P_X1_next 1 = [ac_i (-1), ac_go 2] := rfl
theorem pb_X1_next_2 : P_X1_next 2 = [ac_ri] := rfl
theorem en_X1_isNext {fb : Bool} {d : Nat} {a0 : Nat} {x1 : Int32} {h : pm_HP} : rs fb (d + 1) n_X1_isNext [.ref a0, .int x1] h = pm_ev (P_X1_isNext) (rs fb d) (P_X1_isNext 0) [some (.ref a0), some (.int x1)] [] h := rfl
theorem pb_X1_isNext_0 : P_X1_isNext 0 = [ac_ald 0, ac_gi [1] 5, ac_if0 (fun x => decide (¬ x = 0)) 1, ac_ald 0, ac_cv n_X1_next 0 [1], ac_ild 1, ac_if2 (fun x y => decide (¬ x = y)) 1, ac_i (1), ac_go 2] := rfl
theorem pb_X1_isNext_1 : P_X1_isNext 1 = [ac_i (0), ac_go 2] := rfl
theorem pb_X1_isNext_2 : P_X1_isNext 2 = [ac_rz (fun v => v &&& 1)] := rfl
theorem en_X1_isDigit {fb : Bool} {d : Nat} {x0 : Int32} {h : pm_HP} : rs fb (d + 1) n_X1_isDigit [.int x0] h = pm_ev (P_X1_isDigit) (rs fb d) (P_X1_isDigit 0) [some (.int x0)] [] h := rfl
theorem pb_X1_isDigit_0 : P_X1_isDigit 0 = [ac_ild 0, ac_i (48), ac_i (57), ac_cs n_X8_isIn 3, ac_rz (fun v => v &&& 1)] := rfl
theorem en_X2_isMissing {fb : Bool} {d : Nat} {a0 : Nat} {h : pm_HP} : rs fb (d + 1) n_X2_isMissing [.ref a0] h = pm_ev (P_X2_isMissing) (rs fb d) (P_X2_isMissing 0) [some (.ref a0)] [] h := rfl
theorem pb_X2_isMissing_0 : P_X2_isMissing 0 = [ac_ald 0, ac_gi [2] 1, ac_if0 (fun x => decide (¬ x = 0)) 1, ac_i (1), ac_go 2] := rfl
theorem pb_X2_isMissing_1 : P_X2_isMissing 1 = [ac_i (0), ac_go 2] := rfl
theorem pb_X2_isMissing_2 : P_X2_isMissing 2 = [ac_rz (fun v => v &&& 1)] := rfl
theorem en_X2_lay {fb : Bool} {d : Nat} {a0 : Nat} {x1 : Int32} {x2 : Int32} {h : pm_HP} : rs fb (d + 1) n_X2_lay [.ref a0, .int x1, .int x2] h = pm_ev (P_X2_lay) (rs fb d) (P_X2_lay 0) [some (.ref a0), some (.int x1), some (.int x2), none] [] h := rfl
theorem pb_X2_lay_0 : P_X2_lay 0 = [ac_ald 0, ac_ild 1, ac_pi [2] 1, ac_ald 0, ac_ild 2, ac_i (24), ac_cs n_X8_held 2, ac_pi [2] 2, ac_i (0), ac_ist 3, ac_go 1] := rfl
theorem pb_X2_lay_1 : P_X2_lay 1 = [ac_ild 3, ac_i (24), ac_if2 (fun x y => decide (y ≤ x)) 2, ac_ald 0, ac_gr [2] 0, ac_ild 3, ac_i (0), ac_ias, ac_inc 3 (1), ac_go 1] := rfl
theorem pb_X2_lay_2 : P_X2_lay 2 = [ac_rv] := rfl
theorem en_X2_stand {fb : Bool} {d : Nat} {a0 : Nat} {x1 : Int32} {x2 : Int32} {h : pm_HP} : rs fb (d + 1) n_X2_stand [.ref a0, .int x1, .int x2] h = pm_ev (P_X2_stand) (rs fb d) (P_X2_stand 0) [some (.ref a0), some (.int x1), some (.int x2)] [] h := rfl
theorem pb_X2_stand_0 : P_X2_stand 0 = [ac_ild 1, ac_if0 (fun x => decide (x < 0)) 1, ac_ild 2, ac_if0 (fun x => decide (x < 0)) 1, ac_ild 1, ac_ald 0, ac_gi [2] 2, ac_if2 (fun x y => decide (y < x)) 1, ac_ild 2, ac_ald 0, ac_gi [2] 2, ac_ild 1, ac_bin (fun x y => x - y), ac_if2 (fun x y => decide (y < x)) 1, ac_i (1), ac_go 2] := rfl
theorem pb_X2_stand_1 : P_X2_stand 1 = [ac_i (0), ac_go 2] := rfl
theorem pb_X2_stand_2 : P_X2_stand 2 = [ac_rz (fun v => v &&& 1)] := rfl
theorem en_X2_number {fb : Bool} {d : Nat} {a0 : Nat} {x1 : Int32} {h : pm_HP} : rs fb (d + 1) n_X2_number [.ref a0, .int x1] h = pm_ev (P_X2_number) (rs fb d) (P_X2_number 0) [some (.ref a0), some (.int x1)] [] h := rfl
theorem pb_X2_number_0 : P_X2_number 0 = [ac_ild 1, ac_i (0), ac_ald 0, ac_gi [2] 2, ac_i (1), ac_bin (fun x y => x - y), ac_cs n_X8_isIn 3, ac_if0 (fun x => decide (x = 0)) 1, ac_ald 0, ac_gr [2] 0, ac_ild 1, ac_ia, ac_go 2] := rfl
theorem pb_X2_number_1 : P_X2_number 1 = [ac_i (0), ac_go 2] := rfl
theorem pb_X2_number_2 : P_X2_number 2 = [ac_ri] := rfl
theorem en_X2_write {fb : Bool} {d : Nat} {a0 : Nat} {x1 : Int32} {x2 : Int32} {h : pm_HP} : rs fb (d + 1) n_X2_write [.ref a0, .int x1, .int x2] h = pm_ev (P_X2_write) (rs fb d) (P_X2_write 0) [some (.ref a0), some (.int x1), some (.int x2)] [] h := rfl
theorem pb_X2_write_0 : P_X2_write 0 = [ac_ild 1, ac_i (0), ac_ald 0, ac_gi [2] 2, ac_i (1), ac_bin (fun x y => x - y), ac_cs n_X8_isIn 3, ac_if0 (fun x => decide (x = 0)) 1, ac_ald 0, ac_gr [2] 0, ac_ild 1, ac_ald 0, ac_ild 2, ac_cv n_X2_lowest 1 [2], ac_ias, ac_go 1] := rfl
theorem pb_X2_write_1 : P_X2_write 1 = [ac_rv] := rfl
theorem en_X2_lowest {fb : Bool} {d : Nat} {a0 : Nat} {x1 : Int32} {h : pm_HP} : rs fb (d + 1) n_X2_lowest [.ref a0, .int x1] h = pm_ev (P_X2_lowest) (rs fb d) (P_X2_lowest 0) [some (.ref a0), some (.int x1)] [] h := rfl
theorem pb_X2_lowest_0 : P_X2_lowest 0 = [ac_ald 0, ac_gi [2] 1, ac_sw [(8, 1), (16, 2)] 3] := rfl
theorem pb_X2_lowest_1 : P_X2_lowest 1 = [ac_ild 1, ac_un (fun x => x.toInt8.toInt32), ac_ri] := rfl
theorem pb_X2_lowest_2 : P_X2_lowest 2 = [ac_ild 1, ac_un (fun x => x.toInt16.toInt32), ac_ri] := rfl
theorem pb_X2_lowest_3 : P_X2_lowest 3 = [ac_ild 1, ac_ri] := rfl
theorem en_X2_step {fb : Bool} {d : Nat} {a0 : Nat} {x1 : Int32} {h : pm_HP} : rs fb (d + 1) n_X2_step [.ref a0, .int x1] h = pm_ev (P_X2_step) (rs fb d) (P_X2_step 0) [some (.ref a0), some (.int x1)] [] h := rfl
theorem pb_X2_step_0 : P_X2_step 0 = [ac_ald 0, ac_ild 1, ac_cv n_X2_number 1 [2], ac_ald 0, ac_ild 1, ac_i (1), ac_bin (fun x y => x - y), ac_cv n_X2_number 1 [2], ac_bin (fun x y => x - y), ac_ri] := rfl
theorem en_X2_isEven {fb : Bool} {d : Nat} {a0 : Nat} {x1 : Int32} {h : pm_HP} : rs fb (d + 1) n_X2_isEven [.ref a0, .int x1] h = pm_ev (P_X2_isEven) (rs fb d) (P_X2_isEven 0) [some (.ref a0), some (.int x1)] [] h := rfl
theorem pb_X2_isEven_0 : P_X2_isEven 0 = [ac_ild 1, ac_i (1), ac_if2 (fun x y => decide (x < y)) 1, ac_ald 0, ac_ild 1, ac_cv n_X2_step 1 [2], ac_ald 0, ac_ild 1, ac_i (1), ac_bin (fun x y => x - y), ac_cv n_X2_step 1 [2], ac_if2 (fun x y => decide (¬ x = y)) 1, ac_i (1), ac_go 2] := rfl
theorem pb_X2_isEven_1 : P_X2_isEven 1 = [ac_i (0), ac_go 2] := rfl
theorem pb_X2_isEven_2 : P_X2_isEven 2 = [ac_rz (fun v => v &&& 1)] := rfl
theorem en_X2_evenSteps {fb : Bool} {d : Nat} {a0 : Nat} {h : pm_HP} : rs fb (d + 1) n_X2_evenSteps [.ref a0] h = pm_ev (P_X2_evenSteps) (rs fb d) (P_X2_evenSteps 0) [some (.ref a0), none, none] [] h := rfl
theorem pb_X2_evenSteps_0 : P_X2_evenSteps 0 = [ac_i (0), ac_ist 1, ac_i (1), ac_ist 2, ac_go 1] := rfl
theorem pb_X2_evenSteps_1 : P_X2_evenSteps 1 = [ac_ild 2, ac_ald 0, ac_gi [2] 2, ac_if2 (fun x y => decide (y ≤ x)) 4, ac_ild 1, ac_ald 0, ac_ild 2, ac_cv n_X2_isEven 1 [2], ac_if0 (fun x => decide (x = 0)) 2, ac_i (1), ac_go 3] := rfl
theorem pb_X2_evenSteps_2 : P_X2_evenSteps 2 = [ac_i (0), ac_go 3] := rfl
theorem pb_X2_evenSteps_3 : P_X2_evenSteps 3 = [ac_bin (fun x y => x + y), ac_ist 1, ac_inc 2 (1), ac_go 1] := rfl
theorem pb_X2_evenSteps_4 : P_X2_evenSteps 4 = [ac_ild 1, ac_ri] := rfl
theorem en_X2_longestEvenRow {fb : Bool} {d : Nat} {a0 : Nat} {h : pm_HP} : rs fb (d + 1) n_X2_longestEvenRow [.ref a0] h = pm_ev (P_X2_longestEvenRow) (rs fb d) (P_X2_longestEvenRow 0) [some (.ref a0), none, none, none] [] h := rfl
theorem pb_X2_longestEvenRow_0 : P_X2_longestEvenRow 0 = [ac_i (0), ac_ist 1, ac_i (0), ac_ist 2, ac_i (1), ac_ist 3, ac_go 1] := rfl
theorem pb_X2_longestEvenRow_1 : P_X2_longestEvenRow 1 = [ac_ild 3, ac_ald 0, ac_gi [2] 2, ac_if2 (fun x y => decide (y ≤ x)) 4, ac_ald 0, ac_ild 3, ac_cv n_X2_isEven 1 [2], ac_if0 (fun x => decide (x = 0)) 2, ac_ild 2, ac_i (1), ac_bin (fun x y => x + y), ac_go 3] := rfl
theorem pb_X2_longestEvenRow_2 : P_X2_longestEvenRow 2 = [ac_i (0), ac_go 3] := rfl
theorem pb_X2_longestEvenRow_3 : P_X2_longestEvenRow 3 = [ac_ist 2, ac_ild 1, ac_ild 2, ac_m2 (fun x y => if x < y then y else x), ac_ist 1, ac_inc 3 (1), ac_go 1] := rfl
theorem pb_X2_longestEvenRow_4 : P_X2_longestEvenRow 4 = [ac_ild 1, ac_ri] := rfl
theorem en_X3_isOf {fb : Bool} {d : Nat} {a0 : Nat} {x1 : Int32} {x2 : Int32} {h : pm_HP} : rs fb (d + 1) n_X3_isOf [.ref a0, .int x1, .int x2] h = pm_ev (P_X3_isOf) (rs fb d) (P_X3_isOf 0) [some (.ref a0), some (.int x1), some (.int x2), none, none] [] h := rfl
theorem pb_X3_isOf_0 : P_X3_isOf 0 = [ac_ald 0, ac_i (0), ac_ild 1, ac_cv n_X6_at 2 [3], ac_ist 3, ac_i (0), ac_ist 4, ac_go 1] := rfl
theorem pb_X3_isOf_1 : P_X3_isOf 1 = [ac_ild 4, ac_i (7), ac_if2 (fun x y => decide (y ≤ x)) 2, ac_ild 3, ac_ild 2, ac_if2 (fun x y => decide (x = y)) 2, ac_ild 3, ac_cs n_X3_above 1, ac_ist 3, ac_inc 4 (1), ac_go 1] := rfl
theorem pb_X3_isOf_2 : P_X3_isOf 2 = [ac_ild 3, ac_ild 2, ac_if2 (fun x y => decide (¬ x = y)) 3, ac_i (1), ac_go 4] := rfl
theorem pb_X3_isOf_3 : P_X3_isOf 3 = [ac_i (0), ac_go 4] := rfl
theorem pb_X3_isOf_4 : P_X3_isOf 4 = [ac_rz (fun v => v &&& 1)] := rfl
theorem en_X3_leansAt {fb : Bool} {d : Nat} {a0 : Nat} {x1 : Int32} {x2 : Int32} {h : pm_HP} : rs fb (d + 1) n_X3_leansAt [.ref a0, .int x1, .int x2] h = pm_ev (P_X3_leansAt) (rs fb d) (P_X3_leansAt 0) [some (.ref a0), some (.int x1), some (.int x2), none] [] h := rfl
theorem pb_X3_leansAt_0 : P_X3_leansAt 0 = [ac_i (0), ac_ist 3, ac_ald 0, ac_i (0), ac_ild 1, ac_cv n_X6_at 2 [3], ac_sw [(1, 1), (4, 2)] 3] := rfl
theorem pb_X3_leansAt_1 : P_X3_leansAt 1 = [ac_ald 0, ac_ild 1, ac_ild 2, ac_cv n_X3_isFirst 2 [3], ac_ist 3, ac_go 3] := rfl
theorem pb_X3_leansAt_2 : P_X3_leansAt 2 = [ac_ald 0, ac_ild 1, ac_ild 2, ac_cv n_X3_spans 2 [3], ac_ist 3, ac_go 3] := rfl
theorem pb_X3_leansAt_3 : P_X3_leansAt 3 = [ac_ild 3, ac_if0 (fun x => decide (x = 0)) 4, ac_ald 0, ac_i (3), ac_ild 1, ac_cv n_X6_at 2 [3], ac_go 5] := rfl
theorem pb_X3_leansAt_4 : P_X3_leansAt 4 = [ac_i (0), ac_go 5] := rfl
theorem pb_X3_leansAt_5 : P_X3_leansAt 5 = [ac_ri] := rfl
theorem en_X3_pushesAt {fb : Bool} {d : Nat} {a0 : Nat} {x1 : Int32} {x2 : Int32} {x3 : Int32} {h : pm_HP} : rs fb (d + 1) n_X3_pushesAt [.ref a0, .int x1, .int x2, .int x3] h = pm_ev (P_X3_pushesAt) (rs fb d) (P_X3_pushesAt 0) [some (.ref a0), some (.int x1), some (.int x2), some (.int x3)] [] h := rfl
theorem pb_X3_pushesAt_0 : P_X3_pushesAt 0 = [ac_ild 3, ac_if0 (fun x => decide (x ≤ 0)) 1, ac_ald 0, ac_ild 1, ac_ild 2, ac_cv n_X3_spans 2 [3], ac_if0 (fun x => decide (¬ x = 0)) 2, ac_go 1] := rfl
theorem pb_X3_pushesAt_1 : P_X3_pushesAt 1 = [ac_i (0), ac_ri] := rfl
theorem pb_X3_pushesAt_2 : P_X3_pushesAt 2 = [ac_ald 0, ac_i (0), ac_ild 1, ac_cv n_X6_at 2 [3], ac_sw [(5, 3), (6, 4)] 5] := rfl
theorem pb_X3_pushesAt_3 : P_X3_pushesAt 3 = [ac_ald 0, ac_i (3), ac_ild 1, ac_cv n_X6_at 2 [3], ac_ri] := rfl
theorem pb_X3_pushesAt_4 : P_X3_pushesAt 4 = [ac_ald 0, ac_i (3), ac_ild 1, ac_cv n_X6_at 2 [3], ac_i (2), ac_dv (fun x y => x / y), ac_ri] := rfl
theorem pb_X3_pushesAt_5 : P_X3_pushesAt 5 = [ac_i (0), ac_ri] := rfl
theorem en_X3_shortensAt {fb : Bool} {d : Nat} {a0 : Nat} {x1 : Int32} {x2 : Int32} {x3 : Int32} {h : pm_HP} : rs fb (d + 1) n_X3_shortensAt [.ref a0, .int x1, .int x2, .int x3] h = pm_ev (P_X3_shortensAt) (rs fb d) (P_X3_shortensAt 0) [some (.ref a0), some (.int x1), some (.int x2), some (.int x3), none] [] h := rfl
theorem pb_X3_shortensAt_0 : P_X3_shortensAt 0 = [ac_ald 0, ac_ild 1, ac_ild 2, ac_cv n_X3_spans 2 [3], ac_if0 (fun x => decide (¬ x = 0)) 1, ac_i (0), ac_ri] := rfl
theorem pb_X3_shortensAt_1 : P_X3_shortensAt 1 = [ac_ald 0, ac_i (3), ac_ild 1, ac_cv n_X6_at 2 [3], ac_ist 4, ac_ald 0, ac_i (0), ac_ild 1, ac_cv n_X6_at 2 [3], ac_sw [(2, 2), (3, 3), (4, 7), (5, 7), (6, 6)] 7] := rfl
theorem pb_X3_shortensAt_2 : P_X3_shortensAt 2 = [ac_ild 4, ac_ild 3, ac_i (1), ac_bin (fun x y => x + y), ac_bin (fun x y => x * y), ac_ri] := rfl
theorem pb_X3_shortensAt_3 : P_X3_shortensAt 3 = [ac_ild 4, ac_ild 3, ac_i (1), ac_bin (fun x y => x + y), ac_bin (fun x y => x * y), ac_ald 0, ac_ild 1, ac_ild 2, ac_cv n_X3_isFirst 2 [3], ac_if0 (fun x => decide (x = 0)) 4, ac_i (66), ac_go 5] := rfl
theorem pb_X3_shortensAt_4 : P_X3_shortensAt 4 = [ac_i (0), ac_go 5] := rfl
theorem pb_X3_shortensAt_5 : P_X3_shortensAt 5 = [ac_bin (fun x y => x + y), ac_ri] := rfl
theorem pb_X3_shortensAt_6 : P_X3_shortensAt 6 = [ac_i (2), ac_ild 4, ac_bin (fun x y => x * y), ac_ri] := rfl
theorem pb_X3_shortensAt_7 : P_X3_shortensAt 7 = [ac_i (0), ac_ri] := rfl
theorem en_X3_isFirst {fb : Bool} {d : Nat} {a0 : Nat} {x1 : Int32} {x2 : Int32} {h : pm_HP} : rs fb (d + 1) n_X3_isFirst [.ref a0, .int x1, .int x2] h = pm_ev (P_X3_isFirst) (rs fb d) (P_X3_isFirst 0) [some (.ref a0), some (.int x1), some (.int x2)] [] h := rfl
theorem pb_X3_isFirst_0 : P_X3_isFirst 0 = [ac_ild 2, ac_ald 0, ac_i (1), ac_ild 1, ac_cv n_X6_at 2 [3], ac_if2 (fun x y => decide (¬ x = y)) 1, ac_i (1), ac_go 2] := rfl
theorem pb_X3_isFirst_1 : P_X3_isFirst 1 = [ac_i (0), ac_go 2] := rfl
theorem pb_X3_isFirst_2 : P_X3_isFirst 2 = [ac_rz (fun v => v &&& 1)] := rfl
theorem en_X3_spans {fb : Bool} {d : Nat} {a0 : Nat} {x1 : Int32} {x2 : Int32} {h : pm_HP} : rs fb (d + 1) n_X3_spans [.ref a0, .int x1, .int x2] h = pm_ev (P_X3_spans) (rs fb d) (P_X3_spans 0) [some (.ref a0), some (.int x1), some (.int x2)] [] h := rfl
theorem pb_X3_spans_0 : P_X3_spans 0 = [ac_ild 2, ac_ald 0, ac_i (1), ac_ild 1, ac_cv n_X6_at 2 [3], ac_ald 0, ac_i (2), ac_ild 1, ac_cv n_X6_at 2 [3], ac_cs n_X8_isIn 3, ac_rz (fun v => v &&& 1)] := rfl
theorem en_X3_above {fb : Bool} {d : Nat} {x0 : Int32} {h : pm_HP} : rs fb (d + 1) n_X3_above [.int x0] h = pm_ev (P_X3_above) (rs fb d) (P_X3_above 0) [some (.int x0)] [] h := rfl
theorem pb_X3_above_0 : P_X3_above 0 = [ac_ild 0, ac_i (0), ac_i (6), ac_cs n_X8_isIn 3, ac_if0 (fun x => decide (x = 0)) 1, ac_v (.ref 78), ac_ild 0, ac_is, ac_go 2] := rfl
theorem pb_X3_above_1 : P_X3_above 1 = [ac_i (-1), ac_go 2] := rfl
theorem pb_X3_above_2 : P_X3_above 2 = [ac_ri] := rfl
theorem en_X4_speak {fb : Bool} {d : Nat} {a0 : Nat} {x1 : Nat} {x2 : Int32} {x3 : Int32} {x4 : Int32} {h : pm_HP} : rs fb (d + 1) n_X4_speak [.ref a0, .ref x1, .int x2, .int x3, .int x4] h = pm_ev (P_X4_speak) (rs fb d) (P_X4_speak 0) [some (.ref a0), some (.ref x1), some (.int x2), some (.int x3), some (.int x4)] [] h := rfl
theorem pb_X4_speak_0 : P_X4_speak 0 = [ac_ald 0, ac_ald 1, ac_i (0), ac_ild 2, ac_cv n_X6_at 2 [3], ac_pi [4] 1, ac_ald 0, ac_ild 2, ac_pi [4] 2, ac_ald 0, ac_ald 1, ac_i (3), ac_ild 2, ac_cv n_X6_at 2 [3], ac_pi [4] 3, ac_ald 0, ac_i (0), ac_pz [4] 4, ac_ald 0, ac_gr [4] 0, ac_i (0), ac_cv n_X6_use 1 [6, 3], ac_ald 0, ac_ild 3, ac_ald 0, ac_gi [4] 1, ac_ild 4, ac_i (0), ac_cv n_X4_sound 4 [4], ac_ri] := rfl
theorem en_X4_isParted {fb : Bool} {d : Nat} {a0 : Nat} {h : pm_HP} : rs fb (d + 1) n_X4_isParted [.ref a0] h = pm_ev (P_X4_isParted) (rs fb d) (P_X4_isParted 0) [some (.ref a0)] [] h := rfl
theorem pb_X4_isParted_0 : P_X4_isParted 0 = [ac_ald 0, ac_gi [4] 4, ac_rz (fun v => v &&& 1)] := rfl
theorem en_X4_sound {fb : Bool} {d : Nat} {a0 : Nat} {x1 : Int32} {x2 : Int32} {x3 : Int32} {x4 : Int32} {h : pm_HP} : rs fb (d + 1) n_X4_sound [.ref a0, .int x1, .int x2, .int x3, .int x4] h = pm_ev (P_X4_sound) (rs fb d) (P_X4_sound 0) [some (.ref a0), some (.int x1), some (.int x2), some (.int x3), some (.int x4), none, none] [] h := rfl
theorem pb_X4_sound_0 : P_X4_sound 0 = [ac_ild 2, ac_ist 5, ac_i (0), ac_ist 6, ac_go 1] := rfl
theorem pb_X4_sound_1 : P_X4_sound 1 = [ac_ild 6, ac_i (7), ac_if2 (fun x y => decide (y ≤ x)) 2, ac_ild 5, ac_ild 1, ac_cs n_X4_bodyOf 2, ac_if0 (fun x => decide (¬ x = 0)) 2, ac_ild 5, ac_cs n_X3_above 1, ac_ist 5, ac_inc 6 (1), ac_go 1] := rfl
theorem pb_X4_sound_2 : P_X4_sound 2 = [ac_ald 0, ac_gi [4] 4, ac_if0 (fun x => decide (¬ x = 0)) 3, ac_ild 4, ac_i (40), ac_if2 (fun x y => decide (x < y)) 4, ac_go 3] := rfl
theorem pb_X4_sound_3 : P_X4_sound 3 = [ac_i (0), ac_ri] := rfl
theorem pb_X4_sound_4 : P_X4_sound 4 = [ac_ald 0, ac_gr [4] 0, ac_cv n_X6_isFull 0 [6, 3], ac_if0 (fun x => decide (¬ x = 0)) 5, ac_ald 0, ac_gr [4] 0, ac_ild 5, ac_ild 1, ac_cs n_X4_bodyOf 2, ac_cv n_X6_add 1 [6, 3], ac_pop, ac_go 5] := rfl
theorem pb_X4_sound_5 : P_X4_sound 5 = [ac_ald 0, ac_ild 5, ac_ild 1, ac_cs n_X4_bodyOf 2, ac_ild 5, ac_cs n_X3_above 1, ac_ild 3, ac_ild 4, ac_i (1), ac_bin (fun x y => x + y), ac_cv n_X4_workedOut 4 [4], ac_ri] := rfl
theorem en_X4_workedOut {fb : Bool} {d : Nat} {a0 : Nat} {x1 : Int32} {x2 : Int32} {x3 : Int32} {x4 : Int32} {h : pm_HP} : rs fb (d + 1) n_X4_workedOut [.ref a0, .int x1, .int x2, .int x3, .int x4] h = pm_ev (P_X4_workedOut) (rs fb d) (P_X4_workedOut 0) [some (.ref a0), some (.int x1), some (.int x2), some (.int x3), some (.int x4)] [] h := rfl
theorem pb_X4_workedOut_0 : P_X4_workedOut 0 = [ac_ild 1, ac_sw [(10, 1), (11, 2), (12, 3), (13, 4), (20, 5), (21, 6), (30, 7), (40, 8), (41, 9), (50, 10), (51, 11), (60, 12), (70, 13)] 14] := rfl
theorem pb_X4_workedOut_1 : P_X4_workedOut 1 = [ac_ild 3, ac_ald 0, ac_gi [4] 2, ac_bin (fun x y => x + y), ac_ri] := rfl
theorem pb_X4_workedOut_2 : P_X4_workedOut 2 = [ac_ald 0, ac_i (0), ac_ald 0, ac_gi [4] 1, ac_ild 3, ac_ild 4, ac_cv n_X4_sound 4 [4], ac_i (2), ac_bin (fun x y => x * y), ac_ri] := rfl
theorem pb_X4_workedOut_3 : P_X4_workedOut 3 = [ac_ald 0, ac_i (1), ac_ald 0, ac_gi [4] 1, ac_ild 3, ac_ild 4, ac_cv n_X4_sound 4 [4], ac_ald 0, ac_gi [4] 3, ac_bin (fun x y => x - y), ac_ri] := rfl
theorem pb_X4_workedOut_4 : P_X4_workedOut 4 = [ac_ald 0, ac_ild 3, ac_cv n_X4_mended 1 [4], ac_ri] := rfl
theorem pb_X4_workedOut_5 : P_X4_workedOut 5 = [ac_ald 0, ac_i (0), ac_ild 2, ac_ild 3, ac_ild 4, ac_cv n_X4_sound 4 [4], ac_i (4), ac_bin (fun x y => x - y), ac_ri] := rfl
theorem pb_X4_workedOut_6 : P_X4_workedOut 6 = [ac_ald 0, ac_i (3), ac_ild 2, ac_ild 3, ac_ild 4, ac_cv n_X4_sound 4 [4], ac_ald 0, ac_i (1), ac_ald 0, ac_gi [4] 1, ac_i (1), ac_ild 4, ac_cv n_X4_sound 4 [4], ac_bin (fun x y => x + y), ac_ri] := rfl
theorem pb_X4_workedOut_7 : P_X4_workedOut 7 = [ac_i (0), ac_ald 0, ac_i (1), ac_ild 2, ac_ild 3, ac_ild 4, ac_cv n_X4_sound 4 [4], ac_bin (fun x y => x - y), ac_ri] := rfl
theorem pb_X4_workedOut_8 : P_X4_workedOut 8 = [ac_ald 0, ac_i (2), ac_ild 2, ac_ild 3, ac_i (2), ac_dv (fun x y => x / y), ac_ild 4, ac_cv n_X4_sound 4 [4], ac_ri] := rfl
theorem pb_X4_workedOut_9 : P_X4_workedOut 9 = [ac_ald 0, ac_i (1), ac_ild 2, ac_ild 3, ac_ild 4, ac_cv n_X4_sound 4 [4], ac_ald 0, ac_gi [4] 2, ac_bin (fun x y => x + y), ac_ri] := rfl
theorem pb_X4_workedOut_10 : P_X4_workedOut 10 = [ac_ald 0, ac_i (0), ac_ild 2, ac_ild 3, ac_ild 4, ac_cv n_X4_sound 4 [4], ac_i (3), ac_bin (fun x y => x * y), ac_ri] := rfl
theorem pb_X4_workedOut_11 : P_X4_workedOut 11 = [ac_ald 0, ac_i (3), ac_ild 2, ac_ild 3, ac_ild 4, ac_cv n_X4_sound 4 [4], ac_ald 0, ac_i (2), ac_ald 0, ac_gi [4] 1, ac_i (0), ac_ild 4, ac_cv n_X4_sound 4 [4], ac_bin (fun x y => x - y), ac_ri] := rfl
theorem pb_X4_workedOut_12 : P_X4_workedOut 12 = [ac_ald 0, ac_i (2), ac_ild 2, ac_ild 3, ac_ild 4, ac_cv n_X4_sound 4 [4], ac_ald 0, ac_gi [4] 3, ac_bin (fun x y => x ^^^ y), ac_ri] := rfl
theorem pb_X4_workedOut_13 : P_X4_workedOut 13 = [ac_ald 0, ac_i (2), ac_ild 2, ac_ild 3, ac_i (1), ac_bin (fun x y => x + y), ac_ild 4, ac_cv n_X4_sound 4 [4], ac_ri] := rfl
theorem pb_X4_workedOut_14 : P_X4_workedOut 14 = [ac_i (6), ac_ri] := rfl
theorem en_X4_mended {fb : Bool} {d : Nat} {a0 : Nat} {x1 : Int32} {h : pm_HP} : rs fb (d + 1) n_X4_mended [.ref a0, .int x1] h = pm_ev (P_X4_mended) (rs fb d) (P_X4_mended 0) [some (.ref a0), some (.int x1), none] [] h := rfl
theorem pb_X4_mended_0 : P_X4_mended 0 = [ac_ald 0, ac_gi [4] 3, ac_ald 0, ac_gi [4] 2, ac_bin (fun x y => x - y), ac_ist 2, ac_ild 2, ac_if0 (fun x => decide (¬ x = 0)) 1, ac_ald 0, ac_i (1), ac_pz [4] 4, ac_i (0), ac_ri] := rfl
theorem pb_X4_mended_1 : P_X4_mended 1 = [ac_ild 1, ac_ild 2, ac_dv (fun x y => x / y), ac_ri] := rfl
theorem en_X4_bodyOf {fb : Bool} {d : Nat} {x0 : Int32} {x1 : Int32} {h : pm_HP} : rs fb (d + 1) n_X4_bodyOf [.int x0, .int x1] h = pm_ev (P_X4_bodyOf) (rs fb d) (P_X4_bodyOf 0) [some (.int x0), some (.int x1), none] [] h := rfl
theorem pb_X4_bodyOf_0 : P_X4_bodyOf 0 = [ac_ild 0, ac_i (0), ac_i (6), ac_cs n_X8_isIn 3, ac_if0 (fun x => decide (x = 0)) 1, ac_ild 1, ac_i (0), ac_i (3), ac_cs n_X8_isIn 3, ac_if0 (fun x => decide (x = 0)) 1, ac_i (1), ac_go 2] := rfl
theorem pb_X4_bodyOf_1 : P_X4_bodyOf 1 = [ac_i (0), ac_go 2] := rfl
theorem pb_X4_bodyOf_2 : P_X4_bodyOf 2 = [ac_ist 2, ac_ild 2, ac_if0 (fun x => decide (x = 0)) 3, ac_v (.ref 79), ac_ild 0, ac_i (4), ac_bin (fun x y => x * y), ac_ild 1, ac_bin (fun x y => x + y), ac_is, ac_go 4] := rfl
theorem pb_X4_bodyOf_3 : P_X4_bodyOf 3 = [ac_i (0), ac_go 4] := rfl
theorem pb_X4_bodyOf_4 : P_X4_bodyOf 4 = [ac_ri] := rfl
theorem en_X5_draw {fb : Bool} {d : Nat} {a0 : Nat} {h : pm_HP} : rs fb (d + 1) n_X5_draw [.ref a0] h = pm_ev (P_X5_draw) (rs fb d) (P_X5_draw 0) [some (.ref a0)] [] h := rfl
theorem pb_X5_draw_0 : P_X5_draw 0 = [ac_ald 0, ac_ald 0, ac_gi [5] 9, ac_i (1103515245), ac_bin (fun x y => x * y), ac_i (12345), ac_bin (fun x y => x + y), ac_pi [5] 9, ac_ald 0, ac_gi [5] 9, ac_i (8), ac_bin (fun x y => (x.toUInt32 >>> (y.toUInt32 &&& Int32.toUInt32 31)).toInt32), ac_ri] := rfl
theorem en_X5_take {fb : Bool} {d : Nat} {a0 : Nat} {x1 : Nat} {h : pm_HP} : rs fb (d + 1) n_X5_take [.ref a0, .ref x1] h = pm_ev (P_X5_take) (rs fb d) (P_X5_take 0) [some (.ref a0), some (.ref x1)] [] h := rfl
theorem pb_X5_take_0 : P_X5_take 0 = [ac_ald 0, ac_gr [5] 0, ac_ald 1, ac_gr [5] 0, ac_cv n_X6_take 1 [6, 3], ac_ald 0, ac_gr [5] 1, ac_ald 1, ac_gr [5] 1, ac_cv n_X6_take 1 [3], ac_ald 0, ac_gr [5] 2, ac_ald 1, ac_gr [5] 2, ac_cv n_X6_take 1 [6, 3], ac_ald 0, ac_gr [5] 3, ac_ald 1, ac_gr [5] 3, ac_cv n_X6_take 1 [6, 3], ac_ald 0, ac_gr [5] 4, ac_ald 1, ac_gr [5] 4, ac_cv n_X6_take 1 [6, 3], ac_ald 0, ac_gr [5] 5, ac_ald 1, ac_gr [5] 5, ac_cv n_X0_take 1 [0], ac_ald 0, ac_gr [5] 6, ac_ald 1, ac_gr [5] 6, ac_cv n_X0_take 1 [0], ac_ald 0, ac_ald 1, ac_gi [5] 7, ac_pi [5] 7, ac_ald 0, ac_ald 1, ac_gi [5] 8, ac_pi [5] 8, ac_ald 0, ac_ald 1, ac_gi [5] 9, ac_pi [5] 9, ac_rv] := rfl
theorem en_X6_used {fb : Bool} {d : Nat} {a0 : Nat} {h : pm_HP} : rs fb (d + 1) n_X6_used [.ref a0] h = pm_ev (P_X6_used) (rs fb d) (P_X6_used 0) [some (.ref a0)] [] h := rfl
theorem pb_X6_used_0 : P_X6_used 0 = [ac_ald 0, ac_gi [3, 6] 3, ac_ri] := rfl
theorem en_X6_use {fb : Bool} {d : Nat} {a0 : Nat} {x1 : Int32} {h : pm_HP} : rs fb (d + 1) n_X6_use [.ref a0, .int x1] h = pm_ev (P_X6_use) (rs fb d) (P_X6_use 0) [some (.ref a0), some (.int x1)] [] h := rfl
theorem pb_X6_use_0 : P_X6_use 0 = [ac_ald 0, ac_ild 1, ac_ald 0, ac_gc [3, 6] 1, ac_cs n_X8_held 2, ac_pi [3, 6] 3, ac_rv] := rfl
theorem en_X6_has {fb : Bool} {d : Nat} {a0 : Nat} {x1 : Int32} {h : pm_HP} : rs fb (d + 1) n_X6_has [.ref a0, .int x1] h = pm_ev (P_X6_has) (rs fb d) (P_X6_has 0) [some (.ref a0), some (.int x1)] [] h := rfl
theorem pb_X6_has_0 : P_X6_has 0 = [ac_ild 1, ac_i (0), ac_ald 0, ac_gi [3, 6] 3, ac_i (1), ac_bin (fun x y => x - y), ac_cs n_X8_isIn 3, ac_rz (fun v => v &&& 1)] := rfl
theorem en_X6_isFull {fb : Bool} {d : Nat} {a0 : Nat} {h : pm_HP} : rs fb (d + 1) n_X6_isFull [.ref a0] h = pm_ev (P_X6_isFull) (rs fb d) (P_X6_isFull 0) [some (.ref a0)] [] h := rfl
theorem pb_X6_isFull_0 : P_X6_isFull 0 = [ac_ald 0, ac_gi [3, 6] 3, ac_ald 0, ac_gc [3, 6] 1, ac_if2 (fun x y => decide (x < y)) 1, ac_i (1), ac_go 2] := rfl
theorem pb_X6_isFull_1 : P_X6_isFull 1 = [ac_i (0), ac_go 2] := rfl
theorem pb_X6_isFull_2 : P_X6_isFull 2 = [ac_rz (fun v => v &&& 1)] := rfl
theorem en_X6_add {fb : Bool} {d : Nat} {a0 : Nat} {x1 : Int32} {h : pm_HP} : rs fb (d + 1) n_X6_add [.ref a0, .int x1] h = pm_ev (P_X6_add) (rs fb d) (P_X6_add 0) [some (.ref a0), some (.int x1), none] [] h := rfl
theorem pb_X6_add_0 : P_X6_add 0 = [ac_ald 0, ac_gi [3, 6] 3, ac_ist 2, ac_ald 0, ac_ald 0, ac_gi [3, 6] 3, ac_i (1), ac_bin (fun x y => x + y), ac_cv n_X6_use 1 [6, 3], ac_ald 0, ac_i (0), ac_ild 2, ac_ild 1, ac_cv n_X6_set 3 [6, 3], ac_ild 2, ac_ri] := rfl
theorem en_X6_at {fb : Bool} {d : Nat} {a0 : Nat} {x1 : Int32} {x2 : Int32} {h : pm_HP} : rs fb (d + 1) n_X6_at [.ref a0, .int x1, .int x2] h = pm_ev (P_X6_at) (rs fb d) (P_X6_at 0) [some (.ref a0), some (.int x1), some (.int x2)] [] h := rfl
theorem pb_X6_at_0 : P_X6_at 0 = [ac_ald 0, ac_ild 1, ac_ild 2, ac_cv n_X6_holds 2 [6, 3], ac_if0 (fun x => decide (x = 0)) 1, ac_ald 0, ac_gr [3, 6] 2, ac_ild 1, ac_ald 0, ac_gc [3, 6] 1, ac_bin (fun x y => x * y), ac_ild 2, ac_bin (fun x y => x + y), ac_ia, ac_go 2] := rfl
theorem pb_X6_at_1 : P_X6_at 1 = [ac_i (0), ac_go 2] := rfl
theorem pb_X6_at_2 : P_X6_at 2 = [ac_ri] := rfl
theorem en_X6_set {fb : Bool} {d : Nat} {a0 : Nat} {x1 : Int32} {x2 : Int32} {x3 : Int32} {h : pm_HP} : rs fb (d + 1) n_X6_set [.ref a0, .int x1, .int x2, .int x3] h = pm_ev (P_X6_set) (rs fb d) (P_X6_set 0) [some (.ref a0), some (.int x1), some (.int x2), some (.int x3)] [] h := rfl
theorem pb_X6_set_0 : P_X6_set 0 = [ac_ald 0, ac_ild 1, ac_ild 2, ac_cv n_X6_holds 2 [6, 3], ac_if0 (fun x => decide (x = 0)) 1, ac_ald 0, ac_gr [3, 6] 2, ac_ild 1, ac_ald 0, ac_gc [3, 6] 1, ac_bin (fun x y => x * y), ac_ild 2, ac_bin (fun x y => x + y), ac_ild 3, ac_ias, ac_go 1] := rfl
theorem pb_X6_set_1 : P_X6_set 1 = [ac_rv] := rfl
theorem en_X6_howMany {fb : Bool} {d : Nat} {a0 : Nat} {x1 : Int32} {x2 : Int32} {h : pm_HP} : rs fb (d + 1) n_X6_howMany [.ref a0, .int x1, .int x2] h = pm_ev (P_X6_howMany) (rs fb d) (P_X6_howMany 0) [some (.ref a0), some (.int x1), some (.int x2), none, none] [] h := rfl
theorem pb_X6_howMany_0 : P_X6_howMany 0 = [ac_i (0), ac_ist 3, ac_i (0), ac_ist 4, ac_go 1] := rfl
theorem pb_X6_howMany_1 : P_X6_howMany 1 = [ac_ild 4, ac_ald 0, ac_gi [3, 6] 3, ac_if2 (fun x y => decide (y ≤ x)) 3, ac_ald 0, ac_ild 1, ac_ild 4, ac_cv n_X6_at 2 [6, 3], ac_ild 2, ac_if2 (fun x y => decide (¬ x = y)) 2, ac_inc 3 (1), ac_go 2] := rfl
theorem pb_X6_howMany_2 : P_X6_howMany 2 = [ac_inc 4 (1), ac_go 1] := rfl
theorem pb_X6_howMany_3 : P_X6_howMany 3 = [ac_ild 3, ac_ri] := rfl
theorem en_X6_take {fb : Bool} {d : Nat} {a0 : Nat} {x1 : Nat} {h : pm_HP} : rs fb (d + 1) n_X6_take [.ref a0, .ref x1] h = pm_ev (P_X6_take) (rs fb d) (P_X6_take 0) [some (.ref a0), some (.ref x1), none] [] h := rfl
theorem pb_X6_take_0 : P_X6_take 0 = [ac_ald 0, ac_gr [3, 6] 2, ac_ln, ac_ald 1, ac_gr [3, 6] 2, ac_ln, ac_m2 (fun x y => if y < x then y else x), ac_ist 2, ac_ald 1, ac_gr [3, 6] 2, ac_i (0), ac_ald 0, ac_gr [3, 6] 2, ac_i (0), ac_ild 2, ac_cp, ac_ald 0, ac_ald 1, ac_gi [3, 6] 3, ac_cv n_X6_use 1 [6, 3], ac_rv] := rfl
theorem en_X6_holds {fb : Bool} {d : Nat} {a0 : Nat} {x1 : Int32} {x2 : Int32} {h : pm_HP} : rs fb (d + 1) n_X6_holds [.ref a0, .int x1, .int x2] h = pm_ev (P_X6_holds) (rs fb d) (P_X6_holds 0) [some (.ref a0), some (.int x1), some (.int x2)] [] h := rfl
theorem pb_X6_holds_0 : P_X6_holds 0 = [ac_ild 1, ac_if0 (fun x => decide (x < 0)) 1, ac_ild 1, ac_ald 0, ac_gc [3, 6] 0, ac_if2 (fun x y => decide (y ≤ x)) 1, ac_ild 2, ac_if0 (fun x => decide (x < 0)) 1, ac_ild 2, ac_ald 0, ac_gc [3, 6] 1, ac_if2 (fun x y => decide (y ≤ x)) 1, ac_i (1), ac_go 2] := rfl
theorem pb_X6_holds_1 : P_X6_holds 1 = [ac_i (0), ac_go 2] := rfl
theorem pb_X6_holds_2 : P_X6_holds 2 = [ac_rz (fun v => v &&& 1)] := rfl
theorem en_X7_go {fb : Bool} {d : Nat} {a0 : Nat} {x1 : Nat} {x2 : Int32} {h : pm_HP} : rs fb (d + 1) n_X7_go [.ref a0, .ref x1, .int x2] h = pm_ev (P_X7_go) (rs fb d) (P_X7_go 0) [some (.ref a0), some (.ref x1), some (.int x2), none, none] [] h := rfl
theorem pb_X7_go_0 : P_X7_go 0 = [ac_ald 0, ac_ald 1, ac_gr [5] 0, ac_cv n_X6_used 0 [6, 3], ac_i (24), ac_cs n_X8_held 2, ac_pi [7] 7, ac_ald 0, ac_ald 1, ac_gi [5] 7, ac_pi [7] 8, ac_ald 0, ac_ald 1, ac_gi [5] 8, ac_pi [7] 9, ac_i (0), ac_ist 3, ac_i (0), ac_ist 4, ac_go 1] := rfl
theorem pb_X7_go_1 : P_X7_go 1 = [ac_ild 4, ac_ald 0, ac_gi [7] 7, ac_if2 (fun x y => decide (y ≤ x)) 3, ac_ald 0, ac_ald 1, ac_ild 4, ac_ild 2, ac_cv n_X7_addUpSlips 3 [7], ac_ald 0, ac_gr [7] 6, ac_ild 4, ac_ald 1, ac_gr [5] 0, ac_i (0), ac_ild 4, ac_cv n_X6_at 2 [6, 3], ac_ald 0, ac_gr [7] 4, ac_ild 4, ac_ia, ac_bin (fun x y => x + y), ac_ald 1, ac_gr [5] 0, ac_i (4), ac_ild 4, ac_cv n_X6_at 2 [6, 3], ac_bin (fun x y => x + y), ac_ias, ac_ald 1, ac_gr [5] 0, ac_i (3), ac_ild 4, ac_cv n_X6_at 2 [6, 3], ac_i (1), ac_if2 (fun x y => decide (¬ x = y)) 2, ac_i (0), ac_ist 3, ac_go 2] := rfl
theorem pb_X7_go_2 : P_X7_go 2 = [ac_ild 3, ac_ald 0, ac_gr [7] 3, ac_ild 4, ac_ia, ac_bin (fun x y => x + y), ac_ist 3, ac_ald 0, ac_gr [7] 2, ac_ild 4, ac_ild 3, ac_ias, ac_ald 0, ac_gr [7] 0, ac_ild 4, ac_i (1), ac_bin (fun x y => x + y), ac_ald 0, ac_gr [7] 0, ac_ild 4, ac_ia, ac_ild 3, ac_bin (fun x y => x + y), ac_ald 0, ac_gr [7] 6, ac_ild 4, ac_ia, ac_bin (fun x y => x + y), ac_ias, ac_ald 0, ac_gr [7] 1, ac_ild 4, ac_i (1), ac_bin (fun x y => x + y), ac_ald 0, ac_gr [7] 1, ac_ild 4, ac_ia, ac_i (1760), ac_bin (fun x y => x + y), ac_i (3), ac_ald 1, ac_gr [5] 0, ac_i (1), ac_ild 4, ac_cv n_X6_at 2 [6, 3], ac_bin (fun x y => x * y), ac_bin (fun x y => x - y), ac_ald 0, ac_gr [7] 5, ac_ild 4, ac_ia, ac_bin (fun x y => x - y), ac_ias, ac_inc 4 (1), ac_go 1] := rfl
theorem pb_X7_go_3 : P_X7_go 3 = [ac_rv] := rfl
theorem en_X7_addUpSlips {fb : Bool} {d : Nat} {a0 : Nat} {x1 : Nat} {x2 : Int32} {x3 : Int32} {h : pm_HP} : rs fb (d + 1) n_X7_addUpSlips [.ref a0, .ref x1, .int x2, .int x3] h = pm_ev (P_X7_addUpSlips) (rs fb d) (P_X7_addUpSlips 0) [some (.ref a0), some (.ref x1), some (.int x2), some (.int x3), none, none, none] [] h := rfl
theorem pb_X7_addUpSlips_0 : P_X7_addUpSlips 0 = [ac_ald 1, ac_gr [5] 0, ac_i (2), ac_ild 2, ac_cv n_X6_at 2 [6, 3], ac_ist 4, ac_ald 1, ac_gr [5] 0, ac_i (1), ac_ild 2, ac_cv n_X6_at 2 [6, 3], ac_ist 5, ac_ald 0, ac_gr [7] 3, ac_ild 2, ac_i (0), ac_ias, ac_ald 0, ac_gr [7] 4, ac_ild 2, ac_i (0), ac_ias, ac_ald 0, ac_gr [7] 5, ac_ild 2, ac_i (0), ac_ias, ac_i (0), ac_ist 6, ac_go 1] := rfl
theorem pb_X7_addUpSlips_1 : P_X7_addUpSlips 1 = [ac_ild 6, ac_ald 1, ac_gr [5] 1, ac_cv n_X6_used 0 [3], ac_if2 (fun x y => decide (y ≤ x)) 3, ac_ild 6, ac_ild 3, ac_if2 (fun x y => decide (x = y)) 2, ac_ald 1, ac_gr [5] 1, ac_i (4), ac_ild 6, ac_cv n_X6_at 2 [3], ac_i (1), ac_if2 (fun x y => decide (¬ x = y)) 2, ac_ald 0, ac_gr [7] 3, ac_ild 2, ac_dup2, ac_ia, ac_ald 1, ac_gr [5] 1, ac_ild 6, ac_ild 2, ac_cv n_X3_leansAt 2 [3], ac_bin (fun x y => x + y), ac_ias, ac_ald 0, ac_gr [7] 4, ac_ild 2, ac_dup2, ac_ia, ac_ald 1, ac_gr [5] 1, ac_ild 6, ac_ild 2, ac_ild 4, ac_cv n_X3_pushesAt 3 [3], ac_bin (fun x y => x + y), ac_ias, ac_ald 0, ac_gr [7] 5, ac_ild 2, ac_dup2, ac_ia, ac_ald 1, ac_gr [5] 1, ac_ild 6, ac_ild 2, ac_ild 5, ac_cv n_X3_shortensAt 3 [3], ac_bin (fun x y => x + y), ac_ias, ac_go 2] := rfl
theorem pb_X7_addUpSlips_2 : P_X7_addUpSlips 2 = [ac_inc 6 (1), ac_go 1] := rfl
theorem pb_X7_addUpSlips_3 : P_X7_addUpSlips 3 = [ac_rv] := rfl
theorem en_X7_sideOf {fb : Bool} {d : Nat} {a0 : Nat} {x1 : Int32} {h : pm_HP} : rs fb (d + 1) n_X7_sideOf [.ref a0, .int x1] h = pm_ev (P_X7_sideOf) (rs fb d) (P_X7_sideOf 0) [some (.ref a0), some (.int x1)] [] h := rfl
theorem pb_X7_sideOf_0 : P_X7_sideOf 0 = [ac_ild 1, ac_i (0), ac_ald 0, ac_gi [7] 7, ac_cs n_X8_isIn 3, ac_if0 (fun x => decide (x = 0)) 1, ac_ald 0, ac_gr [7] 0, ac_ild 1, ac_ia, ac_go 2] := rfl
theorem pb_X7_sideOf_1 : P_X7_sideOf 1 = [ac_i (0), ac_go 2] := rfl
theorem pb_X7_sideOf_2 : P_X7_sideOf 2 = [ac_ri] := rfl
theorem en_X7_alongOf {fb : Bool} {d : Nat} {a0 : Nat} {x1 : Int32} {h : pm_HP} : rs fb (d + 1) n_X7_alongOf [.ref a0, .int x1] h = pm_ev (P_X7_alongOf) (rs fb d) (P_X7_alongOf 0) [some (.ref a0), some (.int x1)] [] h := rfl
theorem pb_X7_alongOf_0 : P_X7_alongOf 0 = [ac_ild 1, ac_i (0), ac_ald 0, ac_gi [7] 7, ac_cs n_X8_isIn 3, ac_if0 (fun x => decide (x = 0)) 1, ac_ald 0, ac_gr [7] 1, ac_ild 1, ac_ia, ac_go 2] := rfl
theorem pb_X7_alongOf_1 : P_X7_alongOf 1 = [ac_i (0), ac_go 2] := rfl
theorem pb_X7_alongOf_2 : P_X7_alongOf 2 = [ac_ri] := rfl
theorem en_X7_headingIn {fb : Bool} {d : Nat} {a0 : Nat} {x1 : Int32} {h : pm_HP} : rs fb (d + 1) n_X7_headingIn [.ref a0, .int x1] h = pm_ev (P_X7_headingIn) (rs fb d) (P_X7_headingIn 0) [some (.ref a0), some (.int x1)] [] h := rfl
theorem pb_X7_headingIn_0 : P_X7_headingIn 0 = [ac_ild 1, ac_i (0), ac_ald 0, ac_gi [7] 7, ac_i (1), ac_bin (fun x y => x - y), ac_cs n_X8_isIn 3, ac_if0 (fun x => decide (x = 0)) 1, ac_ald 0, ac_gr [7] 2, ac_ild 1, ac_ia, ac_go 2] := rfl
theorem pb_X7_headingIn_1 : P_X7_headingIn 1 = [ac_i (0), ac_go 2] := rfl
theorem pb_X7_headingIn_2 : P_X7_headingIn 2 = [ac_ri] := rfl
theorem en_X7_pushesIn {fb : Bool} {d : Nat} {a0 : Nat} {x1 : Int32} {h : pm_HP} : rs fb (d + 1) n_X7_pushesIn [.ref a0, .int x1] h = pm_ev (P_X7_pushesIn) (rs fb d) (P_X7_pushesIn 0) [some (.ref a0), some (.int x1)] [] h := rfl
theorem pb_X7_pushesIn_0 : P_X7_pushesIn 0 = [ac_ild 1, ac_i (0), ac_ald 0, ac_gi [7] 7, ac_i (1), ac_bin (fun x y => x - y), ac_cs n_X8_isIn 3, ac_if0 (fun x => decide (x = 0)) 1, ac_ald 0, ac_gr [7] 4, ac_ild 1, ac_ia, ac_go 2] := rfl
theorem pb_X7_pushesIn_1 : P_X7_pushesIn 1 = [ac_i (0), ac_go 2] := rfl
theorem pb_X7_pushesIn_2 : P_X7_pushesIn 2 = [ac_ri] := rfl
theorem en_X7_shortensIn {fb : Bool} {d : Nat} {a0 : Nat} {x1 : Int32} {h : pm_HP} : rs fb (d + 1) n_X7_shortensIn [.ref a0, .int x1] h = pm_ev (P_X7_shortensIn) (rs fb d) (P_X7_shortensIn 0) [some (.ref a0), some (.int x1)] [] h := rfl
theorem pb_X7_shortensIn_0 : P_X7_shortensIn 0 = [ac_ild 1, ac_i (0), ac_ald 0, ac_gi [7] 7, ac_i (1), ac_bin (fun x y => x - y), ac_cs n_X8_isIn 3, ac_if0 (fun x => decide (x = 0)) 1, ac_ald 0, ac_gr [7] 5, ac_ild 1, ac_ia, ac_go 2] := rfl
theorem pb_X7_shortensIn_1 : P_X7_shortensIn 1 = [ac_i (0), ac_go 2] := rfl
theorem pb_X7_shortensIn_2 : P_X7_shortensIn 2 = [ac_ri] := rfl
theorem en_X7_missSide {fb : Bool} {d : Nat} {a0 : Nat} {h : pm_HP} : rs fb (d + 1) n_X7_missSide [.ref a0] h = pm_ev (P_X7_missSide) (rs fb d) (P_X7_missSide 0) [some (.ref a0)] [] h := rfl
theorem pb_X7_missSide_0 : P_X7_missSide 0 = [ac_ald 0, ac_gr [7] 0, ac_ald 0, ac_gi [7] 7, ac_ia, ac_ald 0, ac_gi [7] 8, ac_bin (fun x y => x - y), ac_ri] := rfl
theorem en_X7_missAlong {fb : Bool} {d : Nat} {a0 : Nat} {h : pm_HP} : rs fb (d + 1) n_X7_missAlong [.ref a0] h = pm_ev (P_X7_missAlong) (rs fb d) (P_X7_missAlong 0) [some (.ref a0)] [] h := rfl
theorem pb_X7_missAlong_0 : P_X7_missAlong 0 = [ac_ald 0, ac_gr [7] 1, ac_ald 0, ac_gi [7] 7, ac_ia, ac_ald 0, ac_gi [7] 9, ac_bin (fun x y => x - y), ac_ri] := rfl
theorem en_X7_wholeMiss {fb : Bool} {d : Nat} {a0 : Nat} {h : pm_HP} : rs fb (d + 1) n_X7_wholeMiss [.ref a0] h = pm_ev (P_X7_wholeMiss) (rs fb d) (P_X7_wholeMiss 0) [some (.ref a0)] [] h := rfl
theorem pb_X7_wholeMiss_0 : P_X7_wholeMiss 0 = [ac_ald 0, ac_cv n_X7_missSide 0 [7], ac_m1 (fun x => if 0 ≤ x then x else 0 - x), ac_ald 0, ac_cv n_X7_missAlong 0 [7], ac_m1 (fun x => if 0 ≤ x then x else 0 - x), ac_bin (fun x y => x + y), ac_ri] := rfl
theorem en_X7_distanceOf {fb : Bool} {d : Nat} {a0 : Nat} {x1 : Int32} {x2 : Int32} {x3 : Int32} {h : pm_HP} : rs fb (d + 1) n_X7_distanceOf [.ref a0, .int x1, .int x2, .int x3] h = pm_ev (P_X7_distanceOf) (rs fb d) (P_X7_distanceOf 0) [some (.ref a0), some (.int x1), some (.int x2), some (.int x3)] [] h := rfl
theorem pb_X7_distanceOf_0 : P_X7_distanceOf 0 = [ac_ald 0, ac_ild 1, ac_cv n_X7_sideOf 1 [7], ac_ild 2, ac_bin (fun x y => x - y), ac_m1 (fun x => if 0 ≤ x then x else 0 - x), ac_ald 0, ac_ild 1, ac_cv n_X7_alongOf 1 [7], ac_ild 3, ac_bin (fun x y => x - y), ac_m1 (fun x => if 0 ≤ x then x else 0 - x), ac_bin (fun x y => x + y), ac_ri] := rfl
theorem en_X7_offWithChecks {fb : Bool} {d : Nat} {a0 : Nat} {x1 : Int32} {h : pm_HP} : rs fb (d + 1) n_X7_offWithChecks [.ref a0, .int x1] h = pm_ev (P_X7_offWithChecks) (rs fb d) (P_X7_offWithChecks 0) [some (.ref a0), some (.int x1), none, none, none] [] h := rfl
theorem pb_X7_offWithChecks_0 : P_X7_offWithChecks 0 = [ac_i (0), ac_ist 2, ac_i (0), ac_ist 3, ac_i (0), ac_ist 4, ac_go 1] := rfl
theorem pb_X7_offWithChecks_1 : P_X7_offWithChecks 1 = [ac_ild 4, ac_ald 0, ac_gi [7] 7, ac_if2 (fun x y => decide (y ≤ x)) 3, ac_ild 1, ac_ild 4, ac_bin (fun x y => (x.toUInt32 >>> (y.toUInt32 &&& Int32.toUInt32 31)).toInt32), ac_i (1), ac_bin (fun x y => x &&& y), ac_i (1), ac_if2 (fun x y => decide (¬ x = y)) 2, ac_i (0), ac_ist 2, ac_go 2] := rfl
theorem pb_X7_offWithChecks_2 : P_X7_offWithChecks 2 = [ac_ild 2, ac_ald 0, ac_gr [7] 3, ac_ild 4, ac_ia, ac_bin (fun x y => x + y), ac_ist 2, ac_ild 3, ac_ild 2, ac_ald 0, ac_gr [7] 6, ac_ild 4, ac_ia, ac_bin (fun x y => x + y), ac_bin (fun x y => x + y), ac_ist 3, ac_inc 4 (1), ac_go 1] := rfl
theorem pb_X7_offWithChecks_3 : P_X7_offWithChecks 3 = [ac_ild 3, ac_ald 0, ac_gi [7] 8, ac_bin (fun x y => x - y), ac_m1 (fun x => if 0 ≤ x then x else 0 - x), ac_ri] := rfl
theorem en_X7_bestCheck {fb : Bool} {d : Nat} {a0 : Nat} {h : pm_HP} : rs fb (d + 1) n_X7_bestCheck [.ref a0] h = pm_ev (P_X7_bestCheck) (rs fb d) (P_X7_bestCheck 0) [some (.ref a0), none, none, none, none] [] h := rfl
theorem pb_X7_bestCheck_0 : P_X7_bestCheck 0 = [ac_i (1), ac_ist 1, ac_ald 0, ac_ild 1, ac_cv n_X7_offWithChecks 1 [7], ac_ist 2, ac_i (1), ac_ist 3, ac_go 1] := rfl
theorem pb_X7_bestCheck_1 : P_X7_bestCheck 1 = [ac_ild 3, ac_ald 0, ac_gi [7] 7, ac_if2 (fun x y => decide (y ≤ x)) 3, ac_ald 0, ac_i (1), ac_ild 3, ac_bin (fun x y => x <<< (y &&& 31)), ac_cv n_X7_offWithChecks 1 [7], ac_ist 4, ac_ild 4, ac_ild 2, ac_if2 (fun x y => decide (y ≤ x)) 2, ac_i (1), ac_ild 3, ac_bin (fun x y => x <<< (y &&& 31)), ac_ist 1, ac_ild 4, ac_ist 2, ac_go 2] := rfl
theorem pb_X7_bestCheck_2 : P_X7_bestCheck 2 = [ac_inc 3 (1), ac_go 1] := rfl
theorem pb_X7_bestCheck_3 : P_X7_bestCheck 3 = [ac_ild 1, ac_ri] := rfl
theorem en_X7_bestPairOfChecks {fb : Bool} {d : Nat} {a0 : Nat} {h : pm_HP} : rs fb (d + 1) n_X7_bestPairOfChecks [.ref a0] h = pm_ev (P_X7_bestPairOfChecks) (rs fb d) (P_X7_bestPairOfChecks 0) [some (.ref a0), none, none, none, none, none, none] [] h := rfl
theorem pb_X7_bestPairOfChecks_0 : P_X7_bestPairOfChecks 0 = [ac_i (3), ac_ist 1, ac_ald 0, ac_ild 1, ac_cv n_X7_offWithChecks 1 [7], ac_ist 2, ac_i (2), ac_ist 3, ac_go 1] := rfl
theorem pb_X7_bestPairOfChecks_1 : P_X7_bestPairOfChecks 1 = [ac_ild 3, ac_ald 0, ac_gi [7] 7, ac_if2 (fun x y => decide (y ≤ x)) 5, ac_i (0), ac_ist 4, ac_go 2] := rfl
theorem pb_X7_bestPairOfChecks_2 : P_X7_bestPairOfChecks 2 = [ac_ild 4, ac_ild 3, ac_if2 (fun x y => decide (y ≤ x)) 4, ac_i (1), ac_ild 3, ac_bin (fun x y => x <<< (y &&& 31)), ac_i (1), ac_ild 4, ac_bin (fun x y => x <<< (y &&& 31)), ac_bin (fun x y => x ||| y), ac_ist 5, ac_ald 0, ac_ild 5, ac_cv n_X7_offWithChecks 1 [7], ac_ist 6, ac_ild 6, ac_ild 2, ac_if2 (fun x y => decide (y ≤ x)) 3, ac_ild 5, ac_ist 1, ac_ild 6, ac_ist 2, ac_go 3] := rfl
theorem pb_X7_bestPairOfChecks_3 : P_X7_bestPairOfChecks 3 = [ac_inc 4 (1), ac_go 2] := rfl
theorem pb_X7_bestPairOfChecks_4 : P_X7_bestPairOfChecks 4 = [ac_inc 3 (1), ac_go 1] := rfl
theorem pb_X7_bestPairOfChecks_5 : P_X7_bestPairOfChecks 5 = [ac_ild 1, ac_ri] := rfl
theorem en_X7_sumOfSides {fb : Bool} {d : Nat} {a0 : Nat} {h : pm_HP} : rs fb (d + 1) n_X7_sumOfSides [.ref a0] h = pm_ev (P_X7_sumOfSides) (rs fb d) (P_X7_sumOfSides 0) [some (.ref a0), none, none, none] [] h := rfl
theorem pb_X7_sumOfSides_0 : P_X7_sumOfSides 0 = [ac_l (0), ac_lst 1, ac_i (1), ac_ist 3, ac_go 1] := rfl
theorem pb_X7_sumOfSides_1 : P_X7_sumOfSides 1 = [ac_ild 3, ac_ald 0, ac_gi [7] 7, ac_if2 (fun x y => decide (y < x)) 2, ac_lld 1, ac_ild 3, ac_i2l, ac_ald 0, ac_gr [7] 0, ac_ild 3, ac_ia, ac_i2l, ac_lbin (fun x y => x * y), ac_lbin (fun x y => x + y), ac_lst 1, ac_inc 3 (1), ac_go 1] := rfl
theorem pb_X7_sumOfSides_2 : P_X7_sumOfSides 2 = [ac_lld 1, ac_rl] := rfl
theorem en_X7_sumOfSquares {fb : Bool} {d : Nat} {a0 : Nat} {h : pm_HP} : rs fb (d + 1) n_X7_sumOfSquares [.ref a0] h = pm_ev (P_X7_sumOfSquares) (rs fb d) (P_X7_sumOfSquares 0) [some (.ref a0), none, none, none] [] h := rfl
theorem pb_X7_sumOfSquares_0 : P_X7_sumOfSquares 0 = [ac_l (0), ac_lst 1, ac_i (1), ac_ist 3, ac_go 1] := rfl
theorem pb_X7_sumOfSquares_1 : P_X7_sumOfSquares 1 = [ac_ild 3, ac_ald 0, ac_gi [7] 7, ac_if2 (fun x y => decide (y < x)) 2, ac_lld 1, ac_ild 3, ac_i2l, ac_ild 3, ac_i2l, ac_lbin (fun x y => x * y), ac_lbin (fun x y => x + y), ac_lst 1, ac_inc 3 (1), ac_go 1] := rfl
theorem pb_X7_sumOfSquares_2 : P_X7_sumOfSquares 2 = [ac_lld 1, ac_rl] := rfl
theorem en_X7_offStraight {fb : Bool} {d : Nat} {a0 : Nat} {x1 : Int32} {h : pm_HP} : rs fb (d + 1) n_X7_offStraight [.ref a0, .int x1] h = pm_ev (P_X7_offStraight) (rs fb d) (P_X7_offStraight 0) [some (.ref a0), some (.int x1)] [] h := rfl
theorem pb_X7_offStraight_0 : P_X7_offStraight 0 = [ac_ald 0, ac_ild 1, ac_cv n_X7_sideOf 1 [7], ac_i2l, ac_ald 0, ac_cv n_X7_sumOfSquares 0 [7], ac_lbin (fun x y => x * y), ac_ald 0, ac_cv n_X7_sumOfSides 0 [7], ac_ild 1, ac_i2l, ac_lbin (fun x y => x * y), ac_lbin (fun x y => x - y), ac_ml (fun x => if 0 < x then x else -x), ac_rl] := rfl
theorem en_X8_miles {fb : Bool} {d : Nat} {a0 : Nat} {x1 : Int32} {h : pm_HP} : rs fb (d + 1) n_X8_miles [.ref a0, .int x1] h = pm_ev (P_X8_miles) (rs fb d) (P_X8_miles 0) [some (.ref a0), some (.int x1), none] [] h := rfl
theorem pb_X8_miles_0 : P_X8_miles 0 = [ac_ild 1, ac_i (1), ac_i (24), ac_cs n_X8_isIn 3, ac_if0 (fun x => decide (¬ x = 0)) 1, ac_ald 0, ac_i (1), ac_cv n_X8_fail 1 [8], ac_ri] := rfl
theorem pb_X8_miles_1 : P_X8_miles 1 = [ac_ald 0, ac_gr [8] 0, ac_gr [5] 0, ac_cv n_X6_used 0 [6, 3], ac_ist 2, ac_ald 0, ac_gr [8] 0, ac_gr [5] 0, ac_ild 1, ac_cv n_X6_use 1 [6, 3], ac_ild 2, ac_ri] := rfl
theorem en_X8_mile {fb : Bool} {d : Nat} {a0 : Nat} {x1 : Int32} {x2 : Int32} {x3 : Int32} {h : pm_HP} : rs fb (d + 1) n_X8_mile [.ref a0, .int x1, .int x2, .int x3] h = pm_ev (P_X8_mile) (rs fb d) (P_X8_mile 0) [some (.ref a0), some (.int x1), some (.int x2), some (.int x3), none] [] h := rfl
theorem pb_X8_mile_0 : P_X8_mile 0 = [ac_ild 1, ac_i (0), ac_i (23), ac_cs n_X8_isIn 3, ac_if0 (fun x => decide (x = 0)) 1, ac_ild 2, ac_i (0), ac_i (3), ac_cs n_X8_isIn 3, ac_if0 (fun x => decide (x = 0)) 1, ac_ild 3, ac_v (.ref 76), ac_ild 2, ac_is, ac_v (.ref 77), ac_ild 2, ac_is, ac_cs n_X8_isIn 3, ac_if0 (fun x => decide (¬ x = 0)) 2, ac_go 1] := rfl
theorem pb_X8_mile_1 : P_X8_mile 1 = [ac_ald 0, ac_i (1), ac_cv n_X8_fail 1 [8], ac_ri] := rfl
theorem pb_X8_mile_2 : P_X8_mile 2 = [ac_ald 0, ac_gr [8] 0, ac_gr [5] 0, ac_ild 2, ac_ild 1, ac_cv n_X6_at 2 [6, 3], ac_ist 4, ac_ald 0, ac_gr [8] 0, ac_gr [5] 0, ac_ild 2, ac_ild 1, ac_ild 3, ac_cv n_X6_set 3 [6, 3], ac_ild 4, ac_ri] := rfl
theorem en_X8_mileIs {fb : Bool} {d : Nat} {a0 : Nat} {x1 : Int32} {x2 : Int32} {h : pm_HP} : rs fb (d + 1) n_X8_mileIs [.ref a0, .int x1, .int x2] h = pm_ev (P_X8_mileIs) (rs fb d) (P_X8_mileIs 0) [some (.ref a0), some (.int x1), some (.int x2)] [] h := rfl
theorem pb_X8_mileIs_0 : P_X8_mileIs 0 = [ac_ald 0, ac_gr [8] 0, ac_gr [5] 0, ac_ild 1, ac_cv n_X6_has 1 [6, 3], ac_if0 (fun x => decide (x = 0)) 1, ac_ild 2, ac_i (0), ac_i (8), ac_cs n_X8_isIn 3, ac_if0 (fun x => decide (¬ x = 0)) 2, ac_go 1] := rfl
theorem pb_X8_mileIs_1 : P_X8_mileIs 1 = [ac_ald 0, ac_i (1), ac_cv n_X8_fail 1 [8], ac_ri] := rfl
theorem pb_X8_mileIs_2 : P_X8_mileIs 2 = [ac_ild 2, ac_i (4), ac_if2 (fun x y => decide (y < x)) 3, ac_ald 0, ac_gr [8] 0, ac_gr [5] 0, ac_ild 2, ac_ild 1, ac_cv n_X6_at 2 [6, 3], ac_ri] := rfl
theorem pb_X8_mileIs_3 : P_X8_mileIs 3 = [ac_ald 0, ac_gr [8] 2, ac_ald 0, ac_gr [8] 0, ac_i (-1), ac_cv n_X7_go 2 [7], ac_ild 2, ac_sw [(5, 4), (6, 5), (7, 6)] 7] := rfl
theorem pb_X8_mileIs_4 : P_X8_mileIs 4 = [ac_ald 0, ac_ild 1, ac_cv n_X8_hoursOf 1 [8], ac_ri] := rfl
theorem pb_X8_mileIs_5 : P_X8_mileIs 5 = [ac_ald 0, ac_gr [8] 2, ac_ild 1, ac_cv n_X7_headingIn 1 [7], ac_ri] := rfl
theorem pb_X8_mileIs_6 : P_X8_mileIs 6 = [ac_ald 0, ac_gr [8] 2, ac_ild 1, ac_cv n_X7_pushesIn 1 [7], ac_ri] := rfl
theorem pb_X8_mileIs_7 : P_X8_mileIs 7 = [ac_ald 0, ac_gr [8] 2, ac_ild 1, ac_cv n_X7_shortensIn 1 [7], ac_ri] := rfl
theorem en_X8_stone {fb : Bool} {d : Nat} {a0 : Nat} {x1 : Int32} {x2 : Int32} {h : pm_HP} : rs fb (d + 1) n_X8_stone [.ref a0, .int x1, .int x2] h = pm_ev (P_X8_stone) (rs fb d) (P_X8_stone 0) [some (.ref a0), some (.int x1), some (.int x2)] [] h := rfl
theorem pb_X8_stone_0 : P_X8_stone 0 = [ac_ild 1, ac_i (-9999), ac_i (9999), ac_cs n_X8_isIn 3, ac_if0 (fun x => decide (x = 0)) 1, ac_ild 2, ac_i (0), ac_i (99999), ac_cs n_X8_isIn 3, ac_if0 (fun x => decide (¬ x = 0)) 2, ac_go 1] := rfl
theorem pb_X8_stone_1 : P_X8_stone 1 = [ac_ald 0, ac_i (1), ac_cv n_X8_fail 1 [8], ac_ri] := rfl
theorem pb_X8_stone_2 : P_X8_stone 2 = [ac_ald 0, ac_gr [8] 0, ac_ild 1, ac_pi [5] 7, ac_ald 0, ac_gr [8] 0, ac_ild 2, ac_pi [5] 8, ac_i (1), ac_ri] := rfl
theorem en_X8_slip {fb : Bool} {d : Nat} {a0 : Nat} {x1 : Int32} {x2 : Int32} {x3 : Int32} {h : pm_HP} : rs fb (d + 1) n_X8_slip [.ref a0, .int x1, .int x2, .int x3] h = pm_ev (P_X8_slip) (rs fb d) (P_X8_slip 0) [some (.ref a0), some (.int x1), some (.int x2), some (.int x3), none, none, none] [] h := rfl
theorem pb_X8_slip_0 : P_X8_slip 0 = [ac_ild 2, ac_i (100), ac_dv (fun x y => x / y), ac_ist 4, ac_ild 2, ac_i (100), ac_dv (fun x y => x - x / y * y), ac_ist 5, ac_ild 1, ac_i (0), ac_i (6), ac_cs n_X8_isIn 3, ac_if0 (fun x => decide (x = 0)) 1, ac_ild 3, ac_i (-99), ac_i (99), ac_cs n_X8_isIn 3, ac_if0 (fun x => decide (x = 0)) 1, ac_ild 4, ac_i (0), ac_i (23), ac_cs n_X8_isIn 3, ac_if0 (fun x => decide (x = 0)) 1, ac_ild 5, ac_ild 4, ac_i (23), ac_cs n_X8_isIn 3, ac_if0 (fun x => decide (¬ x = 0)) 2, ac_go 1] := rfl
theorem pb_X8_slip_1 : P_X8_slip 1 = [ac_ald 0, ac_i (1), ac_cv n_X8_fail 1 [8], ac_ri] := rfl
theorem pb_X8_slip_2 : P_X8_slip 2 = [ac_ald 0, ac_gr [8] 0, ac_gr [5] 1, ac_cv n_X6_isFull 0 [3], ac_if0 (fun x => decide (x = 0)) 3, ac_ald 0, ac_i (4), ac_cv n_X8_fail 1 [8], ac_ri] := rfl
theorem pb_X8_slip_3 : P_X8_slip 3 = [ac_ald 0, ac_gr [8] 0, ac_gr [5] 1, ac_ild 1, ac_cv n_X6_add 1 [3], ac_ist 6, ac_ald 0, ac_gr [8] 0, ac_gr [5] 1, ac_i (1), ac_ild 6, ac_ild 4, ac_cv n_X6_set 3 [3], ac_ald 0, ac_gr [8] 0, ac_gr [5] 1, ac_i (2), ac_ild 6, ac_ild 5, ac_cv n_X6_set 3 [3], ac_ald 0, ac_gr [8] 0, ac_gr [5] 1, ac_i (3), ac_ild 6, ac_ild 3, ac_cv n_X6_set 3 [3], ac_ald 0, ac_gr [8] 0, ac_gr [5] 1, ac_i (4), ac_ild 6, ac_i (1), ac_cv n_X6_set 3 [3], ac_ild 6, ac_ri] := rfl
theorem en_X8_slipIs {fb : Bool} {d : Nat} {a0 : Nat} {x1 : Int32} {x2 : Int32} {h : pm_HP} : rs fb (d + 1) n_X8_slipIs [.ref a0, .int x1, .int x2] h = pm_ev (P_X8_slipIs) (rs fb d) (P_X8_slipIs 0) [some (.ref a0), some (.int x1), some (.int x2)] [] h := rfl
theorem pb_X8_slipIs_0 : P_X8_slipIs 0 = [ac_ald 0, ac_gr [8] 0, ac_gr [5] 1, ac_ild 1, ac_cv n_X6_has 1 [3], ac_if0 (fun x => decide (x = 0)) 1, ac_ild 2, ac_i (0), ac_i (4), ac_cs n_X8_isIn 3, ac_if0 (fun x => decide (¬ x = 0)) 2, ac_go 1] := rfl
theorem pb_X8_slipIs_1 : P_X8_slipIs 1 = [ac_ald 0, ac_i (1), ac_cv n_X8_fail 1 [8], ac_ri] := rfl
theorem pb_X8_slipIs_2 : P_X8_slipIs 2 = [ac_ald 0, ac_gr [8] 0, ac_gr [5] 1, ac_ild 2, ac_ild 1, ac_cv n_X6_at 2 [3], ac_ri] := rfl
theorem en_X8_as {fb : Bool} {d : Nat} {a0 : Nat} {x1 : Int32} {x2 : Int32} {h : pm_HP} : rs fb (d + 1) n_X8_as [.ref a0, .int x1, .int x2] h = pm_ev (P_X8_as) (rs fb d) (P_X8_as 0) [some (.ref a0), some (.int x1), some (.int x2)] [] h := rfl
theorem pb_X8_as_0 : P_X8_as 0 = [ac_ald 0, ac_gr [8] 0, ac_gr [5] 1, ac_ild 1, ac_cv n_X6_has 1 [3], ac_if0 (fun x => decide (x = 0)) 1, ac_ild 2, ac_i (0), ac_i (6), ac_cs n_X8_isIn 3, ac_if0 (fun x => decide (¬ x = 0)) 2, ac_go 1] := rfl
theorem pb_X8_as_1 : P_X8_as 1 = [ac_ald 0, ac_i (1), ac_cv n_X8_fail 1 [8], ac_ri] := rfl
theorem pb_X8_as_2 : P_X8_as 2 = [ac_ald 0, ac_gr [8] 0, ac_gr [5] 1, ac_ild 1, ac_ild 2, ac_cv n_X3_isOf 2 [3], ac_if0 (fun x => decide (x = 0)) 3, ac_ald 0, ac_gr [8] 0, ac_gr [5] 1, ac_i (3), ac_ild 1, ac_cv n_X6_at 2 [3], ac_go 4] := rfl
theorem pb_X8_as_3 : P_X8_as 3 = [ac_ald 0, ac_i (5), ac_cv n_X8_fail 1 [8], ac_go 4] := rfl
theorem pb_X8_as_4 : P_X8_as 4 = [ac_ri] := rfl
theorem en_X8_turn {fb : Bool} {d : Nat} {a0 : Nat} {x1 : Int32} {x2 : Int32} {h : pm_HP} : rs fb (d + 1) n_X8_turn [.ref a0, .int x1, .int x2] h = pm_ev (P_X8_turn) (rs fb d) (P_X8_turn 0) [some (.ref a0), some (.int x1), some (.int x2), none] [] h := rfl
theorem pb_X8_turn_0 : P_X8_turn 0 = [ac_ald 0, ac_gr [8] 0, ac_gr [5] 1, ac_ild 1, ac_cv n_X6_has 1 [3], ac_if0 (fun x => decide (x = 0)) 1, ac_ild 2, ac_i (0), ac_i (1), ac_cs n_X8_isIn 3, ac_if0 (fun x => decide (¬ x = 0)) 2, ac_go 1] := rfl
theorem pb_X8_turn_1 : P_X8_turn 1 = [ac_ald 0, ac_i (1), ac_cv n_X8_fail 1 [8], ac_ri] := rfl
theorem pb_X8_turn_2 : P_X8_turn 2 = [ac_ald 0, ac_gr [8] 0, ac_gr [5] 1, ac_i (4), ac_ild 1, ac_cv n_X6_at 2 [3], ac_ist 3, ac_ald 0, ac_gr [8] 0, ac_gr [5] 1, ac_i (4), ac_ild 1, ac_ild 2, ac_cv n_X6_set 3 [3], ac_ild 3, ac_ri] := rfl
theorem en_X8_does {fb : Bool} {d : Nat} {a0 : Nat} {x1 : Int32} {x2 : Int32} {x3 : Int32} {h : pm_HP} : rs fb (d + 1) n_X8_does [.ref a0, .int x1, .int x2, .int x3] h = pm_ev (P_X8_does) (rs fb d) (P_X8_does 0) [some (.ref a0), some (.int x1), some (.int x2), some (.int x3)] [] h := rfl
theorem pb_X8_does_0 : P_X8_does 0 = [ac_ald 0, ac_gr [8] 0, ac_gr [5] 1, ac_ild 1, ac_cv n_X6_has 1 [3], ac_if0 (fun x => decide (x = 0)) 1, ac_ild 2, ac_i (0), ac_i (23), ac_cs n_X8_isIn 3, ac_if0 (fun x => decide (x = 0)) 1, ac_ild 3, ac_i (0), ac_i (2), ac_cs n_X8_isIn 3, ac_if0 (fun x => decide (¬ x = 0)) 2, ac_go 1] := rfl
theorem pb_X8_does_1 : P_X8_does 1 = [ac_ald 0, ac_i (1), ac_cv n_X8_fail 1 [8], ac_ri] := rfl
theorem pb_X8_does_2 : P_X8_does 2 = [ac_ild 3, ac_sw [(0, 3), (1, 4)] 5] := rfl
theorem pb_X8_does_3 : P_X8_does 3 = [ac_ald 0, ac_gr [8] 0, ac_gr [5] 1, ac_ild 1, ac_ild 2, ac_cv n_X3_leansAt 2 [3], ac_ri] := rfl
theorem pb_X8_does_4 : P_X8_does 4 = [ac_ald 0, ac_gr [8] 0, ac_gr [5] 1, ac_ild 1, ac_ild 2, ac_ald 0, ac_gr [8] 0, ac_gr [5] 0, ac_i (2), ac_ild 2, ac_cv n_X6_at 2 [6, 3], ac_cv n_X3_pushesAt 3 [3], ac_ri] := rfl
theorem pb_X8_does_5 : P_X8_does 5 = [ac_ald 0, ac_gr [8] 0, ac_gr [5] 1, ac_ild 1, ac_ild 2, ac_ald 0, ac_gr [8] 0, ac_gr [5] 0, ac_i (1), ac_ild 2, ac_cv n_X6_at 2 [6, 3], ac_cv n_X3_shortensAt 3 [3], ac_ri] := rfl
theorem en_X8_feed {fb : Bool} {d : Nat} {a0 : Nat} {x1 : Int64} {x2 : Int32} {h : pm_HP} : rs fb (d + 1) n_X8_feed [.ref a0, .long x1, .int x2] h = pm_ev (P_X8_feed) (rs fb d) (P_X8_feed 0) [some (.ref a0), some (.long x1), none, some (.int x2), none] [] h := rfl
theorem pb_X8_feed_0 : P_X8_feed 0 = [ac_ild 3, ac_i (1), ac_i (8), ac_cs n_X8_isIn 3, ac_if0 (fun x => decide (¬ x = 0)) 1, ac_ald 0, ac_i (1), ac_cv n_X8_fail 1 [8], ac_ri] := rfl
theorem pb_X8_feed_1 : P_X8_feed 1 = [ac_ald 0, ac_gr [8] 0, ac_gr [5] 3, ac_cv n_X6_used 0 [6, 3], ac_ild 3, ac_bin (fun x y => x + y), ac_i (60), ac_if2 (fun x y => decide (x ≤ y)) 2, ac_ald 0, ac_i (4), ac_cv n_X8_fail 1 [8], ac_ri] := rfl
theorem pb_X8_feed_2 : P_X8_feed 2 = [ac_i (0), ac_ist 4, ac_go 3] := rfl
theorem pb_X8_feed_3 : P_X8_feed 3 = [ac_ild 4, ac_ild 3, ac_if2 (fun x y => decide (y ≤ x)) 4, ac_ald 0, ac_gr [8] 0, ac_gr [5] 3, ac_lld 1, ac_i (8), ac_ild 4, ac_bin (fun x y => x * y), ac_lsh (fun x y => (x.toUInt64 >>> (y.toInt64.toUInt64 &&& Int64.toUInt64 63)).toInt64), ac_l2i, ac_i (255), ac_bin (fun x y => x &&& y), ac_cv n_X6_add 1 [6, 3], ac_pop, ac_inc 4 (1), ac_go 3] := rfl
theorem pb_X8_feed_4 : P_X8_feed 4 = [ac_ald 0, ac_gr [8] 0, ac_gr [5] 3, ac_cv n_X6_used 0 [6, 3], ac_ri] := rfl
theorem en_X8_text {fb : Bool} {d : Nat} {a0 : Nat} {x1 : Int32} {h : pm_HP} : rs fb (d + 1) n_X8_text [.ref a0, .int x1] h = pm_ev (P_X8_text) (rs fb d) (P_X8_text 0) [some (.ref a0), some (.int x1), none] [] h := rfl
theorem pb_X8_text_0 : P_X8_text 0 = [ac_ild 1, ac_i (0), ac_i (1), ac_cs n_X8_isIn 3, ac_if0 (fun x => decide (¬ x = 0)) 1, ac_ald 0, ac_i (1), ac_cv n_X8_fail 1 [8], ac_ri] := rfl
theorem pb_X8_text_1 : P_X8_text 1 = [ac_ald 0, ac_gr [8] 3, ac_ald 0, ac_gr [8] 0, ac_gr [5] 3, ac_ild 1, ac_if0 (fun x => decide (¬ x = 0)) 2, ac_v (.ref 80), ac_go 3] := rfl
theorem pb_X8_text_2 : P_X8_text 2 = [ac_v (.ref 81), ac_go 3] := rfl
theorem pb_X8_text_3 : P_X8_text 3 = [ac_cv n_X1_faultOf 2 [1], ac_ist 2, ac_ald 0, ac_gr [8] 0, ac_gr [5] 3, ac_i (0), ac_cv n_X6_use 1 [6, 3], ac_ild 2, ac_if0 (fun x => decide (x < 0)) 4, ac_i (-10), ac_ild 2, ac_bin (fun x y => x - y), ac_ri] := rfl
theorem pb_X8_text_4 : P_X8_text 4 = [ac_ald 0, ac_ild 1, ac_cv n_X8_lawOf 1 [8], ac_ald 0, ac_gr [8] 3, ac_gr [1] 0, ac_cv n_X0_take 1 [0], ac_i (1), ac_ri] := rfl
theorem en_X8_untell {fb : Bool} {d : Nat} {a0 : Nat} {x1 : Int32} {h : pm_HP} : rs fb (d + 1) n_X8_untell [.ref a0, .int x1] h = pm_ev (P_X8_untell) (rs fb d) (P_X8_untell 0) [some (.ref a0), some (.int x1), none] [] h := rfl
theorem pb_X8_untell_0 : P_X8_untell 0 = [ac_ild 1, ac_i (0), ac_i (1), ac_cs n_X8_isIn 3, ac_if0 (fun x => decide (¬ x = 0)) 1, ac_ald 0, ac_i (1), ac_cv n_X8_fail 1 [8], ac_ri] := rfl
theorem pb_X8_untell_1 : P_X8_untell 1 = [ac_ald 0, ac_ild 1, ac_cv n_X8_lawOf 1 [8], ac_cv n_X0_isTold 0 [0], ac_if0 (fun x => decide (x = 0)) 2, ac_i (1), ac_go 3] := rfl
theorem pb_X8_untell_2 : P_X8_untell 2 = [ac_i (0), ac_go 3] := rfl
theorem pb_X8_untell_3 : P_X8_untell 3 = [ac_ist 2, ac_ald 0, ac_ild 1, ac_cv n_X8_lawOf 1 [8], ac_cv n_X0_clear 0 [0], ac_ild 2, ac_ri] := rfl
theorem en_X8_post {fb : Bool} {d : Nat} {a0 : Nat} {x1 : Int32} {x2 : Int32} {h : pm_HP} : rs fb (d + 1) n_X8_post [.ref a0, .int x1, .int x2] h = pm_ev (P_X8_post) (rs fb d) (P_X8_post 0) [some (.ref a0), some (.int x1), some (.int x2)] [] h := rfl
theorem pb_X8_post_0 : P_X8_post 0 = [ac_ild 1, ac_i (0), ac_ald 0, ac_gr [8] 0, ac_gr [5] 0, ac_cv n_X6_used 0 [6, 3], ac_cs n_X8_isIn 3, ac_if0 (fun x => decide (x = 0)) 1, ac_ild 2, ac_i (0), ac_i (5), ac_cs n_X8_isIn 3, ac_if0 (fun x => decide (¬ x = 0)) 2, ac_go 1] := rfl
theorem pb_X8_post_1 : P_X8_post 1 = [ac_ald 0, ac_i (1), ac_cv n_X8_fail 1 [8], ac_ri] := rfl
theorem pb_X8_post_2 : P_X8_post 2 = [ac_ald 0, ac_gr [8] 2, ac_ald 0, ac_gr [8] 0, ac_i (-1), ac_cv n_X7_go 2 [7], ac_ild 2, ac_sw [(0, 3), (1, 4), (2, 5), (3, 6), (4, 7)] 8] := rfl
theorem pb_X8_post_3 : P_X8_post 3 = [ac_ald 0, ac_gr [8] 2, ac_ild 1, ac_cv n_X7_sideOf 1 [7], ac_ri] := rfl
theorem pb_X8_post_4 : P_X8_post 4 = [ac_ald 0, ac_gr [8] 2, ac_ild 1, ac_cv n_X7_alongOf 1 [7], ac_ri] := rfl
theorem pb_X8_post_5 : P_X8_post 5 = [ac_ald 0, ac_gr [8] 2, ac_ild 1, ac_cv n_X7_sideOf 1 [7], ac_ald 0, ac_ild 1, ac_ald 0, ac_gr [8] 2, ac_cv n_X7_missSide 0 [7], ac_cv n_X8_movedBy 2 [8], ac_bin (fun x y => x - y), ac_ri] := rfl
theorem pb_X8_post_6 : P_X8_post 6 = [ac_ald 0, ac_gr [8] 2, ac_ild 1, ac_cv n_X7_alongOf 1 [7], ac_ald 0, ac_ild 1, ac_ald 0, ac_gr [8] 2, ac_cv n_X7_missAlong 0 [7], ac_cv n_X8_movedBy 2 [8], ac_bin (fun x y => x - y), ac_ri] := rfl
theorem pb_X8_post_7 : P_X8_post 7 = [ac_ald 0, ac_ild 1, ac_cv n_X8_movingOf 1 [8], ac_ri] := rfl
theorem pb_X8_post_8 : P_X8_post 8 = [ac_ald 0, ac_gr [8] 0, ac_gr [5] 2, ac_i (0), ac_ild 1, ac_cv n_X6_howMany 2 [6, 3], ac_ri] := rfl
theorem en_X8_miss {fb : Bool} {d : Nat} {a0 : Nat} {x1 : Int32} {h : pm_HP} : rs fb (d + 1) n_X8_miss [.ref a0, .int x1] h = pm_ev (P_X8_miss) (rs fb d) (P_X8_miss 0) [some (.ref a0), some (.int x1)] [] h := rfl
theorem pb_X8_miss_0 : P_X8_miss 0 = [ac_ild 1, ac_i (0), ac_i (2), ac_cs n_X8_isIn 3, ac_if0 (fun x => decide (¬ x = 0)) 1, ac_ald 0, ac_i (1), ac_cv n_X8_fail 1 [8], ac_ri] := rfl
theorem pb_X8_miss_1 : P_X8_miss 1 = [ac_ald 0, ac_gr [8] 2, ac_ald 0, ac_gr [8] 0, ac_i (-1), ac_cv n_X7_go 2 [7], ac_ild 1, ac_sw [(0, 2), (1, 3)] 4] := rfl
theorem pb_X8_miss_2 : P_X8_miss 2 = [ac_ald 0, ac_gr [8] 2, ac_cv n_X7_missSide 0 [7], ac_ri] := rfl
theorem pb_X8_miss_3 : P_X8_miss 3 = [ac_ald 0, ac_gr [8] 2, ac_cv n_X7_missAlong 0 [7], ac_ri] := rfl
theorem pb_X8_miss_4 : P_X8_miss 4 = [ac_ald 0, ac_gr [8] 2, ac_cv n_X7_wholeMiss 0 [7], ac_ri] := rfl
theorem en_X8_wronged {fb : Bool} {d : Nat} {a0 : Nat} {x1 : Int32} {h : pm_HP} : rs fb (d + 1) n_X8_wronged [.ref a0, .int x1] h = pm_ev (P_X8_wronged) (rs fb d) (P_X8_wronged 0) [some (.ref a0), some (.int x1), none, none, none, none] [] h := rfl
theorem pb_X8_wronged_0 : P_X8_wronged 0 = [ac_ild 1, ac_i (1), ac_i (9999), ac_cs n_X8_isIn 3, ac_if0 (fun x => decide (¬ x = 0)) 1, ac_ald 0, ac_i (1), ac_cv n_X8_fail 1 [8], ac_ri] := rfl
theorem pb_X8_wronged_1 : P_X8_wronged 1 = [ac_ald 0, ac_gr [8] 2, ac_ald 0, ac_gr [8] 0, ac_i (-1), ac_cv n_X7_go 2 [7], ac_i (0), ac_ist 2, ac_ald 0, ac_i (0), ac_ild 1, ac_cv n_X8_isMovedBy 2 [8], ac_ist 3, ac_i (0), ac_ist 4, ac_go 2] := rfl
theorem pb_X8_wronged_2 : P_X8_wronged 2 = [ac_ild 4, ac_ald 0, ac_gr [8] 0, ac_gr [5] 0, ac_cv n_X6_used 0 [6, 3], ac_if2 (fun x y => decide (y ≤ x)) 5, ac_ald 0, ac_ild 4, ac_i (1), ac_bin (fun x y => x + y), ac_ild 1, ac_cv n_X8_isMovedBy 2 [8], ac_ist 5, ac_ild 3, ac_if0 (fun x => decide (¬ x = 0)) 3, ac_ild 5, ac_if0 (fun x => decide (x = 0)) 4, ac_go 3] := rfl
theorem pb_X8_wronged_3 : P_X8_wronged 3 = [ac_ild 2, ac_i (1), ac_ild 4, ac_bin (fun x y => x <<< (y &&& 31)), ac_bin (fun x y => x ||| y), ac_ist 2, ac_go 4] := rfl
theorem pb_X8_wronged_4 : P_X8_wronged 4 = [ac_ild 5, ac_ist 3, ac_inc 4 (1), ac_go 2] := rfl
theorem pb_X8_wronged_5 : P_X8_wronged 5 = [ac_ild 2, ac_ri] := rfl
theorem en_X8_which {fb : Bool} {d : Nat} {a0 : Nat} {x1 : Int32} {h : pm_HP} : rs fb (d + 1) n_X8_which [.ref a0, .int x1] h = pm_ev (P_X8_which) (rs fb d) (P_X8_which 0) [some (.ref a0), some (.int x1), none, none, none, none] [] h := rfl
theorem pb_X8_which_0 : P_X8_which 0 = [ac_ild 1, ac_i (0), ac_i (1), ac_cs n_X8_isIn 3, ac_if0 (fun x => decide (¬ x = 0)) 1, ac_ald 0, ac_i (1), ac_cv n_X8_fail 1 [8], ac_ri] := rfl
theorem pb_X8_which_1 : P_X8_which 1 = [ac_i (-1), ac_ist 2, ac_i (0), ac_ist 3, ac_i (0), ac_ist 4, ac_go 2] := rfl
theorem pb_X8_which_2 : P_X8_which 2 = [ac_ild 4, ac_ald 0, ac_gr [8] 0, ac_gr [5] 1, ac_cv n_X6_used 0 [3], ac_if2 (fun x y => decide (y ≤ x)) 5, ac_ald 0, ac_gr [8] 0, ac_gr [5] 1, ac_i (4), ac_ild 4, ac_cv n_X6_at 2 [3], ac_i (1), ac_if2 (fun x y => decide (¬ x = y)) 4, ac_ald 0, ac_gr [8] 2, ac_ald 0, ac_gr [8] 0, ac_ild 4, ac_cv n_X7_go 2 [7], ac_ald 0, ac_gr [8] 2, ac_cv n_X7_wholeMiss 0 [7], ac_ist 5, ac_ild 2, ac_i (-1), ac_if2 (fun x y => decide (x = y)) 3, ac_ild 5, ac_ild 3, ac_if2 (fun x y => decide (y ≤ x)) 4, ac_go 3] := rfl
theorem pb_X8_which_3 : P_X8_which 3 = [ac_ild 4, ac_ist 2, ac_ild 5, ac_ist 3, ac_go 4] := rfl
theorem pb_X8_which_4 : P_X8_which 4 = [ac_inc 4 (1), ac_go 2] := rfl
theorem pb_X8_which_5 : P_X8_which 5 = [ac_ild 2, ac_i (-1), ac_if2 (fun x y => decide (¬ x = y)) 6, ac_ald 0, ac_i (2), ac_cv n_X8_fail 1 [8], ac_ri] := rfl
theorem pb_X8_which_6 : P_X8_which 6 = [ac_ild 1, ac_if0 (fun x => decide (¬ x = 0)) 7, ac_ild 2, ac_go 8] := rfl
theorem pb_X8_which_7 : P_X8_which 7 = [ac_ild 3, ac_go 8] := rfl
theorem pb_X8_which_8 : P_X8_which 8 = [ac_ri] := rfl
theorem en_X8_checks {fb : Bool} {d : Nat} {a0 : Nat} {x1 : Int32} {x2 : Int32} {h : pm_HP} : rs fb (d + 1) n_X8_checks [.ref a0, .int x1, .int x2] h = pm_ev (P_X8_checks) (rs fb d) (P_X8_checks 0) [some (.ref a0), some (.int x1), some (.int x2), none] [] h := rfl
theorem pb_X8_checks_0 : P_X8_checks 0 = [ac_ild 1, ac_i (1), ac_i (2), ac_cs n_X8_isIn 3, ac_if0 (fun x => decide (x = 0)) 1, ac_ild 2, ac_i (0), ac_i (1), ac_cs n_X8_isIn 3, ac_if0 (fun x => decide (¬ x = 0)) 2, ac_go 1] := rfl
theorem pb_X8_checks_1 : P_X8_checks 1 = [ac_ald 0, ac_i (1), ac_cv n_X8_fail 1 [8], ac_ri] := rfl
theorem pb_X8_checks_2 : P_X8_checks 2 = [ac_ald 0, ac_gr [8] 0, ac_gr [5] 0, ac_cv n_X6_used 0 [6, 3], ac_ild 1, ac_if2 (fun x y => decide (y ≤ x)) 3, ac_ald 0, ac_i (2), ac_cv n_X8_fail 1 [8], ac_ri] := rfl
theorem pb_X8_checks_3 : P_X8_checks 3 = [ac_ald 0, ac_gr [8] 2, ac_ald 0, ac_gr [8] 0, ac_i (-1), ac_cv n_X7_go 2 [7], ac_ild 1, ac_i (1), ac_if2 (fun x y => decide (¬ x = y)) 4, ac_ald 0, ac_gr [8] 2, ac_cv n_X7_bestCheck 0 [7], ac_go 5] := rfl
theorem pb_X8_checks_4 : P_X8_checks 4 = [ac_ald 0, ac_gr [8] 2, ac_cv n_X7_bestPairOfChecks 0 [7], ac_go 5] := rfl
theorem pb_X8_checks_5 : P_X8_checks 5 = [ac_ist 3, ac_ild 2, ac_if0 (fun x => decide (¬ x = 0)) 6, ac_ild 3, ac_go 7] := rfl
theorem pb_X8_checks_6 : P_X8_checks 6 = [ac_ald 0, ac_gr [8] 2, ac_ild 3, ac_cv n_X7_offWithChecks 1 [7], ac_go 7] := rfl
theorem pb_X8_checks_7 : P_X8_checks 7 = [ac_ri] := rfl
theorem en_X8_hours {fb : Bool} {d : Nat} {a0 : Nat} {h : pm_HP} : rs fb (d + 1) n_X8_hours [.ref a0] h = pm_ev (P_X8_hours) (rs fb d) (P_X8_hours 0) [some (.ref a0), none, none] [] h := rfl
theorem pb_X8_hours_0 : P_X8_hours 0 = [ac_i (0), ac_ist 1, ac_i (0), ac_ist 2, ac_go 1] := rfl
theorem pb_X8_hours_1 : P_X8_hours 1 = [ac_ild 2, ac_ald 0, ac_gr [8] 0, ac_gr [5] 0, ac_cv n_X6_used 0 [6, 3], ac_if2 (fun x y => decide (y ≤ x)) 2, ac_ild 1, ac_ald 0, ac_ild 2, ac_cv n_X8_hoursOf 1 [8], ac_bin (fun x y => x + y), ac_ist 1, ac_inc 2 (1), ac_go 1] := rfl
theorem pb_X8_hours_2 : P_X8_hours 2 = [ac_ild 1, ac_ri] := rfl
theorem en_X8_within {fb : Bool} {d : Nat} {a0 : Nat} {x1 : Int32} {h : pm_HP} : rs fb (d + 1) n_X8_within [.ref a0, .int x1] h = pm_ev (P_X8_within) (rs fb d) (P_X8_within 0) [some (.ref a0), some (.int x1), none, none] [] h := rfl
theorem pb_X8_within_0 : P_X8_within 0 = [ac_ild 1, ac_i (0), ac_i (99999), ac_cs n_X8_isIn 3, ac_if0 (fun x => decide (¬ x = 0)) 1, ac_ald 0, ac_i (1), ac_cv n_X8_fail 1 [8], ac_ri] := rfl
theorem pb_X8_within_1 : P_X8_within 1 = [ac_i (0), ac_ist 2, ac_i (0), ac_ist 3, ac_go 2] := rfl
theorem pb_X8_within_2 : P_X8_within 2 = [ac_ild 3, ac_ald 0, ac_gr [8] 0, ac_gr [5] 0, ac_cv n_X6_used 0 [6, 3], ac_if2 (fun x y => decide (y ≤ x)) 4, ac_ild 2, ac_ald 0, ac_ild 3, ac_cv n_X8_hoursOf 1 [8], ac_bin (fun x y => x + y), ac_ist 2, ac_ild 2, ac_ild 1, ac_if2 (fun x y => decide (x ≤ y)) 3, ac_ild 3, ac_ri] := rfl
theorem pb_X8_within_3 : P_X8_within 3 = [ac_inc 3 (1), ac_go 2] := rfl
theorem pb_X8_within_4 : P_X8_within 4 = [ac_ald 0, ac_gr [8] 0, ac_gr [5] 0, ac_cv n_X6_used 0 [6, 3], ac_ri] := rfl
theorem en_X8_leaning {fb : Bool} {d : Nat} {a0 : Nat} {h : pm_HP} : rs fb (d + 1) n_X8_leaning [.ref a0] h = pm_ev (P_X8_leaning) (rs fb d) (P_X8_leaning 0) [some (.ref a0), none, none] [] h := rfl
theorem pb_X8_leaning_0 : P_X8_leaning 0 = [ac_ald 0, ac_gr [8] 2, ac_ald 0, ac_gr [8] 0, ac_i (-1), ac_cv n_X7_go 2 [7], ac_i (0), ac_ist 1, ac_i (1), ac_ist 2, ac_go 1] := rfl
theorem pb_X8_leaning_1 : P_X8_leaning 1 = [ac_ild 2, ac_ald 0, ac_gr [8] 0, ac_gr [5] 0, ac_cv n_X6_used 0 [6, 3], ac_if2 (fun x y => decide (y ≤ x)) 3, ac_ald 0, ac_gr [8] 2, ac_ild 2, ac_cv n_X7_headingIn 1 [7], ac_m1 (fun x => if 0 ≤ x then x else 0 - x), ac_ald 0, ac_gr [8] 2, ac_ild 1, ac_cv n_X7_headingIn 1 [7], ac_m1 (fun x => if 0 ≤ x then x else 0 - x), ac_if2 (fun x y => decide (x ≤ y)) 2, ac_ild 2, ac_ist 1, ac_go 2] := rfl
theorem pb_X8_leaning_2 : P_X8_leaning 2 = [ac_inc 2 (1), ac_go 1] := rfl
theorem pb_X8_leaning_3 : P_X8_leaning 3 = [ac_ild 1, ac_ri] := rfl
theorem en_X8_straight {fb : Bool} {d : Nat} {a0 : Nat} {x1 : Int32} {h : pm_HP} : rs fb (d + 1) n_X8_straight [.ref a0, .int x1] h = pm_ev (P_X8_straight) (rs fb d) (P_X8_straight 0) [some (.ref a0), some (.int x1), none, none, none, none, none, none, none, none] [] h := rfl
theorem pb_X8_straight_0 : P_X8_straight 0 = [ac_ild 1, ac_i (0), ac_i (1), ac_cs n_X8_isIn 3, ac_if0 (fun x => decide (¬ x = 0)) 1, ac_ald 0, ac_i (1), ac_cv n_X8_fail 1 [8], ac_i2l, ac_rl] := rfl
theorem pb_X8_straight_1 : P_X8_straight 1 = [ac_ald 0, ac_gr [8] 2, ac_ald 0, ac_gr [8] 0, ac_i (-1), ac_cv n_X7_go 2 [7], ac_ald 0, ac_gr [8] 2, ac_cv n_X7_sumOfSides 0 [7], ac_lst 2, ac_ald 0, ac_gr [8] 2, ac_cv n_X7_sumOfSquares 0 [7], ac_lst 4, ac_lld 2, ac_ml (fun x => if 0 < x then x else -x), ac_lld 4, ac_cs n_X8_greatestCommon 2, ac_lst 6, ac_ild 1, ac_if0 (fun x => decide (¬ x = 0)) 2, ac_lld 2, ac_go 3] := rfl
theorem pb_X8_straight_2 : P_X8_straight 2 = [ac_lld 4, ac_go 3] := rfl
theorem pb_X8_straight_3 : P_X8_straight 3 = [ac_lst 8, ac_lld 6, ac_l (0), ac_lcmp, ac_if0 (fun x => decide (x ≤ 0)) 4, ac_lld 8, ac_lld 6, ac_ldv (fun x y => x / y), ac_go 5] := rfl
theorem pb_X8_straight_4 : P_X8_straight 4 = [ac_lld 8, ac_go 5] := rfl
theorem pb_X8_straight_5 : P_X8_straight 5 = [ac_rl] := rfl
theorem en_X8_offIt {fb : Bool} {d : Nat} {a0 : Nat} {h : pm_HP} : rs fb (d + 1) n_X8_offIt [.ref a0] h = pm_ev (P_X8_offIt) (rs fb d) (P_X8_offIt 0) [some (.ref a0), none, none] [] h := rfl
theorem pb_X8_offIt_0 : P_X8_offIt 0 = [ac_ald 0, ac_gr [8] 2, ac_ald 0, ac_gr [8] 0, ac_i (-1), ac_cv n_X7_go 2 [7], ac_i (1), ac_ist 1, ac_i (2), ac_ist 2, ac_go 1] := rfl
theorem pb_X8_offIt_1 : P_X8_offIt 1 = [ac_ild 2, ac_ald 0, ac_gr [8] 0, ac_gr [5] 0, ac_cv n_X6_used 0 [6, 3], ac_if2 (fun x y => decide (y < x)) 3, ac_ald 0, ac_gr [8] 2, ac_ild 2, ac_cv n_X7_offStraight 1 [7], ac_ald 0, ac_gr [8] 2, ac_ild 1, ac_cv n_X7_offStraight 1 [7], ac_lcmp, ac_if0 (fun x => decide (x ≤ 0)) 2, ac_ild 2, ac_ist 1, ac_go 2] := rfl
theorem pb_X8_offIt_2 : P_X8_offIt 2 = [ac_inc 2 (1), ac_go 1] := rfl
theorem pb_X8_offIt_3 : P_X8_offIt 3 = [ac_ild 1, ac_ri] := rfl
theorem en_X8_nearest {fb : Bool} {d : Nat} {a0 : Nat} {x1 : Int32} {x2 : Int32} {h : pm_HP} : rs fb (d + 1) n_X8_nearest [.ref a0, .int x1, .int x2] h = pm_ev (P_X8_nearest) (rs fb d) (P_X8_nearest 0) [some (.ref a0), some (.int x1), some (.int x2), none, none] [] h := rfl
theorem pb_X8_nearest_0 : P_X8_nearest 0 = [ac_ild 1, ac_i (-99999), ac_i (99999), ac_cs n_X8_isIn 3, ac_if0 (fun x => decide (x = 0)) 1, ac_ild 2, ac_i (0), ac_i (99999), ac_cs n_X8_isIn 3, ac_if0 (fun x => decide (¬ x = 0)) 2, ac_go 1] := rfl
theorem pb_X8_nearest_1 : P_X8_nearest 1 = [ac_ald 0, ac_i (1), ac_cv n_X8_fail 1 [8], ac_ri] := rfl
theorem pb_X8_nearest_2 : P_X8_nearest 2 = [ac_ald 0, ac_gr [8] 2, ac_ald 0, ac_gr [8] 0, ac_i (-1), ac_cv n_X7_go 2 [7], ac_i (0), ac_ist 3, ac_i (1), ac_ist 4, ac_go 3] := rfl
theorem pb_X8_nearest_3 : P_X8_nearest 3 = [ac_ild 4, ac_ald 0, ac_gr [8] 0, ac_gr [5] 0, ac_cv n_X6_used 0 [6, 3], ac_if2 (fun x y => decide (y < x)) 5, ac_ald 0, ac_gr [8] 2, ac_ild 4, ac_ild 1, ac_ild 2, ac_cv n_X7_distanceOf 3 [7], ac_ald 0, ac_gr [8] 2, ac_ild 3, ac_ild 1, ac_ild 2, ac_cv n_X7_distanceOf 3 [7], ac_if2 (fun x y => decide (y ≤ x)) 4, ac_ild 4, ac_ist 3, ac_go 4] := rfl
theorem pb_X8_nearest_4 : P_X8_nearest 4 = [ac_inc 4 (1), ac_go 3] := rfl
theorem pb_X8_nearest_5 : P_X8_nearest 5 = [ac_ild 3, ac_ri] := rfl
theorem en_X8_crosses {fb : Bool} {d : Nat} {a0 : Nat} {h : pm_HP} : rs fb (d + 1) n_X8_crosses [.ref a0] h = pm_ev (P_X8_crosses) (rs fb d) (P_X8_crosses 0) [some (.ref a0), none, none, none, none] [] h := rfl
theorem pb_X8_crosses_0 : P_X8_crosses 0 = [ac_ald 0, ac_gr [8] 2, ac_ald 0, ac_gr [8] 0, ac_i (-1), ac_cv n_X7_go 2 [7], ac_i (0), ac_ist 1, ac_i (0), ac_ist 2, ac_go 1] := rfl
theorem pb_X8_crosses_1 : P_X8_crosses 1 = [ac_ild 2, ac_ald 0, ac_gr [8] 0, ac_gr [5] 0, ac_cv n_X6_used 0 [6, 3], ac_if2 (fun x y => decide (y ≤ x)) 5, ac_ald 0, ac_gr [8] 2, ac_ild 2, ac_cv n_X7_sideOf 1 [7], ac_ist 3, ac_ald 0, ac_gr [8] 2, ac_ild 2, ac_i (1), ac_bin (fun x y => x + y), ac_cv n_X7_sideOf 1 [7], ac_ist 4, ac_ild 3, ac_if0 (fun x => decide (0 ≤ x)) 2, ac_ild 4, ac_if0 (fun x => decide (0 < x)) 3, ac_go 2] := rfl
theorem pb_X8_crosses_2 : P_X8_crosses 2 = [ac_ild 3, ac_if0 (fun x => decide (x ≤ 0)) 4, ac_ild 4, ac_if0 (fun x => decide (0 ≤ x)) 4, ac_go 3] := rfl
theorem pb_X8_crosses_3 : P_X8_crosses 3 = [ac_inc 1 (1), ac_go 4] := rfl
theorem pb_X8_crosses_4 : P_X8_crosses 4 = [ac_inc 2 (1), ac_go 1] := rfl
theorem pb_X8_crosses_5 : P_X8_crosses 5 = [ac_ild 1, ac_ri] := rfl
theorem en_X8_tree {fb : Bool} {d : Nat} {a0 : Nat} {x1 : Int32} {x2 : Int32} {x3 : Int32} {h : pm_HP} : rs fb (d + 1) n_X8_tree [.ref a0, .int x1, .int x2, .int x3] h = pm_ev (P_X8_tree) (rs fb d) (P_X8_tree 0) [some (.ref a0), some (.int x1), some (.int x2), some (.int x3), none, none, none] [] h := rfl
theorem pb_X8_tree_0 : P_X8_tree 0 = [ac_ild 3, ac_i (1000), ac_dv (fun x y => x / y), ac_i (100), ac_bin (fun x y => x - y), ac_ist 4, ac_ild 3, ac_i (1000), ac_dv (fun x y => x - x / y * y), ac_i (100), ac_bin (fun x y => x - y), ac_ist 5, ac_ild 1, ac_i (1), ac_i (24), ac_cs n_X8_isIn 3, ac_if0 (fun x => decide (x = 0)) 1, ac_ild 2, ac_i (0), ac_i (5), ac_cs n_X8_isIn 3, ac_if0 (fun x => decide (x = 0)) 1, ac_ild 4, ac_i (-99), ac_i (99), ac_cs n_X8_isIn 3, ac_if0 (fun x => decide (x = 0)) 1, ac_ild 5, ac_i (-99), ac_i (99), ac_cs n_X8_isIn 3, ac_if0 (fun x => decide (¬ x = 0)) 2, ac_go 1] := rfl
theorem pb_X8_tree_1 : P_X8_tree 1 = [ac_ald 0, ac_i (1), ac_cv n_X8_fail 1 [8], ac_ri] := rfl
theorem pb_X8_tree_2 : P_X8_tree 2 = [ac_ald 0, ac_gr [8] 0, ac_gr [5] 2, ac_cv n_X6_isFull 0 [6, 3], ac_if0 (fun x => decide (x = 0)) 3, ac_ald 0, ac_i (4), ac_cv n_X8_fail 1 [8], ac_ri] := rfl
theorem pb_X8_tree_3 : P_X8_tree 3 = [ac_ald 0, ac_gr [8] 0, ac_gr [5] 2, ac_ild 1, ac_cv n_X6_add 1 [6, 3], ac_ist 6, ac_ald 0, ac_gr [8] 0, ac_gr [5] 2, ac_i (1), ac_ild 6, ac_ild 2, ac_cv n_X6_set 3 [6, 3], ac_ald 0, ac_gr [8] 0, ac_gr [5] 2, ac_i (2), ac_ild 6, ac_ild 4, ac_cv n_X6_set 3 [6, 3], ac_ald 0, ac_gr [8] 0, ac_gr [5] 2, ac_i (3), ac_ild 6, ac_ild 5, ac_cv n_X6_set 3 [6, 3], ac_ild 6, ac_ri] := rfl
theorem en_X8_treeIs {fb : Bool} {d : Nat} {a0 : Nat} {x1 : Int32} {x2 : Int32} {h : pm_HP} : rs fb (d + 1) n_X8_treeIs [.ref a0, .int x1, .int x2] h = pm_ev (P_X8_treeIs) (rs fb d) (P_X8_treeIs 0) [some (.ref a0), some (.int x1), some (.int x2), none] [] h := rfl
theorem pb_X8_treeIs_0 : P_X8_treeIs 0 = [ac_ald 0, ac_gr [8] 0, ac_gr [5] 2, ac_ild 1, ac_cv n_X6_has 1 [6, 3], ac_if0 (fun x => decide (x = 0)) 1, ac_ild 2, ac_i (0), ac_i (5), ac_cs n_X8_isIn 3, ac_if0 (fun x => decide (¬ x = 0)) 2, ac_go 1] := rfl
theorem pb_X8_treeIs_1 : P_X8_treeIs 1 = [ac_ald 0, ac_i (1), ac_cv n_X8_fail 1 [8], ac_ri] := rfl
theorem pb_X8_treeIs_2 : P_X8_treeIs 2 = [ac_ild 2, ac_i (3), ac_if2 (fun x y => decide (y < x)) 3, ac_ald 0, ac_gr [8] 0, ac_gr [5] 2, ac_ild 2, ac_ild 1, ac_cv n_X6_at 2 [6, 3], ac_ri] := rfl
theorem pb_X8_treeIs_3 : P_X8_treeIs 3 = [ac_ald 0, ac_gr [8] 0, ac_gr [5] 2, ac_i (0), ac_ild 1, ac_cv n_X6_at 2 [6, 3], ac_ist 3, ac_ild 3, ac_ald 0, ac_gr [8] 0, ac_gr [5] 0, ac_cv n_X6_used 0 [6, 3], ac_if2 (fun x y => decide (x ≤ y)) 4, ac_ald 0, ac_i (2), ac_cv n_X8_fail 1 [8], ac_ri] := rfl
theorem pb_X8_treeIs_4 : P_X8_treeIs 4 = [ac_ald 0, ac_gr [8] 2, ac_ald 0, ac_gr [8] 0, ac_i (-1), ac_cv n_X7_go 2 [7], ac_ild 2, ac_i (4), ac_if2 (fun x y => decide (¬ x = y)) 5, ac_ald 0, ac_gr [8] 2, ac_ild 3, ac_cv n_X7_sideOf 1 [7], ac_ald 0, ac_gr [8] 0, ac_gr [5] 2, ac_i (2), ac_ild 1, ac_cv n_X6_at 2 [6, 3], ac_bin (fun x y => x + y), ac_go 6] := rfl
theorem pb_X8_treeIs_5 : P_X8_treeIs 5 = [ac_ald 0, ac_gr [8] 2, ac_ild 3, ac_cv n_X7_alongOf 1 [7], ac_ald 0, ac_gr [8] 0, ac_gr [5] 2, ac_i (3), ac_ild 1, ac_cv n_X6_at 2 [6, 3], ac_bin (fun x y => x + y), ac_go 6] := rfl
theorem pb_X8_treeIs_6 : P_X8_treeIs 6 = [ac_ri] := rfl
theorem en_X8_dig {fb : Bool} {d : Nat} {a0 : Nat} {x1 : Int32} {x2 : Int32} {x3 : Int32} {x4 : Int32} {h : pm_HP} : rs fb (d + 1) n_X8_dig [.ref a0, .int x1, .int x2, .int x3, .int x4] h = pm_ev (P_X8_dig) (rs fb d) (P_X8_dig 0) [some (.ref a0), some (.int x1), some (.int x2), some (.int x3), some (.int x4)] [] h := rfl
theorem pb_X8_dig_0 : P_X8_dig 0 = [ac_ald 0, ac_gr [8] 0, ac_gr [5] 2, ac_ild 1, ac_cv n_X6_has 1 [6, 3], ac_if0 (fun x => decide (x = 0)) 1, ac_ild 4, ac_i (0), ac_i (1), ac_cs n_X8_isIn 3, ac_if0 (fun x => decide (¬ x = 0)) 2, ac_go 1] := rfl
theorem pb_X8_dig_1 : P_X8_dig 1 = [ac_ald 0, ac_i (1), ac_cv n_X8_fail 1 [8], ac_ri] := rfl
theorem pb_X8_dig_2 : P_X8_dig 2 = [ac_ild 4, ac_if0 (fun x => decide (¬ x = 0)) 3, ac_ild 2, ac_ald 0, ac_gr [8] 0, ac_gr [5] 2, ac_i (2), ac_ild 1, ac_cv n_X6_at 2 [6, 3], ac_bin (fun x y => x - y), ac_go 4] := rfl
theorem pb_X8_dig_3 : P_X8_dig 3 = [ac_ild 3, ac_ald 0, ac_gr [8] 0, ac_gr [5] 2, ac_i (3), ac_ild 1, ac_cv n_X6_at 2 [6, 3], ac_bin (fun x y => x - y), ac_go 4] := rfl
theorem pb_X8_dig_4 : P_X8_dig 4 = [ac_ri] := rfl
theorem en_X8_sorts {fb : Bool} {d : Nat} {a0 : Nat} {x1 : Int32} {h : pm_HP} : rs fb (d + 1) n_X8_sorts [.ref a0, .int x1] h = pm_ev (P_X8_sorts) (rs fb d) (P_X8_sorts 0) [some (.ref a0), some (.int x1)] [] h := rfl
theorem pb_X8_sorts_0 : P_X8_sorts 0 = [ac_ild 1, ac_i (0), ac_i (5), ac_cs n_X8_isIn 3, ac_if0 (fun x => decide (¬ x = 0)) 1, ac_ald 0, ac_i (1), ac_cv n_X8_fail 1 [8], ac_ri] := rfl
theorem pb_X8_sorts_1 : P_X8_sorts 1 = [ac_ald 0, ac_gr [8] 0, ac_gr [5] 2, ac_i (1), ac_ild 1, ac_cv n_X6_howMany 2 [6, 3], ac_ri] := rfl
theorem en_X8_waver {fb : Bool} {d : Nat} {a0 : Nat} {x1 : Int32} {x2 : Int32} {x3 : Int32} {h : pm_HP} : rs fb (d + 1) n_X8_waver [.ref a0, .int x1, .int x2, .int x3] h = pm_ev (P_X8_waver) (rs fb d) (P_X8_waver 0) [some (.ref a0), some (.int x1), some (.int x2), some (.int x3), none] [] h := rfl
theorem pb_X8_waver_0 : P_X8_waver 0 = [ac_ild 1, ac_i (0), ac_i (23), ac_cs n_X8_isIn 3, ac_if0 (fun x => decide (x = 0)) 1, ac_ild 2, ac_i (1), ac_i (24), ac_cs n_X8_isIn 3, ac_if0 (fun x => decide (x = 0)) 1, ac_ild 3, ac_i (0), ac_i (99), ac_cs n_X8_isIn 3, ac_if0 (fun x => decide (¬ x = 0)) 2, ac_go 1] := rfl
theorem pb_X8_waver_1 : P_X8_waver 1 = [ac_ald 0, ac_i (1), ac_cv n_X8_fail 1 [8], ac_ri] := rfl
theorem pb_X8_waver_2 : P_X8_waver 2 = [ac_ild 1, ac_ist 4, ac_go 3] := rfl
theorem pb_X8_waver_3 : P_X8_waver 3 = [ac_ild 4, ac_ild 1, ac_ild 2, ac_bin (fun x y => x + y), ac_if2 (fun x y => decide (y ≤ x)) 4, ac_ild 4, ac_i (24), ac_if2 (fun x y => decide (y ≤ x)) 4, ac_ald 0, ac_gr [8] 0, ac_gr [5] 0, ac_i (4), ac_ild 4, ac_ald 0, ac_gr [8] 0, ac_cv n_X5_draw 0 [5], ac_i (2), ac_ild 3, ac_bin (fun x y => x * y), ac_i (1), ac_bin (fun x y => x + y), ac_dv (fun x y => x - x / y * y), ac_ild 3, ac_bin (fun x y => x - y), ac_cv n_X6_set 3 [6, 3], ac_inc 4 (1), ac_go 3] := rfl
theorem pb_X8_waver_4 : P_X8_waver 4 = [ac_ald 0, ac_gr [8] 2, ac_ald 0, ac_gr [8] 0, ac_i (-1), ac_cv n_X7_go 2 [7], ac_ald 0, ac_gr [8] 2, ac_cv n_X7_missSide 0 [7], ac_ri] := rfl
theorem en_X8_still {fb : Bool} {d : Nat} {a0 : Nat} {h : pm_HP} : rs fb (d + 1) n_X8_still [.ref a0] h = pm_ev (P_X8_still) (rs fb d) (P_X8_still 0) [some (.ref a0), none, none] [] h := rfl
theorem pb_X8_still_0 : P_X8_still 0 = [ac_i (0), ac_ist 1, ac_i (0), ac_ist 2, ac_go 1] := rfl
theorem pb_X8_still_1 : P_X8_still 1 = [ac_ild 2, ac_i (24), ac_if2 (fun x y => decide (y ≤ x)) 3, ac_ald 0, ac_gr [8] 0, ac_gr [5] 0, ac_i (4), ac_ild 2, ac_cv n_X6_at 2 [6, 3], ac_if0 (fun x => decide (x = 0)) 2, ac_inc 1 (1), ac_go 2] := rfl
theorem pb_X8_still_2 : P_X8_still 2 = [ac_ald 0, ac_gr [8] 0, ac_gr [5] 0, ac_i (4), ac_ild 2, ac_i (0), ac_cv n_X6_set 3 [6, 3], ac_inc 2 (1), ac_go 1] := rfl
theorem pb_X8_still_3 : P_X8_still 3 = [ac_ild 1, ac_ri] := rfl
theorem en_X8_seed {fb : Bool} {d : Nat} {a0 : Nat} {x1 : Int32} {h : pm_HP} : rs fb (d + 1) n_X8_seed [.ref a0, .int x1] h = pm_ev (P_X8_seed) (rs fb d) (P_X8_seed 0) [some (.ref a0), some (.int x1), none] [] h := rfl
theorem pb_X8_seed_0 : P_X8_seed 0 = [ac_ald 0, ac_gr [8] 0, ac_gi [5] 9, ac_ist 2, ac_ald 0, ac_gr [8] 0, ac_ild 1, ac_pi [5] 9, ac_ild 2, ac_ri] := rfl
theorem en_X8_voice {fb : Bool} {d : Nat} {a0 : Nat} {x1 : Int32} {x2 : Int32} {x3 : Int32} {h : pm_HP} : rs fb (d + 1) n_X8_voice [.ref a0, .int x1, .int x2, .int x3] h = pm_ev (P_X8_voice) (rs fb d) (P_X8_voice 0) [some (.ref a0), some (.int x1), some (.int x2), some (.int x3), none] [] h := rfl
theorem pb_X8_voice_0 : P_X8_voice 0 = [ac_ald 0, ac_gr [8] 0, ac_gr [5] 1, ac_ild 1, ac_cv n_X6_has 1 [3], ac_if0 (fun x => decide (x = 0)) 1, ac_ild 2, ac_i (0), ac_i (3), ac_cs n_X8_isIn 3, ac_if0 (fun x => decide (¬ x = 0)) 2, ac_go 1] := rfl
theorem pb_X8_voice_1 : P_X8_voice 1 = [ac_ald 0, ac_i (1), ac_cv n_X8_fail 1 [8], ac_ri] := rfl
theorem pb_X8_voice_2 : P_X8_voice 2 = [ac_ald 0, ac_gr [8] 4, ac_ald 0, ac_gr [8] 0, ac_gr [5] 1, ac_ild 1, ac_ild 2, ac_ild 3, ac_cv n_X4_speak 4 [4], ac_ist 4, ac_ald 0, ac_gr [8] 4, ac_cv n_X4_isParted 0 [4], ac_if0 (fun x => decide (x = 0)) 3, ac_ald 0, ac_i (6), ac_cv n_X8_fail 1 [8], ac_go 4] := rfl
theorem pb_X8_voice_3 : P_X8_voice 3 = [ac_ild 4, ac_go 4] := rfl
theorem pb_X8_voice_4 : P_X8_voice 4 = [ac_ri] := rfl
theorem en_X8_body {fb : Bool} {d : Nat} {a0 : Nat} {x1 : Int32} {h : pm_HP} : rs fb (d + 1) n_X8_body [.ref a0, .int x1] h = pm_ev (P_X8_body) (rs fb d) (P_X8_body 0) [some (.ref a0), some (.int x1)] [] h := rfl
theorem pb_X8_body_0 : P_X8_body 0 = [ac_ald 0, ac_gr [8] 4, ac_gr [4] 0, ac_ild 1, ac_cv n_X6_has 1 [6, 3], ac_if0 (fun x => decide (x = 0)) 1, ac_ald 0, ac_gr [8] 4, ac_gr [4] 0, ac_i (0), ac_ild 1, ac_cv n_X6_at 2 [6, 3], ac_go 2] := rfl
theorem pb_X8_body_1 : P_X8_body 1 = [ac_ald 0, ac_i (2), ac_cv n_X8_fail 1 [8], ac_go 2] := rfl
theorem pb_X8_body_2 : P_X8_body 2 = [ac_ri] := rfl
theorem en_X8_sheet {fb : Bool} {d : Nat} {a0 : Nat} {x1 : Int32} {x2 : Int32} {x3 : Int32} {h : pm_HP} : rs fb (d + 1) n_X8_sheet [.ref a0, .int x1, .int x2, .int x3] h = pm_ev (P_X8_sheet) (rs fb d) (P_X8_sheet 0) [some (.ref a0), some (.int x1), some (.int x2), some (.int x3), none] [] h := rfl
theorem pb_X8_sheet_0 : P_X8_sheet 0 = [ac_ald 0, ac_ild 1, ac_cv n_X8_sheetOf 1 [8], ac_ast 4, ac_ald 4, ac_ifn true false 1, ac_ild 2, ac_if0 (fun x => decide (x = 0)) 2, ac_ild 2, ac_i (8), ac_if2 (fun x y => decide (x = y)) 2, ac_ild 2, ac_i (16), ac_if2 (fun x y => decide (x = y)) 2, ac_ild 2, ac_i (32), ac_if2 (fun x y => decide (x = y)) 2, ac_go 1] := rfl
theorem pb_X8_sheet_1 : P_X8_sheet 1 = [ac_ald 0, ac_i (1), ac_cv n_X8_fail 1 [8], ac_ri] := rfl
theorem pb_X8_sheet_2 : P_X8_sheet 2 = [ac_ild 2, ac_if0 (fun x => decide (x = 0)) 3, ac_ild 3, ac_if0 (fun x => decide (0 ≤ x)) 3, ac_ald 0, ac_i (3), ac_cv n_X8_fail 1 [8], ac_ri] := rfl
theorem pb_X8_sheet_3 : P_X8_sheet 3 = [ac_ild 2, ac_if0 (fun x => decide (x = 0)) 4, ac_ild 3, ac_i (24), ac_if2 (fun x y => decide (x ≤ y)) 4, ac_ald 0, ac_i (1), ac_cv n_X8_fail 1 [8], ac_ri] := rfl
theorem pb_X8_sheet_4 : P_X8_sheet 4 = [ac_ald 4, ac_ild 2, ac_ild 2, ac_if0 (fun x => decide (¬ x = 0)) 5, ac_i (0), ac_go 6] := rfl
theorem pb_X8_sheet_5 : P_X8_sheet 5 = [ac_ild 3, ac_go 6] := rfl
theorem pb_X8_sheet_6 : P_X8_sheet 6 = [ac_cv n_X2_lay 2 [2], ac_i (1), ac_ri] := rfl
theorem en_X8_put {fb : Bool} {d : Nat} {a0 : Nat} {x1 : Int32} {x2 : Int32} {x3 : Int32} {h : pm_HP} : rs fb (d + 1) n_X8_put [.ref a0, .int x1, .int x2, .int x3] h = pm_ev (P_X8_put) (rs fb d) (P_X8_put 0) [some (.ref a0), some (.int x1), some (.int x2), some (.int x3), none] [] h := rfl
theorem pb_X8_put_0 : P_X8_put 0 = [ac_ald 0, ac_ild 1, ac_cv n_X8_sheetOf 1 [8], ac_ast 4, ac_ald 4, ac_ifn false true 1, ac_ald 0, ac_i (1), ac_cv n_X8_fail 1 [8], ac_ri] := rfl
theorem pb_X8_put_1 : P_X8_put 1 = [ac_ald 4, ac_cv n_X2_isMissing 0 [2], ac_if0 (fun x => decide (x = 0)) 2, ac_ald 0, ac_i (2), ac_cv n_X8_fail 1 [8], ac_ri] := rfl
theorem pb_X8_put_2 : P_X8_put 2 = [ac_ald 4, ac_ild 2, ac_i (1), ac_cv n_X2_stand 2 [2], ac_if0 (fun x => decide (¬ x = 0)) 3, ac_ald 0, ac_i (1), ac_cv n_X8_fail 1 [8], ac_ri] := rfl
theorem pb_X8_put_3 : P_X8_put 3 = [ac_ald 4, ac_ild 2, ac_ild 3, ac_cv n_X2_write 2 [2], ac_i (1), ac_ri] := rfl
theorem en_X8_move {fb : Bool} {d : Nat} {a0 : Nat} {x1 : Int32} {x2 : Int32} {x3 : Int32} {x4 : Int32} {x5 : Int32} {h : pm_HP} : rs fb (d + 1) n_X8_move [.ref a0, .int x1, .int x2, .int x3, .int x4, .int x5] h = pm_ev (P_X8_move) (rs fb d) (P_X8_move 0) [some (.ref a0), some (.int x1), some (.int x2), some (.int x3), some (.int x4), some (.int x5), none, none] [] h := rfl
theorem pb_X8_move_0 : P_X8_move 0 = [ac_ald 0, ac_ild 1, ac_cv n_X8_sheetOf 1 [8], ac_ast 6, ac_ald 0, ac_ild 3, ac_cv n_X8_sheetOf 1 [8], ac_ast 7, ac_ald 6, ac_ifn true false 1, ac_ald 7, ac_ifn false true 2, ac_go 1] := rfl
theorem pb_X8_move_1 : P_X8_move 1 = [ac_ald 0, ac_i (1), ac_cv n_X8_fail 1 [8], ac_ri] := rfl
theorem pb_X8_move_2 : P_X8_move 2 = [ac_ald 6, ac_cv n_X2_isMissing 0 [2], ac_if0 (fun x => decide (¬ x = 0)) 3, ac_ald 7, ac_cv n_X2_isMissing 0 [2], ac_if0 (fun x => decide (x = 0)) 4, ac_go 3] := rfl
theorem pb_X8_move_3 : P_X8_move 3 = [ac_ald 0, ac_i (2), ac_cv n_X8_fail 1 [8], ac_ri] := rfl
theorem pb_X8_move_4 : P_X8_move 4 = [ac_ald 6, ac_gi [2] 1, ac_ald 7, ac_gi [2] 1, ac_if2 (fun x y => decide (x = y)) 5, ac_ald 0, ac_i (5), ac_cv n_X8_fail 1 [8], ac_ri] := rfl
theorem pb_X8_move_5 : P_X8_move 5 = [ac_ald 6, ac_ild 2, ac_ild 5, ac_cv n_X2_stand 2 [2], ac_if0 (fun x => decide (x = 0)) 6, ac_ald 7, ac_ild 4, ac_ild 5, ac_cv n_X2_stand 2 [2], ac_if0 (fun x => decide (¬ x = 0)) 7, ac_go 6] := rfl
theorem pb_X8_move_6 : P_X8_move 6 = [ac_ald 0, ac_i (1), ac_cv n_X8_fail 1 [8], ac_ri] := rfl
theorem pb_X8_move_7 : P_X8_move 7 = [ac_ald 6, ac_gr [2] 0, ac_ild 2, ac_ald 7, ac_gr [2] 0, ac_ild 4, ac_ild 5, ac_cp, ac_ild 5, ac_ri] := rfl
theorem en_X8_judge {fb : Bool} {d : Nat} {a0 : Nat} {x1 : Int32} {x2 : Int32} {h : pm_HP} : rs fb (d + 1) n_X8_judge [.ref a0, .int x1, .int x2] h = pm_ev (P_X8_judge) (rs fb d) (P_X8_judge 0) [some (.ref a0), some (.int x1), some (.int x2), none, none, none] [] h := rfl
theorem pb_X8_judge_0 : P_X8_judge 0 = [ac_ald 0, ac_ild 1, ac_cv n_X8_sheetOf 1 [8], ac_ast 3, ac_ald 3, ac_ifn true false 1, ac_ild 2, ac_i (0), ac_i (9999), ac_cs n_X8_isIn 3, ac_if0 (fun x => decide (¬ x = 0)) 2, ac_go 1] := rfl
theorem pb_X8_judge_1 : P_X8_judge 1 = [ac_ald 0, ac_i (1), ac_cv n_X8_fail 1 [8], ac_ri] := rfl
theorem pb_X8_judge_2 : P_X8_judge 2 = [ac_ald 3, ac_cv n_X2_isMissing 0 [2], ac_if0 (fun x => decide (x = 0)) 3, ac_ald 0, ac_i (2), ac_cv n_X8_fail 1 [8], ac_ri] := rfl
theorem pb_X8_judge_3 : P_X8_judge 3 = [ac_ald 0, ac_gr [8] 2, ac_ald 0, ac_gr [8] 0, ac_i (-1), ac_cv n_X7_go 2 [7], ac_i (0), ac_ist 4, ac_go 4] := rfl
theorem pb_X8_judge_4 : P_X8_judge 4 = [ac_ild 4, ac_ald 3, ac_gi [2] 2, ac_if2 (fun x y => decide (y ≤ x)) 7, ac_ild 4, ac_i (1), ac_bin (fun x y => x + y), ac_ist 5, ac_ild 5, ac_ald 0, ac_gr [8] 0, ac_gr [5] 0, ac_cv n_X6_used 0 [6, 3], ac_if2 (fun x y => decide (y < x)) 5, ac_ald 3, ac_ild 4, ac_cv n_X2_number 1 [2], ac_i2l, ac_ald 0, ac_gr [8] 2, ac_ild 5, ac_cv n_X7_sideOf 1 [7], ac_i2l, ac_lbin (fun x y => x - y), ac_ml (fun x => if 0 < x then x else -x), ac_ild 2, ac_i2l, ac_lcmp, ac_if0 (fun x => decide (x ≤ 0)) 6, ac_go 5] := rfl
theorem pb_X8_judge_5 : P_X8_judge 5 = [ac_ild 5, ac_ri] := rfl
theorem pb_X8_judge_6 : P_X8_judge 6 = [ac_inc 4 (1), ac_go 4] := rfl
theorem pb_X8_judge_7 : P_X8_judge 7 = [ac_i (0), ac_ri] := rfl
theorem en_X8_even {fb : Bool} {d : Nat} {a0 : Nat} {x1 : Int32} {x2 : Int32} {h : pm_HP} : rs fb (d + 1) n_X8_even [.ref a0, .int x1, .int x2] h = pm_ev (P_X8_even) (rs fb d) (P_X8_even 0) [some (.ref a0), some (.int x1), some (.int x2), none] [] h := rfl
theorem pb_X8_even_0 : P_X8_even 0 = [ac_ald 0, ac_ild 1, ac_cv n_X8_sheetOf 1 [8], ac_ast 3, ac_ald 3, ac_ifn true false 1, ac_ild 2, ac_i (0), ac_i (1), ac_cs n_X8_isIn 3, ac_if0 (fun x => decide (¬ x = 0)) 2, ac_go 1] := rfl
theorem pb_X8_even_1 : P_X8_even 1 = [ac_ald 0, ac_i (1), ac_cv n_X8_fail 1 [8], ac_ri] := rfl
theorem pb_X8_even_2 : P_X8_even 2 = [ac_ald 3, ac_cv n_X2_isMissing 0 [2], ac_if0 (fun x => decide (x = 0)) 3, ac_ald 0, ac_i (2), ac_cv n_X8_fail 1 [8], ac_ri] := rfl
theorem pb_X8_even_3 : P_X8_even 3 = [ac_ild 2, ac_if0 (fun x => decide (¬ x = 0)) 4, ac_ald 3, ac_cv n_X2_evenSteps 0 [2], ac_ri] := rfl
theorem pb_X8_even_4 : P_X8_even 4 = [ac_ald 3, ac_cv n_X2_longestEvenRow 0 [2], ac_i (3), ac_if2 (fun x y => decide (x < y)) 5, ac_i (1), ac_go 6] := rfl
theorem pb_X8_even_5 : P_X8_even 5 = [ac_i (0), ac_go 6] := rfl
theorem pb_X8_even_6 : P_X8_even 6 = [ac_ri] := rfl
theorem en_X8_image {fb : Bool} {d : Nat} {a0 : Nat} {h : pm_HP} : rs fb (d + 1) n_X8_image [.ref a0] h = pm_ev (P_X8_image) (rs fb d) (P_X8_image 0) [some (.ref a0)] [] h := rfl
theorem pb_X8_image_0 : P_X8_image 0 = [ac_ald 0, ac_gr [8] 1, ac_ald 0, ac_gr [8] 0, ac_cv n_X5_take 1 [5], ac_ald 0, ac_dup, ac_gi [8] 9, ac_i (1), ac_bin (fun x y => x + y), ac_pi [8] 9, ac_ald 0, ac_gi [8] 9, ac_ri] := rfl
theorem en_X8_restore {fb : Bool} {d : Nat} {a0 : Nat} {h : pm_HP} : rs fb (d + 1) n_X8_restore [.ref a0] h = pm_ev (P_X8_restore) (rs fb d) (P_X8_restore 0) [some (.ref a0)] [] h := rfl
theorem pb_X8_restore_0 : P_X8_restore 0 = [ac_ald 0, ac_gi [8] 9, ac_if0 (fun x => decide (¬ x = 0)) 1, ac_ald 0, ac_i (2), ac_cv n_X8_fail 1 [8], ac_ri] := rfl
theorem pb_X8_restore_1 : P_X8_restore 1 = [ac_ald 0, ac_gr [8] 0, ac_ald 0, ac_gr [8] 1, ac_cv n_X5_take 1 [5], ac_ald 0, ac_gr [8] 0, ac_gr [5] 0, ac_cv n_X6_used 0 [6, 3], ac_ri] := rfl
theorem en_X8_tell {fb : Bool} {d : Nat} {a0 : Nat} {x1 : Int32} {h : pm_HP} : rs fb (d + 1) n_X8_tell [.ref a0, .int x1] h = pm_ev (P_X8_tell) (rs fb d) (P_X8_tell 0) [some (.ref a0), some (.int x1)] [] h := rfl
theorem pb_X8_tell_0 : P_X8_tell 0 = [ac_ald 0, ac_gr [8] 0, ac_gr [5] 4, ac_cv n_X6_isFull 0 [6, 3], ac_if0 (fun x => decide (x = 0)) 1, ac_ald 0, ac_i (4), ac_cv n_X8_fail 1 [8], ac_ri] := rfl
theorem pb_X8_tell_1 : P_X8_tell 1 = [ac_ald 0, ac_gr [8] 0, ac_gr [5] 4, ac_ild 1, ac_cv n_X6_add 1 [6, 3], ac_pop, ac_ald 0, ac_gr [8] 0, ac_gr [5] 4, ac_cv n_X6_used 0 [6, 3], ac_ri] := rfl
theorem en_X8_check {fb : Bool} {d : Nat} {a0 : Nat} {h : pm_HP} : rs fb (d + 1) n_X8_check [.ref a0] h = pm_ev (P_X8_check) (rs fb d) (P_X8_check 0) [some (.ref a0), none, none, none] [] h := rfl
theorem pb_X8_check_0 : P_X8_check 0 = [ac_ald 0, ac_gr [8] 2, ac_ald 0, ac_gr [8] 0, ac_i (-1), ac_cv n_X7_go 2 [7], ac_ald 0, ac_gr [8] 0, ac_gr [5] 4, ac_cv n_X6_used 0 [6, 3], ac_ist 1, ac_ald 0, ac_gr [8] 0, ac_gr [5] 0, ac_cv n_X6_used 0 [6, 3], ac_ist 2, ac_ald 0, ac_gr [8] 0, ac_gr [5] 4, ac_i (0), ac_cv n_X6_use 1 [6, 3], ac_i (0), ac_ist 3, ac_go 1] := rfl
theorem pb_X8_check_1 : P_X8_check 1 = [ac_ild 3, ac_ild 1, ac_if2 (fun x y => decide (y ≤ x)) 3, ac_ild 3, ac_ild 2, ac_if2 (fun x y => decide (y ≤ x)) 3, ac_ald 0, ac_gr [8] 0, ac_gr [5] 4, ac_i (0), ac_ild 3, ac_cv n_X6_at 2 [6, 3], ac_ald 0, ac_gr [8] 2, ac_ild 3, ac_i (1), ac_bin (fun x y => x + y), ac_cv n_X7_sideOf 1 [7], ac_if2 (fun x y => decide (x = y)) 2, ac_i (1), ac_ild 3, ac_bin (fun x y => x + y), ac_ri] := rfl
theorem pb_X8_check_2 : P_X8_check 2 = [ac_inc 3 (1), ac_go 1] := rfl
theorem pb_X8_check_3 : P_X8_check 3 = [ac_ild 1, ac_ild 2, ac_if2 (fun x y => decide (¬ x = y)) 4, ac_i (0), ac_go 5] := rfl
theorem pb_X8_check_4 : P_X8_check 4 = [ac_i (1), ac_ild 1, ac_ild 2, ac_m2 (fun x y => if y < x then y else x), ac_bin (fun x y => x + y), ac_go 5] := rfl
theorem pb_X8_check_5 : P_X8_check 5 = [ac_ri] := rfl
theorem en_X8_count {fb : Bool} {d : Nat} {a0 : Nat} {x1 : Int32} {h : pm_HP} : rs fb (d + 1) n_X8_count [.ref a0, .int x1] h = pm_ev (P_X8_count) (rs fb d) (P_X8_count 0) [some (.ref a0), some (.int x1)] [] h := rfl
theorem pb_X8_count_0 : P_X8_count 0 = [ac_ild 1, ac_sw [(0, 1), (1, 2), (2, 3), (3, 4), (4, 5), (5, 6), (6, 7), (7, 8)] 9] := rfl
theorem pb_X8_count_1 : P_X8_count 1 = [ac_ald 0, ac_gr [8] 0, ac_gr [5] 0, ac_cv n_X6_used 0 [6, 3], ac_ri] := rfl
theorem pb_X8_count_2 : P_X8_count 2 = [ac_ald 0, ac_gr [8] 0, ac_gr [5] 1, ac_cv n_X6_used 0 [3], ac_ri] := rfl
theorem pb_X8_count_3 : P_X8_count 3 = [ac_ald 0, ac_gr [8] 0, ac_gr [5] 2, ac_cv n_X6_used 0 [6, 3], ac_ri] := rfl
theorem pb_X8_count_4 : P_X8_count 4 = [ac_ald 0, ac_gr [8] 0, ac_gr [5] 0, ac_i (3), ac_i (1), ac_cv n_X6_howMany 2 [6, 3], ac_ri] := rfl
theorem pb_X8_count_5 : P_X8_count 5 = [ac_ald 0, ac_gr [8] 0, ac_gr [5] 3, ac_cv n_X6_used 0 [6, 3], ac_ri] := rfl
theorem pb_X8_count_6 : P_X8_count 6 = [ac_ald 0, ac_gr [8] 0, ac_gr [5] 4, ac_cv n_X6_used 0 [6, 3], ac_ri] := rfl
theorem pb_X8_count_7 : P_X8_count 7 = [ac_ald 0, ac_gr [8] 4, ac_gr [4] 0, ac_cv n_X6_used 0 [6, 3], ac_ri] := rfl
theorem pb_X8_count_8 : P_X8_count 8 = [ac_ald 0, ac_gr [8] 0, ac_gi [5] 9, ac_ri] := rfl
theorem pb_X8_count_9 : P_X8_count 9 = [ac_ald 0, ac_i (1), ac_cv n_X8_fail 1 [8], ac_ri] := rfl
theorem en_X8_told {fb : Bool} {d : Nat} {a0 : Nat} {x1 : Int32} {h : pm_HP} : rs fb (d + 1) n_X8_told [.ref a0, .int x1] h = pm_ev (P_X8_told) (rs fb d) (P_X8_told 0) [some (.ref a0), some (.int x1)] [] h := rfl
theorem pb_X8_told_0 : P_X8_told 0 = [ac_ild 1, ac_i (1), ac_i (6), ac_cs n_X8_isIn 3, ac_if0 (fun x => decide (x = 0)) 1, ac_ald 0, ac_gr [8] 6, ac_ild 1, ac_ia, ac_go 2] := rfl
theorem pb_X8_told_1 : P_X8_told 1 = [ac_ald 0, ac_i (1), ac_cv n_X8_fail 1 [8], ac_go 2] := rfl
theorem pb_X8_told_2 : P_X8_told 2 = [ac_ri] := rfl
theorem en_X8_fail {fb : Bool} {d : Nat} {a0 : Nat} {x1 : Int32} {h : pm_HP} : rs fb (d + 1) n_X8_fail [.ref a0, .int x1] h = pm_ev (P_X8_fail) (rs fb d) (P_X8_fail 0) [some (.ref a0), some (.int x1)] [] h := rfl
theorem pb_X8_fail_0 : P_X8_fail 0 = [ac_ild 1, ac_i (1), ac_i (6), ac_cs n_X8_isIn 3, ac_if0 (fun x => decide (x = 0)) 1, ac_ald 0, ac_gr [8] 6, ac_ild 1, ac_dup2, ac_ia, ac_i (1), ac_bin (fun x y => x + y), ac_ias, ac_go 1] := rfl
theorem pb_X8_fail_1 : P_X8_fail 1 = [ac_i (-1000000000), ac_ild 1, ac_bin (fun x y => x - y), ac_ri] := rfl
theorem en_X8_lawOf {fb : Bool} {d : Nat} {a0 : Nat} {x1 : Int32} {h : pm_HP} : rs fb (d + 1) n_X8_lawOf [.ref a0, .int x1] h = pm_ev (P_X8_lawOf) (rs fb d) (P_X8_lawOf 0) [some (.ref a0), some (.int x1)] [] h := rfl
theorem pb_X8_lawOf_0 : P_X8_lawOf 0 = [ac_ild 1, ac_if0 (fun x => decide (¬ x = 0)) 1, ac_ald 0, ac_gr [8] 0, ac_gr [5] 5, ac_go 2] := rfl
theorem pb_X8_lawOf_1 : P_X8_lawOf 1 = [ac_ald 0, ac_gr [8] 0, ac_gr [5] 6, ac_go 2] := rfl
theorem pb_X8_lawOf_2 : P_X8_lawOf 2 = [ac_ra] := rfl
theorem en_X8_sheetOf {fb : Bool} {d : Nat} {a0 : Nat} {x1 : Int32} {h : pm_HP} : rs fb (d + 1) n_X8_sheetOf [.ref a0, .int x1] h = pm_ev (P_X8_sheetOf) (rs fb d) (P_X8_sheetOf 0) [some (.ref a0), some (.int x1)] [] h := rfl
theorem pb_X8_sheetOf_0 : P_X8_sheetOf 0 = [ac_ild 1, ac_i (0), ac_i (3), ac_cs n_X8_isIn 3, ac_if0 (fun x => decide (x = 0)) 1, ac_ald 0, ac_gr [8] 5, ac_ild 1, ac_aa, ac_go 2] := rfl
theorem pb_X8_sheetOf_1 : P_X8_sheetOf 1 = [ac_v .null, ac_go 2] := rfl
theorem pb_X8_sheetOf_2 : P_X8_sheetOf 2 = [ac_ra] := rfl
theorem en_X8_movingOf {fb : Bool} {d : Nat} {a0 : Nat} {x1 : Int32} {h : pm_HP} : rs fb (d + 1) n_X8_movingOf [.ref a0, .int x1] h = pm_ev (P_X8_movingOf) (rs fb d) (P_X8_movingOf 0) [some (.ref a0), some (.int x1), none] [] h := rfl
theorem pb_X8_movingOf_0 : P_X8_movingOf 0 = [ac_ald 0, ac_gr [8] 0, ac_gr [5] 0, ac_cv n_X6_used 0 [6, 3], ac_ist 2, ac_ald 0, ac_gr [8] 0, ac_gr [5] 5, ac_cv n_X0_isTold 0 [0], ac_if0 (fun x => decide (¬ x = 0)) 3, ac_ild 2, ac_if0 (fun x => decide (x ≤ 0)) 1, ac_i (100), ac_ild 1, ac_bin (fun x y => x * y), ac_ild 2, ac_dv (fun x y => x / y), ac_go 2] := rfl
theorem pb_X8_movingOf_1 : P_X8_movingOf 1 = [ac_i (0), ac_go 2] := rfl
theorem pb_X8_movingOf_2 : P_X8_movingOf 2 = [ac_ri] := rfl
theorem pb_X8_movingOf_3 : P_X8_movingOf 3 = [ac_ald 0, ac_gr [8] 7, ac_i (0), ac_ild 1, ac_ias, ac_ald 0, ac_gr [8] 7, ac_i (1), ac_ild 2, ac_ias, ac_ald 0, ac_gr [8] 7, ac_i (2), ac_ald 0, ac_gr [8] 2, ac_cv n_X7_missSide 0 [7], ac_ias, ac_ald 0, ac_gr [8] 7, ac_i (3), ac_ald 0, ac_gr [8] 2, ac_cv n_X7_missAlong 0 [7], ac_ias, ac_ald 0, ac_gr [8] 7, ac_i (4), ac_ald 0, ac_gr [8] 0, ac_gr [5] 2, ac_i (0), ac_ild 1, ac_cv n_X6_howMany 2 [6, 3], ac_ias, ac_ald 0, ac_gr [8] 0, ac_gr [5] 5, ac_ald 0, ac_gr [8] 7, ac_ald 0, ac_gr [8] 8, ac_cv n_X0_workedOut 2 [0], ac_i (100), ac_cs n_X8_held 2, ac_ri] := rfl
theorem en_X8_movedBy {fb : Bool} {d : Nat} {a0 : Nat} {x1 : Int32} {x2 : Int32} {h : pm_HP} : rs fb (d + 1) n_X8_movedBy [.ref a0, .int x1, .int x2] h = pm_ev (P_X8_movedBy) (rs fb d) (P_X8_movedBy 0) [some (.ref a0), some (.int x1), some (.int x2)] [] h := rfl
theorem pb_X8_movedBy_0 : P_X8_movedBy 0 = [ac_ild 2, ac_ald 0, ac_ild 1, ac_cv n_X8_movingOf 1 [8], ac_bin (fun x y => x * y), ac_i (100), ac_dv (fun x y => x / y), ac_ri] := rfl
theorem en_X8_isMovedBy {fb : Bool} {d : Nat} {a0 : Nat} {x1 : Int32} {x2 : Int32} {h : pm_HP} : rs fb (d + 1) n_X8_isMovedBy [.ref a0, .int x1, .int x2] h = pm_ev (P_X8_isMovedBy) (rs fb d) (P_X8_isMovedBy 0) [some (.ref a0), some (.int x1), some (.int x2)] [] h := rfl
theorem pb_X8_isMovedBy_0 : P_X8_isMovedBy 0 = [ac_ald 0, ac_ild 1, ac_ald 0, ac_gr [8] 2, ac_cv n_X7_missSide 0 [7], ac_cv n_X8_movedBy 2 [8], ac_m1 (fun x => if 0 ≤ x then x else 0 - x), ac_ild 2, ac_if2 (fun x y => decide (x < y)) 1, ac_i (1), ac_go 2] := rfl
theorem pb_X8_isMovedBy_1 : P_X8_isMovedBy 1 = [ac_i (0), ac_go 2] := rfl
theorem pb_X8_isMovedBy_2 : P_X8_isMovedBy 2 = [ac_rz (fun v => v &&& 1)] := rfl
theorem en_X8_hoursOf {fb : Bool} {d : Nat} {a0 : Nat} {x1 : Int32} {h : pm_HP} : rs fb (d + 1) n_X8_hoursOf [.ref a0, .int x1] h = pm_ev (P_X8_hoursOf) (rs fb d) (P_X8_hoursOf 0) [some (.ref a0), some (.int x1), none, none, none] [] h := rfl
theorem pb_X8_hoursOf_0 : P_X8_hoursOf 0 = [ac_ald 0, ac_gr [8] 0, ac_gr [5] 0, ac_i (1), ac_ild 1, ac_cv n_X6_at 2 [6, 3], ac_ist 2, ac_ald 0, ac_gr [8] 0, ac_gr [5] 0, ac_i (2), ac_ild 1, ac_cv n_X6_at 2 [6, 3], ac_ist 3, ac_ald 0, ac_gr [8] 0, ac_gr [5] 0, ac_i (3), ac_ild 1, ac_cv n_X6_at 2 [6, 3], ac_ist 4, ac_ald 0, ac_gr [8] 0, ac_gr [5] 6, ac_cv n_X0_isTold 0 [0], ac_if0 (fun x => decide (¬ x = 0)) 1, ac_i (8), ac_ild 2, ac_bin (fun x y => x + y), ac_ild 3, ac_i (9), ac_dv (fun x y => x / y), ac_bin (fun x y => x + y), ac_i (3), ac_ild 4, ac_bin (fun x y => x * y), ac_bin (fun x y => x + y), ac_ri] := rfl
theorem pb_X8_hoursOf_1 : P_X8_hoursOf 1 = [ac_ald 0, ac_gr [8] 7, ac_i (0), ac_ild 1, ac_ias, ac_ald 0, ac_gr [8] 7, ac_i (1), ac_ild 2, ac_ias, ac_ald 0, ac_gr [8] 7, ac_i (2), ac_ild 3, ac_ias, ac_ald 0, ac_gr [8] 7, ac_i (3), ac_ild 4, ac_ias, ac_ald 0, ac_gr [8] 0, ac_gr [5] 6, ac_ald 0, ac_gr [8] 7, ac_ald 0, ac_gr [8] 8, ac_cv n_X0_workedOut 2 [0], ac_i (999), ac_cs n_X8_held 2, ac_ri] := rfl
theorem en_X8_held {fb : Bool} {d : Nat} {x0 : Int32} {x1 : Int32} {h : pm_HP} : rs fb (d + 1) n_X8_held [.int x0, .int x1] h = pm_ev (P_X8_held) (rs fb d) (P_X8_held 0) [some (.int x0), some (.int x1)] [] h := rfl
theorem pb_X8_held_0 : P_X8_held 0 = [ac_i (0), ac_ild 0, ac_ild 1, ac_m2 (fun x y => if y < x then y else x), ac_m2 (fun x y => if x < y then y else x), ac_ri] := rfl
theorem en_X8_isIn {fb : Bool} {d : Nat} {x0 : Int32} {x1 : Int32} {x2 : Int32} {h : pm_HP} : rs fb (d + 1) n_X8_isIn [.int x0, .int x1, .int x2] h = pm_ev (P_X8_isIn) (rs fb d) (P_X8_isIn 0) [some (.int x0), some (.int x1), some (.int x2)] [] h := rfl
theorem pb_X8_isIn_0 : P_X8_isIn 0 = [ac_ild 0, ac_ild 1, ac_if2 (fun x y => decide (x < y)) 1, ac_ild 0, ac_ild 2, ac_if2 (fun x y => decide (y < x)) 1, ac_i (1), ac_go 2] := rfl
theorem pb_X8_isIn_1 : P_X8_isIn 1 = [ac_i (0), ac_go 2] := rfl
theorem pb_X8_isIn_2 : P_X8_isIn 2 = [ac_rz (fun v => v &&& 1)] := rfl
theorem en_X8_greatestCommon {fb : Bool} {d : Nat} {x0 : Int64} {x1 : Int64} {h : pm_HP} : rs fb (d + 1) n_X8_greatestCommon [.long x0, .long x1] h = pm_ev (P_X8_greatestCommon) (rs fb d) (P_X8_greatestCommon 0) [some (.long x0), none, some (.long x1), none, none, none, none, none, none, none, none] [] h := rfl
theorem pb_X8_greatestCommon_0 : P_X8_greatestCommon 0 = [ac_lld 0, ac_lst 4, ac_lld 2, ac_lst 6, ac_i (0), ac_ist 8, ac_go 1] := rfl
theorem pb_X8_greatestCommon_1 : P_X8_greatestCommon 1 = [ac_ild 8, ac_i (100), ac_if2 (fun x y => decide (y ≤ x)) 2, ac_lld 6, ac_l (0), ac_lcmp, ac_if0 (fun x => decide (x = 0)) 2, ac_lld 4, ac_lld 6, ac_ldv (fun x y => x - x / y * y), ac_lst 9, ac_lld 6, ac_lst 4, ac_lld 9, ac_lst 6, ac_inc 8 (1), ac_go 1] := rfl
theorem pb_X8_greatestCommon_2 : P_X8_greatestCommon 2 = [ac_lld 4, ac_rl] := rfl
theorem en_X9_finding {fb : Bool} {d : Nat} {a0 : Nat} {x1 : Int32} {h : pm_HP} : rs fb (d + 1) n_X9_finding [.ref a0, .int x1] h = pm_ev (P_X9_finding) (rs fb d) (P_X9_finding 0) [some (.ref a0), some (.int x1)] [] h := rfl
theorem pb_X9_finding_0 : P_X9_finding 0 = [ac_ald 0, ac_gr [9] 3, ac_i (-1000000000), ac_ild 1, ac_bin (fun x y => x - y), ac_dup2, ac_ia, ac_i (1), ac_bin (fun x y => x + y), ac_ias, ac_ild 1, ac_ri] := rfl
theorem en_X9_isIn {fb : Bool} {d : Nat} {x0 : Int32} {x1 : Int32} {x2 : Int32} {h : pm_HP} : rs fb (d + 1) n_X9_isIn [.int x0, .int x1, .int x2] h = pm_ev (P_X9_isIn) (rs fb d) (P_X9_isIn 0) [some (.int x0), some (.int x1), some (.int x2)] [] h := rfl
theorem pb_X9_isIn_0 : P_X9_isIn 0 = [ac_ild 0, ac_ild 1, ac_if2 (fun x y => decide (x < y)) 1, ac_ild 0, ac_ild 2, ac_if2 (fun x y => decide (y < x)) 1, ac_i (1), ac_go 2] := rfl
theorem pb_X9_isIn_1 : P_X9_isIn 1 = [ac_i (0), ac_go 2] := rfl
theorem pb_X9_isIn_2 : P_X9_isIn 2 = [ac_rz (fun v => v &&& 1)] := rfl
theorem en_X9_held {fb : Bool} {d : Nat} {x0 : Int32} {x1 : Int32} {x2 : Int32} {h : pm_HP} : rs fb (d + 1) n_X9_held [.int x0, .int x1, .int x2] h = pm_ev (P_X9_held) (rs fb d) (P_X9_held 0) [some (.int x0), some (.int x1), some (.int x2)] [] h := rfl
theorem pb_X9_held_0 : P_X9_held 0 = [ac_ild 1, ac_ild 2, ac_ild 0, ac_m2 (fun x y => if y < x then y else x), ac_m2 (fun x y => if x < y then y else x), ac_ri] := rfl
theorem en_X9_copy {fb : Bool} {d : Nat} {x0 : Nat} {x1 : Nat} {h : pm_HP} : rs fb (d + 1) n_X9_copy [.ref x0, .ref x1] h = pm_ev (P_X9_copy) (rs fb d) (P_X9_copy 0) [some (.ref x0), some (.ref x1), none] [] h := rfl
theorem pb_X9_copy_0 : P_X9_copy 0 = [ac_i (0), ac_ist 2, ac_go 1] := rfl
theorem pb_X9_copy_1 : P_X9_copy 1 = [ac_ild 2, ac_i (440), ac_if2 (fun x y => decide (y ≤ x)) 2, ac_ald 1, ac_ild 2, ac_ald 0, ac_ild 2, ac_ia, ac_ias, ac_inc 2 (1), ac_go 1] := rfl
theorem pb_X9_copy_2 : P_X9_copy 2 = [ac_rv] := rfl
theorem en_X9_become {fb : Bool} {d : Nat} {a0 : Nat} {x1 : Int32} {x2 : Int32} {h : pm_HP} : rs fb (d + 1) n_X9_become [.ref a0, .int x1, .int x2] h = pm_ev (P_X9_become) (rs fb d) (P_X9_become 0) [some (.ref a0), some (.int x1), some (.int x2), none] [] h := rfl
theorem pb_X9_become_0 : P_X9_become 0 = [ac_ald 0, ac_gr [9] 0, ac_ild 1, ac_ia, ac_ist 3, ac_ald 0, ac_gr [9] 0, ac_ild 1, ac_ild 2, ac_ias, ac_ild 3, ac_ri] := rfl
theorem en_X9_is {fb : Bool} {d : Nat} {a0 : Nat} {x1 : Int32} {x2 : Int32} {h : pm_HP} : rs fb (d + 1) n_X9_is [.ref a0, .int x1, .int x2] h = pm_ev (P_X9_is) (rs fb d) (P_X9_is 0) [some (.ref a0), some (.int x1), some (.int x2)] [] h := rfl
theorem pb_X9_is_0 : P_X9_is 0 = [ac_ild 1, ac_i (0), ac_ald 0, ac_gr [9] 0, ac_ild 2, ac_ia, ac_i (1), ac_bin (fun x y => x - y), ac_cs n_X9_isIn 3, ac_rz (fun v => v &&& 1)] := rfl
theorem en_X9_isMile {fb : Bool} {d : Nat} {x0 : Int32} {h : pm_HP} : rs fb (d + 1) n_X9_isMile [.int x0] h = pm_ev (P_X9_isMile) (rs fb d) (P_X9_isMile 0) [some (.int x0)] [] h := rfl
theorem pb_X9_isMile_0 : P_X9_isMile 0 = [ac_ild 0, ac_i (0), ac_i (23), ac_cs n_X9_isIn 3, ac_rz (fun v => v &&& 1)] := rfl
theorem en_X9_mileOf {fb : Bool} {d : Nat} {a0 : Nat} {x1 : Int32} {x2 : Int32} {h : pm_HP} : rs fb (d + 1) n_X9_mileOf [.ref a0, .int x1, .int x2] h = pm_ev (P_X9_mileOf) (rs fb d) (P_X9_mileOf 0) [some (.ref a0), some (.int x1), some (.int x2)] [] h := rfl
theorem pb_X9_mileOf_0 : P_X9_mileOf 0 = [ac_ald 0, ac_gr [9] 0, ac_i (8), ac_i (5), ac_ild 1, ac_bin (fun x y => x * y), ac_bin (fun x y => x + y), ac_ild 2, ac_bin (fun x y => x + y), ac_ia, ac_ri] := rfl
theorem en_X9_miles {fb : Bool} {d : Nat} {a0 : Nat} {x1 : Int32} {h : pm_HP} : rs fb (d + 1) n_X9_miles [.ref a0, .int x1] h = pm_ev (P_X9_miles) (rs fb d) (P_X9_miles 0) [some (.ref a0), some (.int x1)] [] h := rfl
theorem pb_X9_miles_0 : P_X9_miles 0 = [ac_ild 1, ac_i (1), ac_i (24), ac_cs n_X9_isIn 3, ac_if0 (fun x => decide (x = 0)) 1, ac_ald 0, ac_i (0), ac_ild 1, ac_cv n_X9_become 2 [9], ac_go 2] := rfl
theorem pb_X9_miles_1 : P_X9_miles 1 = [ac_ald 0, ac_i (-1000000001), ac_cv n_X9_finding 1 [9], ac_go 2] := rfl
theorem pb_X9_miles_2 : P_X9_miles 2 = [ac_ri] := rfl
theorem en_X9_mile {fb : Bool} {d : Nat} {a0 : Nat} {x1 : Int32} {x2 : Int32} {x3 : Int32} {h : pm_HP} : rs fb (d + 1) n_X9_mile [.ref a0, .int x1, .int x2, .int x3] h = pm_ev (P_X9_mile) (rs fb d) (P_X9_mile 0) [some (.ref a0), some (.int x1), some (.int x2), some (.int x3), none] [] h := rfl
theorem pb_X9_mile_0 : P_X9_mile 0 = [ac_ild 1, ac_cs n_X9_isMile 1, ac_ist 4, ac_ild 2, ac_sw [(0, 1), (1, 4), (2, 7), (3, 10)] 13] := rfl
theorem pb_X9_mile_1 : P_X9_mile 1 = [ac_ild 4, ac_if0 (fun x => decide (x = 0)) 2, ac_ild 3, ac_i (-99), ac_i (99), ac_cs n_X9_isIn 3, ac_if0 (fun x => decide (x = 0)) 2, ac_i (1), ac_go 3] := rfl
theorem pb_X9_mile_2 : P_X9_mile 2 = [ac_i (0), ac_go 3] := rfl
theorem pb_X9_mile_3 : P_X9_mile 3 = [ac_ist 4, ac_go 14] := rfl
theorem pb_X9_mile_4 : P_X9_mile 4 = [ac_ild 4, ac_if0 (fun x => decide (x = 0)) 5, ac_ild 3, ac_i (0), ac_i (9), ac_cs n_X9_isIn 3, ac_if0 (fun x => decide (x = 0)) 5, ac_i (1), ac_go 6] := rfl
theorem pb_X9_mile_5 : P_X9_mile 5 = [ac_i (0), ac_go 6] := rfl
theorem pb_X9_mile_6 : P_X9_mile 6 = [ac_ist 4, ac_go 14] := rfl
theorem pb_X9_mile_7 : P_X9_mile 7 = [ac_ild 4, ac_if0 (fun x => decide (x = 0)) 8, ac_ild 3, ac_i (0), ac_i (99), ac_cs n_X9_isIn 3, ac_if0 (fun x => decide (x = 0)) 8, ac_i (1), ac_go 9] := rfl
theorem pb_X9_mile_8 : P_X9_mile 8 = [ac_i (0), ac_go 9] := rfl
theorem pb_X9_mile_9 : P_X9_mile 9 = [ac_ist 4, ac_go 14] := rfl
theorem pb_X9_mile_10 : P_X9_mile 10 = [ac_ild 4, ac_if0 (fun x => decide (x = 0)) 11, ac_ild 3, ac_i (0), ac_i (1), ac_cs n_X9_isIn 3, ac_if0 (fun x => decide (x = 0)) 11, ac_i (1), ac_go 12] := rfl
theorem pb_X9_mile_11 : P_X9_mile 11 = [ac_i (0), ac_go 12] := rfl
theorem pb_X9_mile_12 : P_X9_mile 12 = [ac_ist 4, ac_go 14] := rfl
theorem pb_X9_mile_13 : P_X9_mile 13 = [ac_i (0), ac_ist 4, ac_go 14] := rfl
theorem pb_X9_mile_14 : P_X9_mile 14 = [ac_ild 4, ac_if0 (fun x => decide (x = 0)) 15, ac_ald 0, ac_i (8), ac_i (5), ac_ild 1, ac_bin (fun x y => x * y), ac_bin (fun x y => x + y), ac_ild 2, ac_bin (fun x y => x + y), ac_ild 3, ac_cv n_X9_become 2 [9], ac_go 16] := rfl
theorem pb_X9_mile_15 : P_X9_mile 15 = [ac_ald 0, ac_i (-1000000001), ac_cv n_X9_finding 1 [9], ac_go 16] := rfl
theorem pb_X9_mile_16 : P_X9_mile 16 = [ac_ri] := rfl
theorem en_X9_stone {fb : Bool} {d : Nat} {a0 : Nat} {x1 : Int32} {x2 : Int32} {h : pm_HP} : rs fb (d + 1) n_X9_stone [.ref a0, .int x1, .int x2] h = pm_ev (P_X9_stone) (rs fb d) (P_X9_stone 0) [some (.ref a0), some (.int x1), some (.int x2)] [] h := rfl
theorem pb_X9_stone_0 : P_X9_stone 0 = [ac_ild 1, ac_i (-9999), ac_i (9999), ac_cs n_X9_isIn 3, ac_if0 (fun x => decide (x = 0)) 1, ac_ild 2, ac_i (0), ac_i (99999), ac_cs n_X9_isIn 3, ac_if0 (fun x => decide (¬ x = 0)) 2, ac_go 1] := rfl
theorem pb_X9_stone_1 : P_X9_stone 1 = [ac_ald 0, ac_i (-1000000001), ac_cv n_X9_finding 1 [9], ac_ri] := rfl
theorem pb_X9_stone_2 : P_X9_stone 2 = [ac_ald 0, ac_gr [9] 0, ac_i (6), ac_ild 1, ac_ias, ac_ald 0, ac_gr [9] 0, ac_i (7), ac_ild 2, ac_ias, ac_i (1), ac_ri] := rfl
theorem en_X9_slipOf {fb : Bool} {d : Nat} {a0 : Nat} {x1 : Int32} {x2 : Int32} {h : pm_HP} : rs fb (d + 1) n_X9_slipOf [.ref a0, .int x1, .int x2] h = pm_ev (P_X9_slipOf) (rs fb d) (P_X9_slipOf 0) [some (.ref a0), some (.int x1), some (.int x2)] [] h := rfl
theorem pb_X9_slipOf_0 : P_X9_slipOf 0 = [ac_ald 0, ac_gr [9] 0, ac_i (128), ac_i (5), ac_ild 1, ac_bin (fun x y => x * y), ac_bin (fun x y => x + y), ac_ild 2, ac_bin (fun x y => x + y), ac_ia, ac_ri] := rfl
theorem en_X9_slip {fb : Bool} {d : Nat} {a0 : Nat} {x1 : Int32} {x2 : Int32} {x3 : Int32} {h : pm_HP} : rs fb (d + 1) n_X9_slip [.ref a0, .int x1, .int x2, .int x3] h = pm_ev (P_X9_slip) (rs fb d) (P_X9_slip 0) [some (.ref a0), some (.int x1), some (.int x2), some (.int x3), none, none] [] h := rfl
theorem pb_X9_slip_0 : P_X9_slip 0 = [ac_ild 1, ac_i (0), ac_i (6), ac_cs n_X9_isIn 3, ac_if0 (fun x => decide (x = 0)) 1, ac_ild 2, ac_if0 (fun x => decide (x < 0)) 1, ac_ild 2, ac_i (100), ac_dv (fun x y => x / y), ac_cs n_X9_isMile 1, ac_if0 (fun x => decide (x = 0)) 1, ac_ild 2, ac_i (100), ac_dv (fun x y => x - x / y * y), ac_cs n_X9_isMile 1, ac_if0 (fun x => decide (x = 0)) 1, ac_ild 2, ac_i (100), ac_dv (fun x y => x - x / y * y), ac_ild 2, ac_i (100), ac_dv (fun x y => x / y), ac_if2 (fun x y => decide (x < y)) 1, ac_ild 3, ac_i (-99), ac_i (99), ac_cs n_X9_isIn 3, ac_if0 (fun x => decide (¬ x = 0)) 2, ac_go 1] := rfl
theorem pb_X9_slip_1 : P_X9_slip 1 = [ac_ald 0, ac_i (-1000000001), ac_cv n_X9_finding 1 [9], ac_ri] := rfl
theorem pb_X9_slip_2 : P_X9_slip 2 = [ac_ald 0, ac_gr [9] 0, ac_i (1), ac_ia, ac_ist 4, ac_ild 4, ac_i (8), ac_if2 (fun x y => decide (¬ x = y)) 3, ac_ald 0, ac_i (-1000000004), ac_cv n_X9_finding 1 [9], ac_ri] := rfl
theorem pb_X9_slip_3 : P_X9_slip 3 = [ac_i (128), ac_i (5), ac_ild 4, ac_bin (fun x y => x * y), ac_bin (fun x y => x + y), ac_ist 5, ac_ald 0, ac_gr [9] 0, ac_ild 5, ac_i (0), ac_bin (fun x y => x + y), ac_ild 1, ac_ias, ac_ald 0, ac_gr [9] 0, ac_ild 5, ac_i (1), ac_bin (fun x y => x + y), ac_ild 2, ac_i (100), ac_dv (fun x y => x / y), ac_ias, ac_ald 0, ac_gr [9] 0, ac_ild 5, ac_i (2), ac_bin (fun x y => x + y), ac_ild 2, ac_i (100), ac_dv (fun x y => x - x / y * y), ac_ias, ac_ald 0, ac_gr [9] 0, ac_ild 5, ac_i (3), ac_bin (fun x y => x + y), ac_ild 3, ac_ias, ac_ald 0, ac_gr [9] 0, ac_ild 5, ac_i (4), ac_bin (fun x y => x + y), ac_i (1), ac_ias, ac_ald 0, ac_gr [9] 0, ac_i (1), ac_dup2, ac_ia, ac_i (1), ac_bin (fun x y => x + y), ac_ias, ac_ild 4, ac_ri] := rfl
theorem en_X9_slipIs {fb : Bool} {d : Nat} {a0 : Nat} {x1 : Int32} {x2 : Int32} {h : pm_HP} : rs fb (d + 1) n_X9_slipIs [.ref a0, .int x1, .int x2] h = pm_ev (P_X9_slipIs) (rs fb d) (P_X9_slipIs 0) [some (.ref a0), some (.int x1), some (.int x2)] [] h := rfl
theorem pb_X9_slipIs_0 : P_X9_slipIs 0 = [ac_ald 0, ac_ild 1, ac_i (1), ac_cv n_X9_is 2 [9], ac_if0 (fun x => decide (x = 0)) 1, ac_ild 2, ac_i (0), ac_i (4), ac_cs n_X9_isIn 3, ac_if0 (fun x => decide (x = 0)) 1, ac_ald 0, ac_ild 1, ac_ild 2, ac_cv n_X9_slipOf 2 [9], ac_go 2] := rfl
theorem pb_X9_slipIs_1 : P_X9_slipIs 1 = [ac_ald 0, ac_i (-1000000001), ac_cv n_X9_finding 1 [9], ac_go 2] := rfl
theorem pb_X9_slipIs_2 : P_X9_slipIs 2 = [ac_ri] := rfl
theorem en_X9_above {fb : Bool} {d : Nat} {x0 : Int32} {h : pm_HP} : rs fb (d + 1) n_X9_above [.int x0] h = pm_ev (P_X9_above) (rs fb d) (P_X9_above 0) [some (.int x0)] [] h := rfl
theorem pb_X9_above_0 : P_X9_above 0 = [ac_ild 0, ac_if0 (fun x => decide (¬ x = 0)) 1, ac_i (-1), ac_go 5] := rfl
theorem pb_X9_above_1 : P_X9_above 1 = [ac_ild 0, ac_i (3), ac_if2 (fun x y => decide (¬ x = y)) 2, ac_i (2), ac_go 5] := rfl
theorem pb_X9_above_2 : P_X9_above 2 = [ac_ild 0, ac_i (4), ac_if2 (fun x y => decide (¬ x = y)) 3, ac_i (1), ac_go 5] := rfl
theorem pb_X9_above_3 : P_X9_above 3 = [ac_ild 0, ac_i (6), ac_if2 (fun x y => decide (¬ x = y)) 4, ac_i (5), ac_go 5] := rfl
theorem pb_X9_above_4 : P_X9_above 4 = [ac_i (0), ac_go 5] := rfl
theorem pb_X9_above_5 : P_X9_above 5 = [ac_ri] := rfl
theorem en_X9_as {fb : Bool} {d : Nat} {a0 : Nat} {x1 : Int32} {x2 : Int32} {h : pm_HP} : rs fb (d + 1) n_X9_as [.ref a0, .int x1, .int x2] h = pm_ev (P_X9_as) (rs fb d) (P_X9_as 0) [some (.ref a0), some (.int x1), some (.int x2), none] [] h := rfl
theorem pb_X9_as_0 : P_X9_as 0 = [ac_ald 0, ac_ild 1, ac_i (1), ac_cv n_X9_is 2 [9], ac_if0 (fun x => decide (x = 0)) 1, ac_ild 2, ac_i (0), ac_i (6), ac_cs n_X9_isIn 3, ac_if0 (fun x => decide (¬ x = 0)) 2, ac_go 1] := rfl
theorem pb_X9_as_1 : P_X9_as 1 = [ac_ald 0, ac_i (-1000000001), ac_cv n_X9_finding 1 [9], ac_ri] := rfl
theorem pb_X9_as_2 : P_X9_as 2 = [ac_ald 0, ac_ild 1, ac_i (0), ac_cv n_X9_slipOf 2 [9], ac_ist 3, ac_go 3] := rfl
theorem pb_X9_as_3 : P_X9_as 3 = [ac_ild 3, ac_if0 (fun x => decide (x < 0)) 4, ac_ild 3, ac_ild 2, ac_if2 (fun x y => decide (x = y)) 4, ac_ild 3, ac_cs n_X9_above 1, ac_ist 3, ac_go 3] := rfl
theorem pb_X9_as_4 : P_X9_as 4 = [ac_ild 3, ac_if0 (fun x => decide (0 ≤ x)) 5, ac_ald 0, ac_i (-1000000005), ac_cv n_X9_finding 1 [9], ac_go 6] := rfl
theorem pb_X9_as_5 : P_X9_as 5 = [ac_ald 0, ac_ild 1, ac_i (3), ac_cv n_X9_slipOf 2 [9], ac_go 6] := rfl
theorem pb_X9_as_6 : P_X9_as 6 = [ac_ri] := rfl
theorem en_X9_turn {fb : Bool} {d : Nat} {a0 : Nat} {x1 : Int32} {x2 : Int32} {h : pm_HP} : rs fb (d + 1) n_X9_turn [.ref a0, .int x1, .int x2] h = pm_ev (P_X9_turn) (rs fb d) (P_X9_turn 0) [some (.ref a0), some (.int x1), some (.int x2)] [] h := rfl
theorem pb_X9_turn_0 : P_X9_turn 0 = [ac_ald 0, ac_ild 1, ac_i (1), ac_cv n_X9_is 2 [9], ac_if0 (fun x => decide (x = 0)) 1, ac_ild 2, ac_i (0), ac_i (1), ac_cs n_X9_isIn 3, ac_if0 (fun x => decide (x = 0)) 1, ac_ald 0, ac_i (128), ac_i (5), ac_ild 1, ac_bin (fun x y => x * y), ac_bin (fun x y => x + y), ac_i (4), ac_bin (fun x y => x + y), ac_ild 2, ac_cv n_X9_become 2 [9], ac_go 2] := rfl
theorem pb_X9_turn_1 : P_X9_turn 1 = [ac_ald 0, ac_i (-1000000001), ac_cv n_X9_finding 1 [9], ac_go 2] := rfl
theorem pb_X9_turn_2 : P_X9_turn 2 = [ac_ri] := rfl
theorem en_X9_doesAt {fb : Bool} {d : Nat} {a0 : Nat} {x1 : Int32} {x2 : Int32} {x3 : Int32} {h : pm_HP} : rs fb (d + 1) n_X9_doesAt [.ref a0, .int x1, .int x2, .int x3] h = pm_ev (P_X9_doesAt) (rs fb d) (P_X9_doesAt 0) [some (.ref a0), some (.int x1), some (.int x2), some (.int x3), none, none, none, none] [] h := rfl
theorem pb_X9_doesAt_0 : P_X9_doesAt 0 = [ac_ild 2, ac_ald 0, ac_ild 1, ac_i (1), ac_cv n_X9_slipOf 2 [9], ac_ald 0, ac_ild 1, ac_i (2), ac_cv n_X9_slipOf 2 [9], ac_cs n_X9_isIn 3, ac_if0 (fun x => decide (¬ x = 0)) 1, ac_i (0), ac_ri] := rfl
theorem pb_X9_doesAt_1 : P_X9_doesAt 1 = [ac_ald 0, ac_ild 1, ac_i (3), ac_cv n_X9_slipOf 2 [9], ac_ist 4, ac_ild 2, ac_ald 0, ac_ild 1, ac_i (1), ac_cv n_X9_slipOf 2 [9], ac_if2 (fun x y => decide (¬ x = y)) 2, ac_i (1), ac_go 3] := rfl
theorem pb_X9_doesAt_2 : P_X9_doesAt 2 = [ac_i (0), ac_go 3] := rfl
theorem pb_X9_doesAt_3 : P_X9_doesAt 3 = [ac_ist 5, ac_ald 0, ac_ild 2, ac_i (2), ac_cv n_X9_mileOf 2 [9], ac_if0 (fun x => decide (x ≤ 0)) 4, ac_i (1), ac_go 5] := rfl
theorem pb_X9_doesAt_4 : P_X9_doesAt 4 = [ac_i (0), ac_go 5] := rfl
theorem pb_X9_doesAt_5 : P_X9_doesAt 5 = [ac_ist 6, ac_ild 4, ac_ald 0, ac_ild 2, ac_i (1), ac_cv n_X9_mileOf 2 [9], ac_i (1), ac_bin (fun x y => x + y), ac_bin (fun x y => x * y), ac_ist 7, ac_ald 0, ac_ild 1, ac_i (0), ac_cv n_X9_slipOf 2 [9], ac_sw [(1, 6), (2, 12), (3, 15), (4, 9), (5, 20), (6, 23)] 27] := rfl
theorem pb_X9_doesAt_6 : P_X9_doesAt 6 = [ac_ild 3, ac_if0 (fun x => decide (¬ x = 0)) 7, ac_ild 5, ac_if0 (fun x => decide (x = 0)) 7, ac_ild 4, ac_go 8] := rfl
theorem pb_X9_doesAt_7 : P_X9_doesAt 7 = [ac_i (0), ac_go 8] := rfl
theorem pb_X9_doesAt_8 : P_X9_doesAt 8 = [ac_ri] := rfl
theorem pb_X9_doesAt_9 : P_X9_doesAt 9 = [ac_ild 3, ac_if0 (fun x => decide (¬ x = 0)) 10, ac_ild 4, ac_go 11] := rfl
theorem pb_X9_doesAt_10 : P_X9_doesAt 10 = [ac_i (0), ac_go 11] := rfl
theorem pb_X9_doesAt_11 : P_X9_doesAt 11 = [ac_ri] := rfl
theorem pb_X9_doesAt_12 : P_X9_doesAt 12 = [ac_ild 3, ac_i (2), ac_if2 (fun x y => decide (¬ x = y)) 13, ac_ild 7, ac_go 14] := rfl
theorem pb_X9_doesAt_13 : P_X9_doesAt 13 = [ac_i (0), ac_go 14] := rfl
theorem pb_X9_doesAt_14 : P_X9_doesAt 14 = [ac_ri] := rfl
theorem pb_X9_doesAt_15 : P_X9_doesAt 15 = [ac_ild 3, ac_i (2), ac_if2 (fun x y => decide (¬ x = y)) 18, ac_ild 7, ac_ild 5, ac_if0 (fun x => decide (x = 0)) 16, ac_i (66), ac_go 17] := rfl
theorem pb_X9_doesAt_16 : P_X9_doesAt 16 = [ac_i (0), ac_go 17] := rfl
theorem pb_X9_doesAt_17 : P_X9_doesAt 17 = [ac_bin (fun x y => x + y), ac_go 19] := rfl
theorem pb_X9_doesAt_18 : P_X9_doesAt 18 = [ac_i (0), ac_go 19] := rfl
theorem pb_X9_doesAt_19 : P_X9_doesAt 19 = [ac_ri] := rfl
theorem pb_X9_doesAt_20 : P_X9_doesAt 20 = [ac_ild 3, ac_i (1), ac_if2 (fun x y => decide (¬ x = y)) 21, ac_ild 6, ac_if0 (fun x => decide (x = 0)) 21, ac_ild 4, ac_go 22] := rfl
theorem pb_X9_doesAt_21 : P_X9_doesAt 21 = [ac_i (0), ac_go 22] := rfl
theorem pb_X9_doesAt_22 : P_X9_doesAt 22 = [ac_ri] := rfl
theorem pb_X9_doesAt_23 : P_X9_doesAt 23 = [ac_ild 3, ac_i (2), ac_if2 (fun x y => decide (¬ x = y)) 24, ac_i (2), ac_ild 4, ac_bin (fun x y => x * y), ac_go 26] := rfl
theorem pb_X9_doesAt_24 : P_X9_doesAt 24 = [ac_ild 3, ac_i (1), ac_if2 (fun x y => decide (¬ x = y)) 25, ac_ild 6, ac_if0 (fun x => decide (x = 0)) 25, ac_ild 4, ac_i (2), ac_dv (fun x y => x / y), ac_go 26] := rfl
theorem pb_X9_doesAt_25 : P_X9_doesAt 25 = [ac_i (0), ac_go 26] := rfl
theorem pb_X9_doesAt_26 : P_X9_doesAt 26 = [ac_ri] := rfl
theorem pb_X9_doesAt_27 : P_X9_doesAt 27 = [ac_i (0), ac_ri] := rfl
theorem en_X9_does {fb : Bool} {d : Nat} {a0 : Nat} {x1 : Int32} {x2 : Int32} {x3 : Int32} {h : pm_HP} : rs fb (d + 1) n_X9_does [.ref a0, .int x1, .int x2, .int x3] h = pm_ev (P_X9_does) (rs fb d) (P_X9_does 0) [some (.ref a0), some (.int x1), some (.int x2), some (.int x3)] [] h := rfl
theorem pb_X9_does_0 : P_X9_does 0 = [ac_ald 0, ac_ild 1, ac_i (1), ac_cv n_X9_is 2 [9], ac_if0 (fun x => decide (x = 0)) 1, ac_ild 2, ac_cs n_X9_isMile 1, ac_if0 (fun x => decide (x = 0)) 1, ac_ild 3, ac_i (0), ac_i (2), ac_cs n_X9_isIn 3, ac_if0 (fun x => decide (x = 0)) 1, ac_ald 0, ac_ild 1, ac_ild 2, ac_ild 3, ac_cv n_X9_doesAt 3 [9], ac_go 2] := rfl
theorem pb_X9_does_1 : P_X9_does 1 = [ac_ald 0, ac_i (-1000000001), ac_cv n_X9_finding 1 [9], ac_go 2] := rfl
theorem pb_X9_does_2 : P_X9_does 2 = [ac_ri] := rfl
theorem en_X9_allThat {fb : Bool} {d : Nat} {a0 : Nat} {x1 : Int32} {x2 : Int32} {h : pm_HP} : rs fb (d + 1) n_X9_allThat [.ref a0, .int x1, .int x2] h = pm_ev (P_X9_allThat) (rs fb d) (P_X9_allThat 0) [some (.ref a0), some (.int x1), some (.int x2), none, none] [] h := rfl
theorem pb_X9_allThat_0 : P_X9_allThat 0 = [ac_i (0), ac_ist 3, ac_i (0), ac_ist 4, ac_go 1] := rfl
theorem pb_X9_allThat_1 : P_X9_allThat 1 = [ac_ild 4, ac_ald 0, ac_gr [9] 0, ac_i (1), ac_ia, ac_if2 (fun x y => decide (y ≤ x)) 4, ac_ild 3, ac_ald 0, ac_ild 4, ac_i (4), ac_cv n_X9_slipOf 2 [9], ac_i (1), ac_if2 (fun x y => decide (¬ x = y)) 2, ac_ald 0, ac_ild 4, ac_ild 1, ac_ild 2, ac_cv n_X9_doesAt 3 [9], ac_go 3] := rfl
theorem pb_X9_allThat_2 : P_X9_allThat 2 = [ac_i (0), ac_go 3] := rfl
theorem pb_X9_allThat_3 : P_X9_allThat 3 = [ac_bin (fun x y => x + y), ac_ist 3, ac_inc 4 (1), ac_go 1] := rfl
theorem pb_X9_allThat_4 : P_X9_allThat 4 = [ac_ild 3, ac_ri] := rfl
theorem en_X9_goes {fb : Bool} {d : Nat} {a0 : Nat} {h : pm_HP} : rs fb (d + 1) n_X9_goes [.ref a0] h = pm_ev (P_X9_goes) (rs fb d) (P_X9_goes 0) [some (.ref a0), none, none] [] h := rfl
theorem pb_X9_goes_0 : P_X9_goes 0 = [ac_i (0), ac_ist 1, ac_i (0), ac_ist 2, ac_go 1] := rfl
theorem pb_X9_goes_1 : P_X9_goes 1 = [ac_ild 2, ac_ald 0, ac_gr [9] 0, ac_i (0), ac_ia, ac_if2 (fun x y => decide (y ≤ x)) 4, ac_ald 0, ac_ild 2, ac_i (3), ac_cv n_X9_mileOf 2 [9], ac_i (1), ac_if2 (fun x y => decide (¬ x = y)) 2, ac_i (0), ac_go 3] := rfl
theorem pb_X9_goes_2 : P_X9_goes 2 = [ac_ild 1, ac_go 3] := rfl
theorem pb_X9_goes_3 : P_X9_goes 3 = [ac_ald 0, ac_ild 2, ac_i (0), ac_cv n_X9_allThat 2 [9], ac_bin (fun x y => x + y), ac_ist 1, ac_ald 0, ac_gr [9] 6, ac_ild 2, ac_ild 1, ac_ias, ac_ald 0, ac_gr [9] 4, ac_ild 2, ac_i (1), ac_bin (fun x y => x + y), ac_ald 0, ac_gr [9] 4, ac_ild 2, ac_ia, ac_ild 1, ac_bin (fun x y => x + y), ac_ald 0, ac_ild 2, ac_i (0), ac_cv n_X9_mileOf 2 [9], ac_bin (fun x y => x + y), ac_ald 0, ac_ild 2, ac_i (1), ac_cv n_X9_allThat 2 [9], ac_bin (fun x y => x + y), ac_ald 0, ac_ild 2, ac_i (4), ac_cv n_X9_mileOf 2 [9], ac_bin (fun x y => x + y), ac_ias, ac_ald 0, ac_gr [9] 5, ac_ild 2, ac_i (1), ac_bin (fun x y => x + y), ac_ald 0, ac_gr [9] 5, ac_ild 2, ac_ia, ac_i (1760), ac_bin (fun x y => x + y), ac_i (3), ac_ald 0, ac_ild 2, ac_i (1), ac_cv n_X9_mileOf 2 [9], ac_bin (fun x y => x * y), ac_bin (fun x y => x - y), ac_ald 0, ac_ild 2, ac_i (2), ac_cv n_X9_allThat 2 [9], ac_bin (fun x y => x - y), ac_ias, ac_inc 2 (1), ac_go 1] := rfl
theorem pb_X9_goes_4 : P_X9_goes 4 = [ac_rv] := rfl
theorem en_X9_missIn {fb : Bool} {d : Nat} {a0 : Nat} {x1 : Int32} {h : pm_HP} : rs fb (d + 1) n_X9_missIn [.ref a0, .int x1] h = pm_ev (P_X9_missIn) (rs fb d) (P_X9_missIn 0) [some (.ref a0), some (.int x1), none, none, none] [] h := rfl
theorem pb_X9_missIn_0 : P_X9_missIn 0 = [ac_ald 0, ac_gr [9] 0, ac_i (0), ac_ia, ac_ist 2, ac_ald 0, ac_gr [9] 4, ac_ild 2, ac_ia, ac_ald 0, ac_gr [9] 0, ac_i (6), ac_ia, ac_bin (fun x y => x - y), ac_ist 3, ac_ald 0, ac_gr [9] 5, ac_ild 2, ac_ia, ac_ald 0, ac_gr [9] 0, ac_i (7), ac_ia, ac_bin (fun x y => x - y), ac_ist 4, ac_ild 1, ac_if0 (fun x => decide (¬ x = 0)) 1, ac_ild 3, ac_go 3] := rfl
theorem pb_X9_missIn_1 : P_X9_missIn 1 = [ac_ild 1, ac_i (1), ac_if2 (fun x y => decide (¬ x = y)) 2, ac_ild 4, ac_go 3] := rfl
theorem pb_X9_missIn_2 : P_X9_missIn 2 = [ac_ild 3, ac_m1 (fun x => if 0 ≤ x then x else 0 - x), ac_ild 4, ac_m1 (fun x => if 0 ≤ x then x else 0 - x), ac_bin (fun x y => x + y), ac_go 3] := rfl
theorem pb_X9_missIn_3 : P_X9_missIn 3 = [ac_ri] := rfl
theorem en_X9_mileIs {fb : Bool} {d : Nat} {a0 : Nat} {x1 : Int32} {x2 : Int32} {h : pm_HP} : rs fb (d + 1) n_X9_mileIs [.ref a0, .int x1, .int x2] h = pm_ev (P_X9_mileIs) (rs fb d) (P_X9_mileIs 0) [some (.ref a0), some (.int x1), some (.int x2)] [] h := rfl
theorem pb_X9_mileIs_0 : P_X9_mileIs 0 = [ac_ald 0, ac_ild 1, ac_i (0), ac_cv n_X9_is 2 [9], ac_if0 (fun x => decide (x = 0)) 1, ac_ild 2, ac_i (0), ac_i (8), ac_cs n_X9_isIn 3, ac_if0 (fun x => decide (¬ x = 0)) 2, ac_go 1] := rfl
theorem pb_X9_mileIs_1 : P_X9_mileIs 1 = [ac_ald 0, ac_i (-1000000001), ac_cv n_X9_finding 1 [9], ac_ri] := rfl
theorem pb_X9_mileIs_2 : P_X9_mileIs 2 = [ac_ald 0, ac_cv n_X9_goes 0 [9], ac_ild 2, ac_sw [(5, 3), (6, 4), (7, 5), (8, 6)] 7] := rfl
theorem pb_X9_mileIs_3 : P_X9_mileIs 3 = [ac_ald 0, ac_ild 1, ac_cv n_X9_hoursOf 1 [9], ac_ri] := rfl
theorem pb_X9_mileIs_4 : P_X9_mileIs 4 = [ac_ald 0, ac_gr [9] 6, ac_ild 1, ac_ia, ac_ri] := rfl
theorem pb_X9_mileIs_5 : P_X9_mileIs 5 = [ac_ald 0, ac_ild 1, ac_i (1), ac_cv n_X9_allThat 2 [9], ac_ri] := rfl
theorem pb_X9_mileIs_6 : P_X9_mileIs 6 = [ac_ald 0, ac_ild 1, ac_i (2), ac_cv n_X9_allThat 2 [9], ac_ri] := rfl
theorem pb_X9_mileIs_7 : P_X9_mileIs 7 = [ac_ald 0, ac_ild 1, ac_ild 2, ac_cv n_X9_mileOf 2 [9], ac_ri] := rfl
theorem en_X9_feed {fb : Bool} {d : Nat} {a0 : Nat} {x1 : Int64} {x2 : Int32} {h : pm_HP} : rs fb (d + 1) n_X9_feed [.ref a0, .long x1, .int x2] h = pm_ev (P_X9_feed) (rs fb d) (P_X9_feed 0) [some (.ref a0), some (.long x1), none, some (.int x2), none] [] h := rfl
theorem pb_X9_feed_0 : P_X9_feed 0 = [ac_ild 3, ac_i (1), ac_i (8), ac_cs n_X9_isIn 3, ac_if0 (fun x => decide (¬ x = 0)) 1, ac_ald 0, ac_i (-1000000001), ac_cv n_X9_finding 1 [9], ac_ri] := rfl
theorem pb_X9_feed_1 : P_X9_feed 1 = [ac_ald 0, ac_gr [9] 0, ac_i (3), ac_ia, ac_ild 3, ac_bin (fun x y => x + y), ac_i (60), ac_if2 (fun x y => decide (x ≤ y)) 2, ac_ald 0, ac_i (-1000000004), ac_cv n_X9_finding 1 [9], ac_ri] := rfl
theorem pb_X9_feed_2 : P_X9_feed 2 = [ac_i (0), ac_ist 4, ac_go 3] := rfl
theorem pb_X9_feed_3 : P_X9_feed 3 = [ac_ild 4, ac_ild 3, ac_if2 (fun x y => decide (y ≤ x)) 4, ac_ald 0, ac_gr [9] 0, ac_i (232), ac_ald 0, ac_gr [9] 0, ac_i (3), ac_ia, ac_bin (fun x y => x + y), ac_lld 1, ac_i (8), ac_ild 4, ac_bin (fun x y => x * y), ac_lsh (fun x y => x >>> (y.toInt64 &&& 63)), ac_l (255), ac_lbin (fun x y => x &&& y), ac_l2i, ac_ias, ac_ald 0, ac_gr [9] 0, ac_i (3), ac_dup2, ac_ia, ac_i (1), ac_bin (fun x y => x + y), ac_ias, ac_inc 4 (1), ac_go 3] := rfl
theorem pb_X9_feed_4 : P_X9_feed 4 = [ac_ald 0, ac_gr [9] 0, ac_i (3), ac_ia, ac_ri] := rfl
theorem en_X9_here {fb : Bool} {d : Nat} {a0 : Nat} {h : pm_HP} : rs fb (d + 1) n_X9_here [.ref a0] h = pm_ev (P_X9_here) (rs fb d) (P_X9_here 0) [some (.ref a0)] [] h := rfl
theorem pb_X9_here_0 : P_X9_here 0 = [ac_ald 0, ac_gi [9] 11, ac_if0 (fun x => decide (¬ x = 0)) 1, ac_ald 0, ac_gi [9] 8, ac_ald 0, ac_gr [9] 0, ac_i (3), ac_ia, ac_if2 (fun x y => decide (y ≤ x)) 1, ac_ald 0, ac_gr [9] 0, ac_i (232), ac_ald 0, ac_gi [9] 8, ac_bin (fun x y => x + y), ac_ia, ac_go 2] := rfl
theorem pb_X9_here_1 : P_X9_here 1 = [ac_i (-1), ac_go 2] := rfl
theorem pb_X9_here_2 : P_X9_here 2 = [ac_ri] := rfl
theorem en_X9_takes {fb : Bool} {d : Nat} {a0 : Nat} {x1 : Int32} {h : pm_HP} : rs fb (d + 1) n_X9_takes [.ref a0, .int x1] h = pm_ev (P_X9_takes) (rs fb d) (P_X9_takes 0) [some (.ref a0), some (.int x1), none] [] h := rfl
theorem pb_X9_takes_0 : P_X9_takes 0 = [ac_ald 0, ac_cv n_X9_here 0 [9], ac_ild 1, ac_if2 (fun x y => decide (¬ x = y)) 1, ac_i (1), ac_go 2] := rfl
theorem pb_X9_takes_1 : P_X9_takes 1 = [ac_i (0), ac_go 2] := rfl
theorem pb_X9_takes_2 : P_X9_takes 2 = [ac_ist 2, ac_ald 0, ac_dup, ac_gi [9] 8, ac_ild 2, ac_if0 (fun x => decide (x = 0)) 3, ac_i (1), ac_go 4] := rfl
theorem pb_X9_takes_3 : P_X9_takes 3 = [ac_i (0), ac_go 4] := rfl
theorem pb_X9_takes_4 : P_X9_takes 4 = [ac_bin (fun x y => x + y), ac_pi [9] 8, ac_ild 2, ac_rz (fun v => v &&& 1)] := rfl
theorem en_X9_codes {fb : Bool} {d : Nat} {a0 : Nat} {x1 : Int32} {h : pm_HP} : rs fb (d + 1) n_X9_codes [.ref a0, .int x1] h = pm_ev (P_X9_codes) (rs fb d) (P_X9_codes 0) [some (.ref a0), some (.int x1)] [] h := rfl
theorem pb_X9_codes_0 : P_X9_codes 0 = [ac_ald 0, ac_gi [9] 11, ac_if0 (fun x => decide (¬ x = 0)) 1, ac_ald 0, ac_gr [9] 12, ac_ald 0, ac_gi [9] 13, ac_ild 1, ac_ias, ac_ald 0, ac_dup, ac_gi [9] 13, ac_i (1), ac_bin (fun x y => x + y), ac_pi [9] 13, ac_go 1] := rfl
theorem pb_X9_codes_1 : P_X9_codes 1 = [ac_rv] := rfl
theorem en_X9_either {fb : Bool} {d : Nat} {a0 : Nat} {h : pm_HP} : rs fb (d + 1) n_X9_either [.ref a0] h = pm_ev (P_X9_either) (rs fb d) (P_X9_either 0) [some (.ref a0)] [] h := rfl
theorem pb_X9_either_0 : P_X9_either 0 = [ac_ald 0, ac_cv n_X9_both 0 [9], ac_go 1] := rfl
theorem pb_X9_either_1 : P_X9_either 1 = [ac_ald 0, ac_i (124), ac_cv n_X9_takes 1 [9], ac_if0 (fun x => decide (x = 0)) 2, ac_ald 0, ac_cv n_X9_both 0 [9], ac_ald 0, ac_i (20000), ac_cv n_X9_codes 1 [9], ac_go 1] := rfl
theorem pb_X9_either_2 : P_X9_either 2 = [ac_rv] := rfl
theorem en_X9_both {fb : Bool} {d : Nat} {a0 : Nat} {h : pm_HP} : rs fb (d + 1) n_X9_both [.ref a0] h = pm_ev (P_X9_both) (rs fb d) (P_X9_both 0) [some (.ref a0)] [] h := rfl
theorem pb_X9_both_0 : P_X9_both 0 = [ac_ald 0, ac_cv n_X9_compared 0 [9], ac_go 1] := rfl
theorem pb_X9_both_1 : P_X9_both 1 = [ac_ald 0, ac_i (38), ac_cv n_X9_takes 1 [9], ac_if0 (fun x => decide (x = 0)) 2, ac_ald 0, ac_cv n_X9_compared 0 [9], ac_ald 0, ac_i (20001), ac_cv n_X9_codes 1 [9], ac_go 1] := rfl
theorem pb_X9_both_2 : P_X9_both 2 = [ac_rv] := rfl
theorem en_X9_compared {fb : Bool} {d : Nat} {a0 : Nat} {h : pm_HP} : rs fb (d + 1) n_X9_compared [.ref a0] h = pm_ev (P_X9_compared) (rs fb d) (P_X9_compared 0) [some (.ref a0), none] [] h := rfl
theorem pb_X9_compared_0 : P_X9_compared 0 = [ac_ald 0, ac_cv n_X9_sum 0 [9], ac_ald 0, ac_i (60), ac_cv n_X9_takes 1 [9], ac_if0 (fun x => decide (x = 0)) 1, ac_i (20002), ac_go 4] := rfl
theorem pb_X9_compared_1 : P_X9_compared 1 = [ac_ald 0, ac_i (61), ac_cv n_X9_takes 1 [9], ac_if0 (fun x => decide (x = 0)) 2, ac_i (20003), ac_go 4] := rfl
theorem pb_X9_compared_2 : P_X9_compared 2 = [ac_ald 0, ac_i (62), ac_cv n_X9_takes 1 [9], ac_if0 (fun x => decide (x = 0)) 3, ac_i (20004), ac_go 4] := rfl
theorem pb_X9_compared_3 : P_X9_compared 3 = [ac_i (0), ac_go 4] := rfl
theorem pb_X9_compared_4 : P_X9_compared 4 = [ac_ist 1, ac_ild 1, ac_if0 (fun x => decide (x ≤ 0)) 5, ac_ald 0, ac_cv n_X9_sum 0 [9], ac_ald 0, ac_ild 1, ac_cv n_X9_codes 1 [9], ac_go 5] := rfl
theorem pb_X9_compared_5 : P_X9_compared 5 = [ac_rv] := rfl
theorem en_X9_sum {fb : Bool} {d : Nat} {a0 : Nat} {h : pm_HP} : rs fb (d + 1) n_X9_sum [.ref a0] h = pm_ev (P_X9_sum) (rs fb d) (P_X9_sum 0) [some (.ref a0), none] [] h := rfl
theorem pb_X9_sum_0 : P_X9_sum 0 = [ac_ald 0, ac_cv n_X9_product 0 [9], ac_ald 0, ac_i (43), ac_cv n_X9_takes 1 [9], ac_if0 (fun x => decide (x = 0)) 1, ac_i (20005), ac_go 3] := rfl
theorem pb_X9_sum_1 : P_X9_sum 1 = [ac_ald 0, ac_i (45), ac_cv n_X9_takes 1 [9], ac_if0 (fun x => decide (x = 0)) 2, ac_i (20006), ac_go 3] := rfl
theorem pb_X9_sum_2 : P_X9_sum 2 = [ac_i (0), ac_go 3] := rfl
theorem pb_X9_sum_3 : P_X9_sum 3 = [ac_ist 1, ac_go 4] := rfl
theorem pb_X9_sum_4 : P_X9_sum 4 = [ac_ild 1, ac_if0 (fun x => decide (x ≤ 0)) 8, ac_ald 0, ac_cv n_X9_product 0 [9], ac_ald 0, ac_ild 1, ac_cv n_X9_codes 1 [9], ac_ald 0, ac_i (43), ac_cv n_X9_takes 1 [9], ac_if0 (fun x => decide (x = 0)) 5, ac_i (20005), ac_go 7] := rfl
theorem pb_X9_sum_5 : P_X9_sum 5 = [ac_ald 0, ac_i (45), ac_cv n_X9_takes 1 [9], ac_if0 (fun x => decide (x = 0)) 6, ac_i (20006), ac_go 7] := rfl
theorem pb_X9_sum_6 : P_X9_sum 6 = [ac_i (0), ac_go 7] := rfl
theorem pb_X9_sum_7 : P_X9_sum 7 = [ac_ist 1, ac_go 4] := rfl
theorem pb_X9_sum_8 : P_X9_sum 8 = [ac_rv] := rfl
theorem en_X9_product {fb : Bool} {d : Nat} {a0 : Nat} {h : pm_HP} : rs fb (d + 1) n_X9_product [.ref a0] h = pm_ev (P_X9_product) (rs fb d) (P_X9_product 0) [some (.ref a0), none] [] h := rfl
theorem pb_X9_product_0 : P_X9_product 0 = [ac_ald 0, ac_cv n_X9_one 0 [9], ac_ald 0, ac_i (42), ac_cv n_X9_takes 1 [9], ac_if0 (fun x => decide (x = 0)) 1, ac_i (20007), ac_go 4] := rfl
theorem pb_X9_product_1 : P_X9_product 1 = [ac_ald 0, ac_i (47), ac_cv n_X9_takes 1 [9], ac_if0 (fun x => decide (x = 0)) 2, ac_i (20008), ac_go 4] := rfl
theorem pb_X9_product_2 : P_X9_product 2 = [ac_ald 0, ac_i (37), ac_cv n_X9_takes 1 [9], ac_if0 (fun x => decide (x = 0)) 3, ac_i (20009), ac_go 4] := rfl
theorem pb_X9_product_3 : P_X9_product 3 = [ac_i (0), ac_go 4] := rfl
theorem pb_X9_product_4 : P_X9_product 4 = [ac_ist 1, ac_go 5] := rfl
theorem pb_X9_product_5 : P_X9_product 5 = [ac_ild 1, ac_if0 (fun x => decide (x ≤ 0)) 10, ac_ald 0, ac_cv n_X9_one 0 [9], ac_ald 0, ac_ild 1, ac_cv n_X9_codes 1 [9], ac_ald 0, ac_i (42), ac_cv n_X9_takes 1 [9], ac_if0 (fun x => decide (x = 0)) 6, ac_i (20007), ac_go 9] := rfl
theorem pb_X9_product_6 : P_X9_product 6 = [ac_ald 0, ac_i (47), ac_cv n_X9_takes 1 [9], ac_if0 (fun x => decide (x = 0)) 7, ac_i (20008), ac_go 9] := rfl
theorem pb_X9_product_7 : P_X9_product 7 = [ac_ald 0, ac_i (37), ac_cv n_X9_takes 1 [9], ac_if0 (fun x => decide (x = 0)) 8, ac_i (20009), ac_go 9] := rfl
theorem pb_X9_product_8 : P_X9_product 8 = [ac_i (0), ac_go 9] := rfl
theorem pb_X9_product_9 : P_X9_product 9 = [ac_ist 1, ac_go 5] := rfl
theorem pb_X9_product_10 : P_X9_product 10 = [ac_rv] := rfl
theorem en_X9_nameOf {fb : Bool} {d : Nat} {a0 : Nat} {x1 : Int32} {h : pm_HP} : rs fb (d + 1) n_X9_nameOf [.ref a0, .int x1] h = pm_ev (P_X9_nameOf) (rs fb d) (P_X9_nameOf 0) [some (.ref a0), some (.int x1), none, none] [] h := rfl
theorem pb_X9_nameOf_0 : P_X9_nameOf 0 = [ac_i (-1), ac_ist 2, ac_i (0), ac_ist 3, ac_go 1] := rfl
theorem pb_X9_nameOf_1 : P_X9_nameOf 1 = [ac_ild 3, ac_ald 0, ac_gr [9] 7, ac_ald 0, ac_gi [9] 10, ac_aa, ac_ct n_J0_length_8abf5 0, ac_if2 (fun x y => decide (y ≤ x)) 4, ac_ald 0, ac_gr [9] 7, ac_ald 0, ac_gi [9] 10, ac_aa, ac_ild 3, ac_ct n_J0_charAt_5068e 1, ac_ild 1, ac_if2 (fun x y => decide (¬ x = y)) 2, ac_ild 3, ac_go 3] := rfl
theorem pb_X9_nameOf_2 : P_X9_nameOf 2 = [ac_ild 2, ac_go 3] := rfl
theorem pb_X9_nameOf_3 : P_X9_nameOf 3 = [ac_ist 2, ac_inc 3 (1), ac_go 1] := rfl
theorem pb_X9_nameOf_4 : P_X9_nameOf 4 = [ac_ild 2, ac_ri] := rfl
theorem en_X9_one {fb : Bool} {d : Nat} {a0 : Nat} {h : pm_HP} : rs fb (d + 1) n_X9_one [.ref a0] h = pm_ev (P_X9_one) (rs fb d) (P_X9_one 0) [some (.ref a0), none, none, none] [] h := rfl
theorem pb_X9_one_0 : P_X9_one 0 = [ac_ald 0, ac_cv n_X9_here 0 [9], ac_ist 1, ac_ild 1, ac_i (33), ac_if2 (fun x y => decide (x = y)) 1, ac_ild 1, ac_i (40), ac_if2 (fun x y => decide (¬ x = y)) 8, ac_go 1] := rfl
theorem pb_X9_one_1 : P_X9_one 1 = [ac_ald 0, ac_ald 0, ac_gi [9] 9, ac_i (5), ac_if2 (fun x y => decide (¬ x = y)) 2, ac_i (1), ac_go 3] := rfl
theorem pb_X9_one_2 : P_X9_one 2 = [ac_i (0), ac_go 3] := rfl
theorem pb_X9_one_3 : P_X9_one 3 = [ac_pz [9] 11, ac_ald 0, ac_gi [9] 11, ac_if0 (fun x => decide (¬ x = 0)) 17, ac_ald 0, ac_dup, ac_gi [9] 9, ac_i (1), ac_bin (fun x y => x + y), ac_pi [9] 9, ac_ald 0, ac_dup, ac_gi [9] 8, ac_i (1), ac_bin (fun x y => x + y), ac_pi [9] 8, ac_ild 1, ac_i (33), ac_if2 (fun x y => decide (¬ x = y)) 4, ac_ald 0, ac_cv n_X9_one 0 [9], ac_ald 0, ac_i (20010), ac_cv n_X9_codes 1 [9], ac_go 7] := rfl
theorem pb_X9_one_4 : P_X9_one 4 = [ac_ald 0, ac_cv n_X9_either 0 [9], ac_ald 0, ac_ald 0, ac_i (41), ac_cv n_X9_takes 1 [9], ac_if0 (fun x => decide (¬ x = 0)) 5, ac_i (1), ac_go 6] := rfl
theorem pb_X9_one_5 : P_X9_one 5 = [ac_i (0), ac_go 6] := rfl
theorem pb_X9_one_6 : P_X9_one 6 = [ac_pz [9] 11, ac_go 7] := rfl
theorem pb_X9_one_7 : P_X9_one 7 = [ac_ald 0, ac_dup, ac_gi [9] 9, ac_i (1), ac_bin (fun x y => x - y), ac_pi [9] 9, ac_go 17] := rfl
theorem pb_X9_one_8 : P_X9_one 8 = [ac_ild 1, ac_i (48), ac_i (57), ac_cs n_X9_isIn 3, ac_if0 (fun x => decide (x = 0)) 11, ac_i (0), ac_ist 2, ac_i (0), ac_ist 3, ac_go 9] := rfl
theorem pb_X9_one_9 : P_X9_one 9 = [ac_ild 3, ac_i (4), ac_if2 (fun x y => decide (y ≤ x)) 10, ac_ald 0, ac_cv n_X9_here 0 [9], ac_i (48), ac_i (57), ac_cs n_X9_isIn 3, ac_if0 (fun x => decide (x = 0)) 10, ac_i (10), ac_ild 2, ac_bin (fun x y => x * y), ac_ald 0, ac_cv n_X9_here 0 [9], ac_bin (fun x y => x + y), ac_i (48), ac_bin (fun x y => x - y), ac_ist 2, ac_ald 0, ac_dup, ac_gi [9] 8, ac_i (1), ac_bin (fun x y => x + y), ac_pi [9] 8, ac_inc 3 (1), ac_go 9] := rfl
theorem pb_X9_one_10 : P_X9_one 10 = [ac_ald 0, ac_ild 2, ac_cv n_X9_codes 1 [9], ac_go 17] := rfl
theorem pb_X9_one_11 : P_X9_one 11 = [ac_ild 1, ac_if0 (fun x => decide (0 ≤ x)) 12, ac_i (-1), ac_go 13] := rfl
theorem pb_X9_one_12 : P_X9_one 12 = [ac_ald 0, ac_ild 1, ac_cv n_X9_nameOf 1 [9], ac_go 13] := rfl
theorem pb_X9_one_13 : P_X9_one 13 = [ac_ist 2, ac_ald 0, ac_ald 0, ac_gi [9] 11, ac_if0 (fun x => decide (¬ x = 0)) 14, ac_ild 2, ac_if0 (fun x => decide (0 ≤ x)) 15, ac_go 14] := rfl
theorem pb_X9_one_14 : P_X9_one 14 = [ac_i (1), ac_go 16] := rfl
theorem pb_X9_one_15 : P_X9_one 15 = [ac_i (0), ac_go 16] := rfl
theorem pb_X9_one_16 : P_X9_one 16 = [ac_pz [9] 11, ac_ald 0, ac_gi [9] 11, ac_if0 (fun x => decide (¬ x = 0)) 17, ac_ald 0, ac_i (10000), ac_ild 2, ac_bin (fun x y => x + y), ac_cv n_X9_codes 1 [9], ac_ald 0, ac_dup, ac_gi [9] 8, ac_i (1), ac_bin (fun x y => x + y), ac_pi [9] 8, ac_go 17] := rfl
theorem pb_X9_one_17 : P_X9_one 17 = [ac_rv] := rfl
theorem en_X9_text {fb : Bool} {d : Nat} {a0 : Nat} {x1 : Int32} {h : pm_HP} : rs fb (d + 1) n_X9_text [.ref a0, .int x1] h = pm_ev (P_X9_text) (rs fb d) (P_X9_text 0) [some (.ref a0), some (.int x1), none] [] h := rfl
theorem pb_X9_text_0 : P_X9_text 0 = [ac_ild 1, ac_i (0), ac_i (1), ac_cs n_X9_isIn 3, ac_if0 (fun x => decide (¬ x = 0)) 1, ac_ald 0, ac_i (-1000000001), ac_cv n_X9_finding 1 [9], ac_ri] := rfl
theorem pb_X9_text_1 : P_X9_text 1 = [ac_ald 0, ac_ild 1, ac_pi [9] 10, ac_ald 0, ac_i (0), ac_pi [9] 8, ac_ald 0, ac_i (0), ac_pi [9] 9, ac_ald 0, ac_i (0), ac_pz [9] 11, ac_ald 0, ac_i (0), ac_pi [9] 13, ac_ald 0, ac_cv n_X9_either 0 [9], ac_ald 0, ac_ald 0, ac_gi [9] 11, ac_if0 (fun x => decide (¬ x = 0)) 2, ac_ald 0, ac_gi [9] 8, ac_ald 0, ac_gr [9] 0, ac_i (3), ac_ia, ac_if2 (fun x y => decide (y ≤ x)) 3, ac_go 2] := rfl
theorem pb_X9_text_2 : P_X9_text 2 = [ac_i (1), ac_go 4] := rfl
theorem pb_X9_text_3 : P_X9_text 3 = [ac_i (0), ac_go 4] := rfl
theorem pb_X9_text_4 : P_X9_text 4 = [ac_pz [9] 11, ac_ald 0, ac_gr [9] 0, ac_i (3), ac_i (0), ac_ias, ac_ald 0, ac_gi [9] 11, ac_if0 (fun x => decide (x = 0)) 5, ac_i (-10), ac_ald 0, ac_gi [9] 8, ac_bin (fun x y => x - y), ac_ri] := rfl
theorem pb_X9_text_5 : P_X9_text 5 = [ac_ald 0, ac_gr [9] 0, ac_i (316), ac_i (62), ac_ald 0, ac_gi [9] 10, ac_bin (fun x y => x * y), ac_bin (fun x y => x + y), ac_ald 0, ac_gi [9] 13, ac_ias, ac_i (0), ac_ist 2, ac_go 6] := rfl
theorem pb_X9_text_6 : P_X9_text 6 = [ac_ild 2, ac_ald 0, ac_gi [9] 13, ac_if2 (fun x y => decide (y ≤ x)) 7, ac_ald 0, ac_gr [9] 0, ac_i (316), ac_i (62), ac_ald 0, ac_gi [9] 10, ac_bin (fun x y => x * y), ac_bin (fun x y => x + y), ac_i (1), ac_bin (fun x y => x + y), ac_ild 2, ac_bin (fun x y => x + y), ac_ald 0, ac_gr [9] 12, ac_ild 2, ac_ia, ac_ias, ac_inc 2 (1), ac_go 6] := rfl
theorem pb_X9_text_7 : P_X9_text 7 = [ac_i (1), ac_ri] := rfl
theorem en_X9_untell {fb : Bool} {d : Nat} {a0 : Nat} {x1 : Int32} {h : pm_HP} : rs fb (d + 1) n_X9_untell [.ref a0, .int x1] h = pm_ev (P_X9_untell) (rs fb d) (P_X9_untell 0) [some (.ref a0), some (.int x1)] [] h := rfl
theorem pb_X9_untell_0 : P_X9_untell 0 = [ac_ild 1, ac_i (0), ac_i (1), ac_cs n_X9_isIn 3, ac_if0 (fun x => decide (x = 0)) 2, ac_ald 0, ac_i (316), ac_i (62), ac_ild 1, ac_bin (fun x y => x * y), ac_bin (fun x y => x + y), ac_i (0), ac_cv n_X9_become 2 [9], ac_if0 (fun x => decide (x ≤ 0)) 1, ac_i (1), ac_go 3] := rfl
theorem pb_X9_untell_1 : P_X9_untell 1 = [ac_i (0), ac_go 3] := rfl
theorem pb_X9_untell_2 : P_X9_untell 2 = [ac_ald 0, ac_i (-1000000001), ac_cv n_X9_finding 1 [9], ac_go 3] := rfl
theorem pb_X9_untell_3 : P_X9_untell 3 = [ac_ri] := rfl
theorem en_X9_done {fb : Bool} {d : Nat} {x0 : Int32} {x1 : Int32} {x2 : Int32} {h : pm_HP} : rs fb (d + 1) n_X9_done [.int x0, .int x1, .int x2] h = pm_ev (P_X9_done) (rs fb d) (P_X9_done 0) [some (.int x0), some (.int x1), some (.int x2)] [] h := rfl
theorem pb_X9_done_0 : P_X9_done 0 = [ac_ild 0, ac_sw [(20000, 1), (20001, 5), (20002, 8), (20003, 11), (20004, 14), (20005, 17), (20006, 18), (20007, 19), (20008, 20)] 23] := rfl
theorem pb_X9_done_1 : P_X9_done 1 = [ac_ild 1, ac_if0 (fun x => decide (¬ x = 0)) 2, ac_ild 2, ac_if0 (fun x => decide (x = 0)) 3, ac_go 2] := rfl
theorem pb_X9_done_2 : P_X9_done 2 = [ac_i (1), ac_go 4] := rfl
theorem pb_X9_done_3 : P_X9_done 3 = [ac_i (0), ac_go 4] := rfl
theorem pb_X9_done_4 : P_X9_done 4 = [ac_ri] := rfl
theorem pb_X9_done_5 : P_X9_done 5 = [ac_ild 1, ac_if0 (fun x => decide (x = 0)) 6, ac_ild 2, ac_if0 (fun x => decide (x = 0)) 6, ac_i (1), ac_go 7] := rfl
theorem pb_X9_done_6 : P_X9_done 6 = [ac_i (0), ac_go 7] := rfl
theorem pb_X9_done_7 : P_X9_done 7 = [ac_ri] := rfl
theorem pb_X9_done_8 : P_X9_done 8 = [ac_ild 1, ac_ild 2, ac_if2 (fun x y => decide (y ≤ x)) 9, ac_i (1), ac_go 10] := rfl
theorem pb_X9_done_9 : P_X9_done 9 = [ac_i (0), ac_go 10] := rfl
theorem pb_X9_done_10 : P_X9_done 10 = [ac_ri] := rfl
theorem pb_X9_done_11 : P_X9_done 11 = [ac_ild 1, ac_ild 2, ac_if2 (fun x y => decide (¬ x = y)) 12, ac_i (1), ac_go 13] := rfl
theorem pb_X9_done_12 : P_X9_done 12 = [ac_i (0), ac_go 13] := rfl
theorem pb_X9_done_13 : P_X9_done 13 = [ac_ri] := rfl
theorem pb_X9_done_14 : P_X9_done 14 = [ac_ild 1, ac_ild 2, ac_if2 (fun x y => decide (x ≤ y)) 15, ac_i (1), ac_go 16] := rfl
theorem pb_X9_done_15 : P_X9_done 15 = [ac_i (0), ac_go 16] := rfl
theorem pb_X9_done_16 : P_X9_done 16 = [ac_ri] := rfl
theorem pb_X9_done_17 : P_X9_done 17 = [ac_ild 1, ac_ild 2, ac_bin (fun x y => x + y), ac_ri] := rfl
theorem pb_X9_done_18 : P_X9_done 18 = [ac_ild 1, ac_ild 2, ac_bin (fun x y => x - y), ac_ri] := rfl
theorem pb_X9_done_19 : P_X9_done 19 = [ac_ild 1, ac_ild 2, ac_bin (fun x y => x * y), ac_ri] := rfl
theorem pb_X9_done_20 : P_X9_done 20 = [ac_ild 2, ac_if0 (fun x => decide (¬ x = 0)) 21, ac_i (0), ac_go 22] := rfl
theorem pb_X9_done_21 : P_X9_done 21 = [ac_ild 1, ac_ild 2, ac_dv (fun x y => x / y), ac_go 22] := rfl
theorem pb_X9_done_22 : P_X9_done 22 = [ac_ri] := rfl
theorem pb_X9_done_23 : P_X9_done 23 = [ac_ild 2, ac_if0 (fun x => decide (¬ x = 0)) 24, ac_i (0), ac_go 25] := rfl
theorem pb_X9_done_24 : P_X9_done 24 = [ac_ild 1, ac_ild 2, ac_dv (fun x y => x - x / y * y), ac_go 25] := rfl
theorem pb_X9_done_25 : P_X9_done 25 = [ac_ri] := rfl
theorem en_X9_worked {fb : Bool} {d : Nat} {a0 : Nat} {x1 : Int32} {h : pm_HP} : rs fb (d + 1) n_X9_worked [.ref a0, .int x1] h = pm_ev (P_X9_worked) (rs fb d) (P_X9_worked 0) [some (.ref a0), some (.int x1), none, none, none] [] h := rfl
theorem pb_X9_worked_0 : P_X9_worked 0 = [ac_i (0), ac_ist 2, ac_ild 1, ac_ist 3, ac_go 1] := rfl
theorem pb_X9_worked_1 : P_X9_worked 1 = [ac_ild 3, ac_ild 1, ac_ald 0, ac_gr [9] 0, ac_ild 1, ac_i (1), ac_bin (fun x y => x - y), ac_ia, ac_bin (fun x y => x + y), ac_if2 (fun x y => decide (y ≤ x)) 9, ac_ald 0, ac_gr [9] 0, ac_ild 3, ac_ia, ac_ist 4, ac_ild 4, ac_i (20000), ac_if2 (fun x y => decide (y ≤ x)) 4, ac_ald 0, ac_gr [9] 15, ac_ild 2, ac_ild 4, ac_i (10000), ac_if2 (fun x y => decide (y ≤ x)) 2, ac_ild 4, ac_go 3] := rfl
theorem pb_X9_worked_2 : P_X9_worked 2 = [ac_ald 0, ac_gr [9] 14, ac_ild 4, ac_i (10000), ac_bin (fun x y => x - y), ac_ia, ac_go 3] := rfl
theorem pb_X9_worked_3 : P_X9_worked 3 = [ac_ias, ac_inc 2 (1), ac_go 8] := rfl
theorem pb_X9_worked_4 : P_X9_worked 4 = [ac_ild 4, ac_i (20010), ac_if2 (fun x y => decide (¬ x = y)) 7, ac_ald 0, ac_gr [9] 15, ac_ild 2, ac_i (1), ac_bin (fun x y => x - y), ac_ald 0, ac_gr [9] 15, ac_ild 2, ac_i (1), ac_bin (fun x y => x - y), ac_ia, ac_if0 (fun x => decide (¬ x = 0)) 5, ac_i (1), ac_go 6] := rfl
theorem pb_X9_worked_5 : P_X9_worked 5 = [ac_i (0), ac_go 6] := rfl
theorem pb_X9_worked_6 : P_X9_worked 6 = [ac_ias, ac_go 8] := rfl
theorem pb_X9_worked_7 : P_X9_worked 7 = [ac_inc 2 (-1), ac_ald 0, ac_gr [9] 15, ac_ild 2, ac_i (1), ac_bin (fun x y => x - y), ac_ild 4, ac_ald 0, ac_gr [9] 15, ac_ild 2, ac_i (1), ac_bin (fun x y => x - y), ac_ia, ac_ald 0, ac_gr [9] 15, ac_ild 2, ac_ia, ac_cs n_X9_done 3, ac_ias, ac_go 8] := rfl
theorem pb_X9_worked_8 : P_X9_worked 8 = [ac_inc 3 (1), ac_go 1] := rfl
theorem pb_X9_worked_9 : P_X9_worked 9 = [ac_ald 0, ac_gr [9] 15, ac_i (0), ac_ia, ac_ri] := rfl
theorem en_X9_hasText {fb : Bool} {d : Nat} {a0 : Nat} {x1 : Int32} {h : pm_HP} : rs fb (d + 1) n_X9_hasText [.ref a0, .int x1] h = pm_ev (P_X9_hasText) (rs fb d) (P_X9_hasText 0) [some (.ref a0), some (.int x1)] [] h := rfl
theorem pb_X9_hasText_0 : P_X9_hasText 0 = [ac_ald 0, ac_gr [9] 0, ac_i (316), ac_i (62), ac_ild 1, ac_bin (fun x y => x * y), ac_bin (fun x y => x + y), ac_ia, ac_if0 (fun x => decide (x ≤ 0)) 1, ac_i (1), ac_go 2] := rfl
theorem pb_X9_hasText_1 : P_X9_hasText 1 = [ac_i (0), ac_go 2] := rfl
theorem pb_X9_hasText_2 : P_X9_hasText 2 = [ac_rz (fun v => v &&& 1)] := rfl
theorem en_X9_given {fb : Bool} {d : Nat} {a0 : Nat} {x1 : Int32} {x2 : Int32} {x3 : Int32} {x4 : Int32} {x5 : Int32} {x6 : Int32} {h : pm_HP} : rs fb (d + 1) n_X9_given [.ref a0, .int x1, .int x2, .int x3, .int x4, .int x5, .int x6] h = pm_ev (P_X9_given) (rs fb d) (P_X9_given 0) [some (.ref a0), some (.int x1), some (.int x2), some (.int x3), some (.int x4), some (.int x5), some (.int x6)] [] h := rfl
theorem pb_X9_given_0 : P_X9_given 0 = [ac_ald 0, ac_gr [9] 14, ac_i (0), ac_ild 2, ac_ias, ac_ald 0, ac_gr [9] 14, ac_i (1), ac_ild 3, ac_ias, ac_ald 0, ac_gr [9] 14, ac_i (2), ac_ild 4, ac_ias, ac_ald 0, ac_gr [9] 14, ac_i (3), ac_ild 5, ac_ias, ac_ald 0, ac_gr [9] 14, ac_i (4), ac_ild 6, ac_ias, ac_ald 0, ac_i (316), ac_i (62), ac_ild 1, ac_bin (fun x y => x * y), ac_bin (fun x y => x + y), ac_i (1), ac_bin (fun x y => x + y), ac_cv n_X9_worked 1 [9], ac_ri] := rfl
theorem en_X9_treesAt {fb : Bool} {d : Nat} {a0 : Nat} {x1 : Int32} {h : pm_HP} : rs fb (d + 1) n_X9_treesAt [.ref a0, .int x1] h = pm_ev (P_X9_treesAt) (rs fb d) (P_X9_treesAt 0) [some (.ref a0), some (.int x1), none, none] [] h := rfl
theorem pb_X9_treesAt_0 : P_X9_treesAt 0 = [ac_i (0), ac_ist 2, ac_i (0), ac_ist 3, ac_go 1] := rfl
theorem pb_X9_treesAt_1 : P_X9_treesAt 1 = [ac_ild 3, ac_ald 0, ac_gr [9] 0, ac_i (2), ac_ia, ac_if2 (fun x y => decide (y ≤ x)) 4, ac_ild 2, ac_ald 0, ac_ild 3, ac_i (0), ac_cv n_X9_treeOf 2 [9], ac_ild 1, ac_if2 (fun x y => decide (¬ x = y)) 2, ac_i (1), ac_go 3] := rfl
theorem pb_X9_treesAt_2 : P_X9_treesAt 2 = [ac_i (0), ac_go 3] := rfl
theorem pb_X9_treesAt_3 : P_X9_treesAt 3 = [ac_bin (fun x y => x + y), ac_ist 2, ac_inc 3 (1), ac_go 1] := rfl
theorem pb_X9_treesAt_4 : P_X9_treesAt 4 = [ac_ild 2, ac_ri] := rfl
theorem en_X9_movingOf {fb : Bool} {d : Nat} {a0 : Nat} {x1 : Int32} {h : pm_HP} : rs fb (d + 1) n_X9_movingOf [.ref a0, .int x1] h = pm_ev (P_X9_movingOf) (rs fb d) (P_X9_movingOf 0) [some (.ref a0), some (.int x1), none] [] h := rfl
theorem pb_X9_movingOf_0 : P_X9_movingOf 0 = [ac_ald 0, ac_gr [9] 0, ac_i (0), ac_ia, ac_ist 2, ac_ald 0, ac_i (0), ac_cv n_X9_hasText 1 [9], ac_if0 (fun x => decide (x = 0)) 1, ac_ald 0, ac_i (0), ac_ild 1, ac_ild 2, ac_ald 0, ac_i (0), ac_cv n_X9_missIn 1 [9], ac_ald 0, ac_i (1), ac_cv n_X9_missIn 1 [9], ac_ald 0, ac_ild 1, ac_cv n_X9_treesAt 1 [9], ac_cv n_X9_given 6 [9], ac_go 2] := rfl
theorem pb_X9_movingOf_1 : P_X9_movingOf 1 = [ac_i (100), ac_ild 1, ac_bin (fun x y => x * y), ac_ild 2, ac_dv (fun x y => x / y), ac_go 2] := rfl
theorem pb_X9_movingOf_2 : P_X9_movingOf 2 = [ac_i (0), ac_i (100), ac_cs n_X9_held 3, ac_ri] := rfl
theorem en_X9_hoursOf {fb : Bool} {d : Nat} {a0 : Nat} {x1 : Int32} {h : pm_HP} : rs fb (d + 1) n_X9_hoursOf [.ref a0, .int x1] h = pm_ev (P_X9_hoursOf) (rs fb d) (P_X9_hoursOf 0) [some (.ref a0), some (.int x1), none, none, none] [] h := rfl
theorem pb_X9_hoursOf_0 : P_X9_hoursOf 0 = [ac_ald 0, ac_ild 1, ac_i (1), ac_cv n_X9_mileOf 2 [9], ac_ist 2, ac_ald 0, ac_ild 1, ac_i (2), ac_cv n_X9_mileOf 2 [9], ac_ist 3, ac_ald 0, ac_ild 1, ac_i (3), ac_cv n_X9_mileOf 2 [9], ac_ist 4, ac_ald 0, ac_i (1), ac_cv n_X9_hasText 1 [9], ac_if0 (fun x => decide (x = 0)) 1, ac_ald 0, ac_i (1), ac_ild 1, ac_ild 2, ac_ild 3, ac_ild 4, ac_i (0), ac_cv n_X9_given 6 [9], ac_go 2] := rfl
theorem pb_X9_hoursOf_1 : P_X9_hoursOf 1 = [ac_i (8), ac_ild 2, ac_bin (fun x y => x + y), ac_ild 3, ac_i (9), ac_dv (fun x y => x / y), ac_bin (fun x y => x + y), ac_i (3), ac_ild 4, ac_bin (fun x y => x * y), ac_bin (fun x y => x + y), ac_go 2] := rfl
theorem pb_X9_hoursOf_2 : P_X9_hoursOf 2 = [ac_i (0), ac_i (999), ac_cs n_X9_held 3, ac_ri] := rfl
theorem en_X9_post {fb : Bool} {d : Nat} {a0 : Nat} {x1 : Int32} {x2 : Int32} {h : pm_HP} : rs fb (d + 1) n_X9_post [.ref a0, .int x1, .int x2] h = pm_ev (P_X9_post) (rs fb d) (P_X9_post 0) [some (.ref a0), some (.int x1), some (.int x2), none] [] h := rfl
theorem pb_X9_post_0 : P_X9_post 0 = [ac_ild 1, ac_i (0), ac_ald 0, ac_gr [9] 0, ac_i (0), ac_ia, ac_cs n_X9_isIn 3, ac_if0 (fun x => decide (x = 0)) 1, ac_ild 2, ac_i (0), ac_i (5), ac_cs n_X9_isIn 3, ac_if0 (fun x => decide (¬ x = 0)) 2, ac_go 1] := rfl
theorem pb_X9_post_1 : P_X9_post 1 = [ac_ald 0, ac_i (-1000000001), ac_cv n_X9_finding 1 [9], ac_ri] := rfl
theorem pb_X9_post_2 : P_X9_post 2 = [ac_ald 0, ac_cv n_X9_goes 0 [9], ac_ald 0, ac_ild 1, ac_cv n_X9_movingOf 1 [9], ac_ist 3, ac_ild 2, ac_sw [(0, 3), (1, 4), (2, 5), (3, 6), (4, 7)] 8] := rfl
theorem pb_X9_post_3 : P_X9_post 3 = [ac_ald 0, ac_gr [9] 4, ac_ild 1, ac_ia, ac_ri] := rfl
theorem pb_X9_post_4 : P_X9_post 4 = [ac_ald 0, ac_gr [9] 5, ac_ild 1, ac_ia, ac_ri] := rfl
theorem pb_X9_post_5 : P_X9_post 5 = [ac_ald 0, ac_gr [9] 4, ac_ild 1, ac_ia, ac_ald 0, ac_i (0), ac_cv n_X9_missIn 1 [9], ac_ild 3, ac_bin (fun x y => x * y), ac_i (100), ac_dv (fun x y => x / y), ac_bin (fun x y => x - y), ac_ri] := rfl
theorem pb_X9_post_6 : P_X9_post 6 = [ac_ald 0, ac_gr [9] 5, ac_ild 1, ac_ia, ac_ald 0, ac_i (1), ac_cv n_X9_missIn 1 [9], ac_ild 3, ac_bin (fun x y => x * y), ac_i (100), ac_dv (fun x y => x / y), ac_bin (fun x y => x - y), ac_ri] := rfl
theorem pb_X9_post_7 : P_X9_post 7 = [ac_ild 3, ac_ri] := rfl
theorem pb_X9_post_8 : P_X9_post 8 = [ac_ald 0, ac_ild 1, ac_cv n_X9_treesAt 1 [9], ac_ri] := rfl
theorem en_X9_miss {fb : Bool} {d : Nat} {a0 : Nat} {x1 : Int32} {h : pm_HP} : rs fb (d + 1) n_X9_miss [.ref a0, .int x1] h = pm_ev (P_X9_miss) (rs fb d) (P_X9_miss 0) [some (.ref a0), some (.int x1)] [] h := rfl
theorem pb_X9_miss_0 : P_X9_miss 0 = [ac_ild 1, ac_i (0), ac_i (2), ac_cs n_X9_isIn 3, ac_if0 (fun x => decide (¬ x = 0)) 1, ac_ald 0, ac_i (-1000000001), ac_cv n_X9_finding 1 [9], ac_ri] := rfl
theorem pb_X9_miss_1 : P_X9_miss 1 = [ac_ald 0, ac_cv n_X9_goes 0 [9], ac_ald 0, ac_ild 1, ac_cv n_X9_missIn 1 [9], ac_ri] := rfl
theorem en_X9_wronged {fb : Bool} {d : Nat} {a0 : Nat} {x1 : Int32} {h : pm_HP} : rs fb (d + 1) n_X9_wronged [.ref a0, .int x1] h = pm_ev (P_X9_wronged) (rs fb d) (P_X9_wronged 0) [some (.ref a0), some (.int x1), none, none, none, none] [] h := rfl
theorem pb_X9_wronged_0 : P_X9_wronged 0 = [ac_ild 1, ac_i (1), ac_i (9999), ac_cs n_X9_isIn 3, ac_if0 (fun x => decide (¬ x = 0)) 1, ac_ald 0, ac_i (-1000000001), ac_cv n_X9_finding 1 [9], ac_ri] := rfl
theorem pb_X9_wronged_1 : P_X9_wronged 1 = [ac_ald 0, ac_cv n_X9_goes 0 [9], ac_i (0), ac_ist 2, ac_i (0), ac_ist 3, ac_i (0), ac_ist 4, ac_go 2] := rfl
theorem pb_X9_wronged_2 : P_X9_wronged 2 = [ac_ild 4, ac_ald 0, ac_gr [9] 0, ac_i (0), ac_ia, ac_if2 (fun x y => decide (y < x)) 8, ac_ald 0, ac_i (0), ac_cv n_X9_missIn 1 [9], ac_ald 0, ac_ild 4, ac_cv n_X9_movingOf 1 [9], ac_bin (fun x y => x * y), ac_i (100), ac_dv (fun x y => x / y), ac_m1 (fun x => if 0 ≤ x then x else 0 - x), ac_ild 1, ac_if2 (fun x y => decide (x < y)) 3, ac_i (1), ac_go 4] := rfl
theorem pb_X9_wronged_3 : P_X9_wronged 3 = [ac_i (0), ac_go 4] := rfl
theorem pb_X9_wronged_4 : P_X9_wronged 4 = [ac_ist 5, ac_ild 2, ac_ild 4, ac_if0 (fun x => decide (x ≤ 0)) 6, ac_ild 3, ac_if0 (fun x => decide (¬ x = 0)) 5, ac_ild 5, ac_if0 (fun x => decide (x = 0)) 6, ac_go 5] := rfl
theorem pb_X9_wronged_5 : P_X9_wronged 5 = [ac_i (1), ac_ild 4, ac_i (1), ac_bin (fun x y => x - y), ac_bin (fun x y => x <<< (y &&& 31)), ac_go 7] := rfl
theorem pb_X9_wronged_6 : P_X9_wronged 6 = [ac_i (0), ac_go 7] := rfl
theorem pb_X9_wronged_7 : P_X9_wronged 7 = [ac_bin (fun x y => x ||| y), ac_ist 2, ac_ild 5, ac_ist 3, ac_inc 4 (1), ac_go 2] := rfl
theorem pb_X9_wronged_8 : P_X9_wronged 8 = [ac_ild 2, ac_ri] := rfl
theorem en_X9_which {fb : Bool} {d : Nat} {a0 : Nat} {x1 : Int32} {h : pm_HP} : rs fb (d + 1) n_X9_which [.ref a0, .int x1] h = pm_ev (P_X9_which) (rs fb d) (P_X9_which 0) [some (.ref a0), some (.int x1), none, none, none] [] h := rfl
theorem pb_X9_which_0 : P_X9_which 0 = [ac_ild 1, ac_i (0), ac_i (1), ac_cs n_X9_isIn 3, ac_if0 (fun x => decide (¬ x = 0)) 1, ac_ald 0, ac_i (-1000000001), ac_cv n_X9_finding 1 [9], ac_ri] := rfl
theorem pb_X9_which_1 : P_X9_which 1 = [ac_i (-1), ac_ist 2, ac_i (0), ac_ist 3, ac_i (0), ac_ist 4, ac_go 2] := rfl
theorem pb_X9_which_2 : P_X9_which 2 = [ac_ild 4, ac_ald 0, ac_gr [9] 0, ac_i (1), ac_ia, ac_if2 (fun x y => decide (y ≤ x)) 5, ac_ald 0, ac_ild 4, ac_i (4), ac_cv n_X9_slipOf 2 [9], ac_i (1), ac_if2 (fun x y => decide (¬ x = y)) 4, ac_ald 0, ac_gr [9] 0, ac_i (128), ac_i (5), ac_ild 4, ac_bin (fun x y => x * y), ac_bin (fun x y => x + y), ac_i (4), ac_bin (fun x y => x + y), ac_i (0), ac_ias, ac_ald 0, ac_cv n_X9_goes 0 [9], ac_ald 0, ac_gr [9] 0, ac_i (128), ac_i (5), ac_ild 4, ac_bin (fun x y => x * y), ac_bin (fun x y => x + y), ac_i (4), ac_bin (fun x y => x + y), ac_i (1), ac_ias, ac_ild 2, ac_if0 (fun x => decide (x < 0)) 3, ac_ald 0, ac_i (2), ac_cv n_X9_missIn 1 [9], ac_ild 3, ac_if2 (fun x y => decide (y ≤ x)) 4, ac_go 3] := rfl
theorem pb_X9_which_3 : P_X9_which 3 = [ac_ild 4, ac_ist 2, ac_ald 0, ac_i (2), ac_cv n_X9_missIn 1 [9], ac_ist 3, ac_go 4] := rfl
theorem pb_X9_which_4 : P_X9_which 4 = [ac_inc 4 (1), ac_go 2] := rfl
theorem pb_X9_which_5 : P_X9_which 5 = [ac_ild 2, ac_if0 (fun x => decide (0 ≤ x)) 6, ac_ald 0, ac_i (-1000000002), ac_cv n_X9_finding 1 [9], ac_go 8] := rfl
theorem pb_X9_which_6 : P_X9_which 6 = [ac_ild 1, ac_if0 (fun x => decide (¬ x = 0)) 7, ac_ild 2, ac_go 8] := rfl
theorem pb_X9_which_7 : P_X9_which 7 = [ac_ild 3, ac_go 8] := rfl
theorem pb_X9_which_8 : P_X9_which 8 = [ac_ri] := rfl
theorem en_X9_offBy {fb : Bool} {d : Nat} {a0 : Nat} {x1 : Int32} {h : pm_HP} : rs fb (d + 1) n_X9_offBy [.ref a0, .int x1] h = pm_ev (P_X9_offBy) (rs fb d) (P_X9_offBy 0) [some (.ref a0), some (.int x1), none] [] h := rfl
theorem pb_X9_offBy_0 : P_X9_offBy 0 = [ac_i (0), ac_ist 2, ac_go 1] := rfl
theorem pb_X9_offBy_1 : P_X9_offBy 1 = [ac_ild 2, ac_i (24), ac_if2 (fun x y => decide (y ≤ x)) 2, ac_ald 0, ac_gr [9] 16, ac_ild 2, ac_ald 0, ac_i (8), ac_i (5), ac_ild 2, ac_bin (fun x y => x * y), ac_bin (fun x y => x + y), ac_i (3), ac_bin (fun x y => x + y), ac_ild 1, ac_ild 2, ac_bin (fun x y => x >>> (y &&& 31)), ac_i (1), ac_bin (fun x y => x &&& y), ac_cv n_X9_become 2 [9], ac_ias, ac_inc 2 (1), ac_go 1] := rfl
theorem pb_X9_offBy_2 : P_X9_offBy 2 = [ac_ald 0, ac_cv n_X9_goes 0 [9], ac_i (0), ac_ist 2, ac_go 3] := rfl
theorem pb_X9_offBy_3 : P_X9_offBy 3 = [ac_ild 2, ac_i (24), ac_if2 (fun x y => decide (y ≤ x)) 4, ac_ald 0, ac_gr [9] 0, ac_i (8), ac_i (5), ac_ild 2, ac_bin (fun x y => x * y), ac_bin (fun x y => x + y), ac_i (3), ac_bin (fun x y => x + y), ac_ald 0, ac_gr [9] 16, ac_ild 2, ac_ia, ac_ias, ac_inc 2 (1), ac_go 3] := rfl
theorem pb_X9_offBy_4 : P_X9_offBy 4 = [ac_ald 0, ac_i (0), ac_cv n_X9_missIn 1 [9], ac_m1 (fun x => if 0 ≤ x then x else 0 - x), ac_ri] := rfl
theorem en_X9_checks {fb : Bool} {d : Nat} {a0 : Nat} {x1 : Int32} {x2 : Int32} {h : pm_HP} : rs fb (d + 1) n_X9_checks [.ref a0, .int x1, .int x2] h = pm_ev (P_X9_checks) (rs fb d) (P_X9_checks 0) [some (.ref a0), some (.int x1), some (.int x2), none, none, none, none, none, none, none] [] h := rfl
theorem pb_X9_checks_0 : P_X9_checks 0 = [ac_ild 1, ac_i (1), ac_i (2), ac_cs n_X9_isIn 3, ac_if0 (fun x => decide (x = 0)) 1, ac_ild 2, ac_i (0), ac_i (1), ac_cs n_X9_isIn 3, ac_if0 (fun x => decide (¬ x = 0)) 2, ac_go 1] := rfl
theorem pb_X9_checks_1 : P_X9_checks 1 = [ac_ald 0, ac_i (-1000000001), ac_cv n_X9_finding 1 [9], ac_ri] := rfl
theorem pb_X9_checks_2 : P_X9_checks 2 = [ac_ald 0, ac_gr [9] 0, ac_i (0), ac_ia, ac_ist 3, ac_ild 3, ac_ild 1, ac_if2 (fun x y => decide (y ≤ x)) 3, ac_ald 0, ac_i (-1000000002), ac_cv n_X9_finding 1 [9], ac_ri] := rfl
theorem pb_X9_checks_3 : P_X9_checks 3 = [ac_i (0), ac_ist 4, ac_i (0), ac_ist 5, ac_i (0), ac_ist 6, ac_go 4] := rfl
theorem pb_X9_checks_4 : P_X9_checks 4 = [ac_ild 6, ac_ild 3, ac_if2 (fun x y => decide (y ≤ x)) 13, ac_i (0), ac_ist 7, ac_go 5] := rfl
theorem pb_X9_checks_5 : P_X9_checks 5 = [ac_ild 7, ac_ild 1, ac_i (1), ac_if2 (fun x y => decide (¬ x = y)) 6, ac_i (1), ac_go 7] := rfl
theorem pb_X9_checks_6 : P_X9_checks 6 = [ac_ild 6, ac_go 7] := rfl
theorem pb_X9_checks_7 : P_X9_checks 7 = [ac_if2 (fun x y => decide (y ≤ x)) 12, ac_ild 1, ac_i (1), ac_if2 (fun x y => decide (¬ x = y)) 8, ac_i (1), ac_ild 6, ac_bin (fun x y => x <<< (y &&& 31)), ac_go 9] := rfl
theorem pb_X9_checks_8 : P_X9_checks 8 = [ac_i (1), ac_ild 6, ac_bin (fun x y => x <<< (y &&& 31)), ac_i (1), ac_ild 7, ac_bin (fun x y => x <<< (y &&& 31)), ac_bin (fun x y => x ||| y), ac_go 9] := rfl
theorem pb_X9_checks_9 : P_X9_checks 9 = [ac_ist 8, ac_ald 0, ac_ild 8, ac_cv n_X9_offBy 1 [9], ac_ist 9, ac_ild 4, ac_if0 (fun x => decide (x = 0)) 10, ac_ild 9, ac_ild 5, ac_if2 (fun x y => decide (y ≤ x)) 11, ac_go 10] := rfl
theorem pb_X9_checks_10 : P_X9_checks 10 = [ac_ild 8, ac_ist 4, ac_ild 9, ac_ist 5, ac_go 11] := rfl
theorem pb_X9_checks_11 : P_X9_checks 11 = [ac_inc 7 (1), ac_go 5] := rfl
theorem pb_X9_checks_12 : P_X9_checks 12 = [ac_inc 6 (1), ac_go 4] := rfl
theorem pb_X9_checks_13 : P_X9_checks 13 = [ac_ild 2, ac_if0 (fun x => decide (¬ x = 0)) 14, ac_ild 4, ac_go 15] := rfl
theorem pb_X9_checks_14 : P_X9_checks 14 = [ac_ild 5, ac_go 15] := rfl
theorem pb_X9_checks_15 : P_X9_checks 15 = [ac_ri] := rfl
theorem en_X9_hours {fb : Bool} {d : Nat} {a0 : Nat} {h : pm_HP} : rs fb (d + 1) n_X9_hours [.ref a0] h = pm_ev (P_X9_hours) (rs fb d) (P_X9_hours 0) [some (.ref a0), none, none] [] h := rfl
theorem pb_X9_hours_0 : P_X9_hours 0 = [ac_i (0), ac_ist 1, ac_i (0), ac_ist 2, ac_go 1] := rfl
theorem pb_X9_hours_1 : P_X9_hours 1 = [ac_ild 2, ac_ald 0, ac_gr [9] 0, ac_i (0), ac_ia, ac_if2 (fun x y => decide (y ≤ x)) 2, ac_ild 1, ac_ald 0, ac_ild 2, ac_cv n_X9_hoursOf 1 [9], ac_bin (fun x y => x + y), ac_ist 1, ac_inc 2 (1), ac_go 1] := rfl
theorem pb_X9_hours_2 : P_X9_hours 2 = [ac_ild 1, ac_ri] := rfl
theorem en_X9_within {fb : Bool} {d : Nat} {a0 : Nat} {x1 : Int32} {h : pm_HP} : rs fb (d + 1) n_X9_within [.ref a0, .int x1] h = pm_ev (P_X9_within) (rs fb d) (P_X9_within 0) [some (.ref a0), some (.int x1), none, none] [] h := rfl
theorem pb_X9_within_0 : P_X9_within 0 = [ac_ild 1, ac_i (0), ac_i (99999), ac_cs n_X9_isIn 3, ac_if0 (fun x => decide (¬ x = 0)) 1, ac_ald 0, ac_i (-1000000001), ac_cv n_X9_finding 1 [9], ac_ri] := rfl
theorem pb_X9_within_1 : P_X9_within 1 = [ac_i (0), ac_ist 2, ac_i (0), ac_ist 3, ac_go 2] := rfl
theorem pb_X9_within_2 : P_X9_within 2 = [ac_ild 2, ac_ald 0, ac_gr [9] 0, ac_i (0), ac_ia, ac_if2 (fun x y => decide (y ≤ x)) 3, ac_ild 3, ac_ald 0, ac_ild 2, ac_cv n_X9_hoursOf 1 [9], ac_bin (fun x y => x + y), ac_ild 1, ac_if2 (fun x y => decide (y < x)) 3, ac_ild 3, ac_ald 0, ac_ild 2, ac_cv n_X9_hoursOf 1 [9], ac_bin (fun x y => x + y), ac_ist 3, ac_inc 2 (1), ac_go 2] := rfl
theorem pb_X9_within_3 : P_X9_within 3 = [ac_ild 2, ac_ri] := rfl
theorem en_X9_leaning {fb : Bool} {d : Nat} {a0 : Nat} {h : pm_HP} : rs fb (d + 1) n_X9_leaning [.ref a0] h = pm_ev (P_X9_leaning) (rs fb d) (P_X9_leaning 0) [some (.ref a0), none, none] [] h := rfl
theorem pb_X9_leaning_0 : P_X9_leaning 0 = [ac_ald 0, ac_cv n_X9_goes 0 [9], ac_i (0), ac_ist 1, ac_i (1), ac_ist 2, ac_go 1] := rfl
theorem pb_X9_leaning_1 : P_X9_leaning 1 = [ac_ild 2, ac_ald 0, ac_gr [9] 0, ac_i (0), ac_ia, ac_if2 (fun x y => decide (y ≤ x)) 4, ac_ald 0, ac_gr [9] 6, ac_ild 2, ac_ia, ac_m1 (fun x => if 0 ≤ x then x else 0 - x), ac_ald 0, ac_gr [9] 6, ac_ild 1, ac_ia, ac_m1 (fun x => if 0 ≤ x then x else 0 - x), ac_if2 (fun x y => decide (x ≤ y)) 2, ac_ild 2, ac_go 3] := rfl
theorem pb_X9_leaning_2 : P_X9_leaning 2 = [ac_ild 1, ac_go 3] := rfl
theorem pb_X9_leaning_3 : P_X9_leaning 3 = [ac_ist 1, ac_inc 2 (1), ac_go 1] := rfl
theorem pb_X9_leaning_4 : P_X9_leaning 4 = [ac_ild 1, ac_ri] := rfl
theorem en_X9_divisor {fb : Bool} {d : Nat} {x0 : Int64} {x1 : Int64} {h : pm_HP} : rs fb (d + 1) n_X9_divisor [.long x0, .long x1] h = pm_ev (P_X9_divisor) (rs fb d) (P_X9_divisor 0) [some (.long x0), none, some (.long x1), none] [] h := rfl
theorem pb_X9_divisor_0 : P_X9_divisor 0 = [ac_lld 2, ac_l (0), ac_lcmp, ac_if0 (fun x => decide (¬ x = 0)) 1, ac_lld 0, ac_go 2] := rfl
theorem pb_X9_divisor_1 : P_X9_divisor 1 = [ac_lld 2, ac_lld 0, ac_lld 2, ac_ldv (fun x y => x - x / y * y), ac_cs n_X9_divisor 2, ac_go 2] := rfl
theorem pb_X9_divisor_2 : P_X9_divisor 2 = [ac_rl] := rfl
theorem en_X9_findStraight {fb : Bool} {d : Nat} {a0 : Nat} {h : pm_HP} : rs fb (d + 1) n_X9_findStraight [.ref a0] h = pm_ev (P_X9_findStraight) (rs fb d) (P_X9_findStraight 0) [some (.ref a0), none, none] [] h := rfl
theorem pb_X9_findStraight_0 : P_X9_findStraight 0 = [ac_ald 0, ac_cv n_X9_goes 0 [9], ac_ald 0, ac_l (0), ac_pl [9] 17, ac_ald 0, ac_l (0), ac_pl [9] 18, ac_i (1), ac_ist 1, ac_go 1] := rfl
theorem pb_X9_findStraight_1 : P_X9_findStraight 1 = [ac_ild 1, ac_ald 0, ac_gr [9] 0, ac_i (0), ac_ia, ac_if2 (fun x y => decide (y < x)) 2, ac_ald 0, ac_dup, ac_gl [9] 17, ac_ild 1, ac_i2l, ac_ald 0, ac_gr [9] 4, ac_ild 1, ac_ia, ac_i2l, ac_lbin (fun x y => x * y), ac_lbin (fun x y => x + y), ac_pl [9] 17, ac_ald 0, ac_dup, ac_gl [9] 18, ac_ild 1, ac_i2l, ac_ild 1, ac_i2l, ac_lbin (fun x y => x * y), ac_lbin (fun x y => x + y), ac_pl [9] 18, ac_inc 1 (1), ac_go 1] := rfl
theorem pb_X9_findStraight_2 : P_X9_findStraight 2 = [ac_ald 0, ac_gl [9] 18, ac_ald 0, ac_gl [9] 17, ac_ml (fun x => if 0 < x then x else -x), ac_cs n_X9_divisor 2, ac_lst 1, ac_ald 0, ac_dup, ac_gl [9] 17, ac_lld 1, ac_ldv (fun x y => x / y), ac_pl [9] 17, ac_ald 0, ac_dup, ac_gl [9] 18, ac_lld 1, ac_ldv (fun x y => x / y), ac_pl [9] 18, ac_rv] := rfl
theorem en_X9_straight {fb : Bool} {d : Nat} {a0 : Nat} {x1 : Int32} {h : pm_HP} : rs fb (d + 1) n_X9_straight [.ref a0, .int x1] h = pm_ev (P_X9_straight) (rs fb d) (P_X9_straight 0) [some (.ref a0), some (.int x1)] [] h := rfl
theorem pb_X9_straight_0 : P_X9_straight 0 = [ac_ild 1, ac_i (0), ac_i (1), ac_cs n_X9_isIn 3, ac_if0 (fun x => decide (¬ x = 0)) 1, ac_ald 0, ac_i (-1000000001), ac_cv n_X9_finding 1 [9], ac_i2l, ac_rl] := rfl
theorem pb_X9_straight_1 : P_X9_straight 1 = [ac_ald 0, ac_cv n_X9_findStraight 0 [9], ac_ild 1, ac_if0 (fun x => decide (¬ x = 0)) 2, ac_ald 0, ac_gl [9] 17, ac_go 3] := rfl
theorem pb_X9_straight_2 : P_X9_straight 2 = [ac_ald 0, ac_gl [9] 18, ac_go 3] := rfl
theorem pb_X9_straight_3 : P_X9_straight 3 = [ac_rl] := rfl
theorem en_X9_offIt {fb : Bool} {d : Nat} {a0 : Nat} {h : pm_HP} : rs fb (d + 1) n_X9_offIt [.ref a0] h = pm_ev (P_X9_offIt) (rs fb d) (P_X9_offIt 0) [some (.ref a0), none, none, none, none, none, none] [] h := rfl
theorem pb_X9_offIt_0 : P_X9_offIt 0 = [ac_ald 0, ac_cv n_X9_findStraight 0 [9], ac_i (1), ac_ist 1, ac_l (-1), ac_lst 2, ac_i (1), ac_ist 4, ac_go 1] := rfl
theorem pb_X9_offIt_1 : P_X9_offIt 1 = [ac_ild 4, ac_ald 0, ac_gr [9] 0, ac_i (0), ac_ia, ac_if2 (fun x y => decide (y < x)) 3, ac_ald 0, ac_gr [9] 4, ac_ild 4, ac_ia, ac_i2l, ac_ald 0, ac_gl [9] 18, ac_lbin (fun x y => x * y), ac_ald 0, ac_gl [9] 17, ac_ild 4, ac_i2l, ac_lbin (fun x y => x * y), ac_lbin (fun x y => x - y), ac_ml (fun x => if 0 < x then x else -x), ac_lst 5, ac_lld 5, ac_lld 2, ac_lcmp, ac_if0 (fun x => decide (x ≤ 0)) 2, ac_ild 4, ac_ist 1, ac_lld 5, ac_lst 2, ac_go 2] := rfl
theorem pb_X9_offIt_2 : P_X9_offIt 2 = [ac_inc 4 (1), ac_go 1] := rfl
theorem pb_X9_offIt_3 : P_X9_offIt 3 = [ac_ild 1, ac_ri] := rfl
theorem en_X9_nearest {fb : Bool} {d : Nat} {a0 : Nat} {x1 : Int32} {x2 : Int32} {h : pm_HP} : rs fb (d + 1) n_X9_nearest [.ref a0, .int x1, .int x2] h = pm_ev (P_X9_nearest) (rs fb d) (P_X9_nearest 0) [some (.ref a0), some (.int x1), some (.int x2), none, none, none, none] [] h := rfl
theorem pb_X9_nearest_0 : P_X9_nearest 0 = [ac_ild 1, ac_i (-99999), ac_i (99999), ac_cs n_X9_isIn 3, ac_if0 (fun x => decide (x = 0)) 1, ac_ild 2, ac_i (0), ac_i (99999), ac_cs n_X9_isIn 3, ac_if0 (fun x => decide (¬ x = 0)) 2, ac_go 1] := rfl
theorem pb_X9_nearest_1 : P_X9_nearest 1 = [ac_ald 0, ac_i (-1000000001), ac_cv n_X9_finding 1 [9], ac_ri] := rfl
theorem pb_X9_nearest_2 : P_X9_nearest 2 = [ac_ald 0, ac_cv n_X9_goes 0 [9], ac_i (0), ac_ist 3, ac_i (-1), ac_ist 4, ac_i (0), ac_ist 5, ac_go 3] := rfl
theorem pb_X9_nearest_3 : P_X9_nearest 3 = [ac_ild 5, ac_ald 0, ac_gr [9] 0, ac_i (0), ac_ia, ac_if2 (fun x y => decide (y < x)) 6, ac_ald 0, ac_gr [9] 4, ac_ild 5, ac_ia, ac_ild 1, ac_bin (fun x y => x - y), ac_m1 (fun x => if 0 ≤ x then x else 0 - x), ac_ald 0, ac_gr [9] 5, ac_ild 5, ac_ia, ac_ild 2, ac_bin (fun x y => x - y), ac_m1 (fun x => if 0 ≤ x then x else 0 - x), ac_bin (fun x y => x + y), ac_ist 6, ac_ild 4, ac_if0 (fun x => decide (x < 0)) 4, ac_ild 6, ac_ild 4, ac_if2 (fun x y => decide (y ≤ x)) 5, ac_go 4] := rfl
theorem pb_X9_nearest_4 : P_X9_nearest 4 = [ac_ild 5, ac_ist 3, ac_ild 6, ac_ist 4, ac_go 5] := rfl
theorem pb_X9_nearest_5 : P_X9_nearest 5 = [ac_inc 5 (1), ac_go 3] := rfl
theorem pb_X9_nearest_6 : P_X9_nearest 6 = [ac_ild 3, ac_ri] := rfl
theorem en_X9_crosses {fb : Bool} {d : Nat} {a0 : Nat} {h : pm_HP} : rs fb (d + 1) n_X9_crosses [.ref a0] h = pm_ev (P_X9_crosses) (rs fb d) (P_X9_crosses 0) [some (.ref a0), none, none] [] h := rfl
theorem pb_X9_crosses_0 : P_X9_crosses 0 = [ac_ald 0, ac_cv n_X9_goes 0 [9], ac_i (0), ac_ist 1, ac_i (0), ac_ist 2, ac_go 1] := rfl
theorem pb_X9_crosses_1 : P_X9_crosses 1 = [ac_ild 2, ac_ald 0, ac_gr [9] 0, ac_i (0), ac_ia, ac_if2 (fun x y => decide (y ≤ x)) 6, ac_ild 1, ac_ald 0, ac_gr [9] 4, ac_ild 2, ac_ia, ac_if0 (fun x => decide (0 ≤ x)) 2, ac_ald 0, ac_gr [9] 4, ac_ild 2, ac_i (1), ac_bin (fun x y => x + y), ac_ia, ac_if0 (fun x => decide (0 < x)) 3, ac_go 2] := rfl
theorem pb_X9_crosses_2 : P_X9_crosses 2 = [ac_ald 0, ac_gr [9] 4, ac_ild 2, ac_ia, ac_if0 (fun x => decide (x ≤ 0)) 4, ac_ald 0, ac_gr [9] 4, ac_ild 2, ac_i (1), ac_bin (fun x y => x + y), ac_ia, ac_if0 (fun x => decide (0 ≤ x)) 4, ac_go 3] := rfl
theorem pb_X9_crosses_3 : P_X9_crosses 3 = [ac_i (1), ac_go 5] := rfl
theorem pb_X9_crosses_4 : P_X9_crosses 4 = [ac_i (0), ac_go 5] := rfl
theorem pb_X9_crosses_5 : P_X9_crosses 5 = [ac_bin (fun x y => x + y), ac_ist 1, ac_inc 2 (1), ac_go 1] := rfl
theorem pb_X9_crosses_6 : P_X9_crosses 6 = [ac_ild 1, ac_ri] := rfl
theorem en_X9_treeOf {fb : Bool} {d : Nat} {a0 : Nat} {x1 : Int32} {x2 : Int32} {h : pm_HP} : rs fb (d + 1) n_X9_treeOf [.ref a0, .int x1, .int x2] h = pm_ev (P_X9_treeOf) (rs fb d) (P_X9_treeOf 0) [some (.ref a0), some (.int x1), some (.int x2)] [] h := rfl
theorem pb_X9_treeOf_0 : P_X9_treeOf 0 = [ac_ald 0, ac_gr [9] 0, ac_i (168), ac_i (4), ac_ild 1, ac_bin (fun x y => x * y), ac_bin (fun x y => x + y), ac_ild 2, ac_bin (fun x y => x + y), ac_ia, ac_ri] := rfl
theorem en_X9_tree {fb : Bool} {d : Nat} {a0 : Nat} {x1 : Int32} {x2 : Int32} {x3 : Int32} {h : pm_HP} : rs fb (d + 1) n_X9_tree [.ref a0, .int x1, .int x2, .int x3] h = pm_ev (P_X9_tree) (rs fb d) (P_X9_tree 0) [some (.ref a0), some (.int x1), some (.int x2), some (.int x3), none, none, none] [] h := rfl
theorem pb_X9_tree_0 : P_X9_tree 0 = [ac_ild 3, ac_i (1000), ac_dv (fun x y => x / y), ac_i (100), ac_bin (fun x y => x - y), ac_ist 4, ac_ild 3, ac_i (1000), ac_dv (fun x y => x - x / y * y), ac_i (100), ac_bin (fun x y => x - y), ac_ist 5, ac_ild 1, ac_i (1), ac_i (24), ac_cs n_X9_isIn 3, ac_if0 (fun x => decide (x = 0)) 1, ac_ild 2, ac_i (0), ac_i (5), ac_cs n_X9_isIn 3, ac_if0 (fun x => decide (x = 0)) 1, ac_ild 3, ac_if0 (fun x => decide (x < 0)) 1, ac_ild 4, ac_i (-99), ac_i (99), ac_cs n_X9_isIn 3, ac_if0 (fun x => decide (x = 0)) 1, ac_ild 5, ac_i (-99), ac_i (99), ac_cs n_X9_isIn 3, ac_if0 (fun x => decide (¬ x = 0)) 2, ac_go 1] := rfl
theorem pb_X9_tree_1 : P_X9_tree 1 = [ac_ald 0, ac_i (-1000000001), ac_cv n_X9_finding 1 [9], ac_ri] := rfl
theorem pb_X9_tree_2 : P_X9_tree 2 = [ac_ald 0, ac_gr [9] 0, ac_i (2), ac_ia, ac_ist 6, ac_ild 6, ac_i (16), ac_if2 (fun x y => decide (¬ x = y)) 3, ac_ald 0, ac_i (-1000000004), ac_cv n_X9_finding 1 [9], ac_ri] := rfl
theorem pb_X9_tree_3 : P_X9_tree 3 = [ac_ald 0, ac_gr [9] 0, ac_i (168), ac_i (4), ac_ild 6, ac_bin (fun x y => x * y), ac_bin (fun x y => x + y), ac_i (0), ac_bin (fun x y => x + y), ac_ild 1, ac_ias, ac_ald 0, ac_gr [9] 0, ac_i (168), ac_i (4), ac_ild 6, ac_bin (fun x y => x * y), ac_bin (fun x y => x + y), ac_i (1), ac_bin (fun x y => x + y), ac_ild 2, ac_ias, ac_ald 0, ac_gr [9] 0, ac_i (168), ac_i (4), ac_ild 6, ac_bin (fun x y => x * y), ac_bin (fun x y => x + y), ac_i (2), ac_bin (fun x y => x + y), ac_ild 4, ac_ias, ac_ald 0, ac_gr [9] 0, ac_i (168), ac_i (4), ac_ild 6, ac_bin (fun x y => x * y), ac_bin (fun x y => x + y), ac_i (3), ac_bin (fun x y => x + y), ac_ild 5, ac_ias, ac_ald 0, ac_gr [9] 0, ac_i (2), ac_dup2, ac_ia, ac_i (1), ac_bin (fun x y => x + y), ac_ias, ac_ild 6, ac_ri] := rfl
theorem en_X9_treeIs {fb : Bool} {d : Nat} {a0 : Nat} {x1 : Int32} {x2 : Int32} {h : pm_HP} : rs fb (d + 1) n_X9_treeIs [.ref a0, .int x1, .int x2] h = pm_ev (P_X9_treeIs) (rs fb d) (P_X9_treeIs 0) [some (.ref a0), some (.int x1), some (.int x2), none] [] h := rfl
theorem pb_X9_treeIs_0 : P_X9_treeIs 0 = [ac_ald 0, ac_ild 1, ac_i (2), ac_cv n_X9_is 2 [9], ac_if0 (fun x => decide (x = 0)) 1, ac_ild 2, ac_i (0), ac_i (5), ac_cs n_X9_isIn 3, ac_if0 (fun x => decide (¬ x = 0)) 2, ac_go 1] := rfl
theorem pb_X9_treeIs_1 : P_X9_treeIs 1 = [ac_ald 0, ac_i (-1000000001), ac_cv n_X9_finding 1 [9], ac_ri] := rfl
theorem pb_X9_treeIs_2 : P_X9_treeIs 2 = [ac_ild 2, ac_i (4), ac_if2 (fun x y => decide (y ≤ x)) 3, ac_ald 0, ac_ild 1, ac_ild 2, ac_cv n_X9_treeOf 2 [9], ac_ri] := rfl
theorem pb_X9_treeIs_3 : P_X9_treeIs 3 = [ac_ald 0, ac_ild 1, ac_i (0), ac_cv n_X9_treeOf 2 [9], ac_ist 3, ac_ild 3, ac_ald 0, ac_gr [9] 0, ac_i (0), ac_ia, ac_if2 (fun x y => decide (x ≤ y)) 4, ac_ald 0, ac_i (-1000000002), ac_cv n_X9_finding 1 [9], ac_ri] := rfl
theorem pb_X9_treeIs_4 : P_X9_treeIs 4 = [ac_ald 0, ac_cv n_X9_goes 0 [9], ac_ild 2, ac_i (4), ac_if2 (fun x y => decide (¬ x = y)) 5, ac_ald 0, ac_gr [9] 4, ac_ild 3, ac_ia, ac_ald 0, ac_ild 1, ac_i (2), ac_cv n_X9_treeOf 2 [9], ac_bin (fun x y => x + y), ac_go 6] := rfl
theorem pb_X9_treeIs_5 : P_X9_treeIs 5 = [ac_ald 0, ac_gr [9] 5, ac_ild 3, ac_ia, ac_ald 0, ac_ild 1, ac_i (3), ac_cv n_X9_treeOf 2 [9], ac_bin (fun x y => x + y), ac_go 6] := rfl
theorem pb_X9_treeIs_6 : P_X9_treeIs 6 = [ac_ri] := rfl
theorem en_X9_dig {fb : Bool} {d : Nat} {a0 : Nat} {x1 : Int32} {x2 : Int32} {x3 : Int32} {x4 : Int32} {h : pm_HP} : rs fb (d + 1) n_X9_dig [.ref a0, .int x1, .int x2, .int x3, .int x4] h = pm_ev (P_X9_dig) (rs fb d) (P_X9_dig 0) [some (.ref a0), some (.int x1), some (.int x2), some (.int x3), some (.int x4)] [] h := rfl
theorem pb_X9_dig_0 : P_X9_dig 0 = [ac_ald 0, ac_ild 1, ac_i (2), ac_cv n_X9_is 2 [9], ac_if0 (fun x => decide (x = 0)) 1, ac_ild 4, ac_i (0), ac_i (1), ac_cs n_X9_isIn 3, ac_if0 (fun x => decide (¬ x = 0)) 2, ac_go 1] := rfl
theorem pb_X9_dig_1 : P_X9_dig 1 = [ac_ald 0, ac_i (-1000000001), ac_cv n_X9_finding 1 [9], ac_ri] := rfl
theorem pb_X9_dig_2 : P_X9_dig 2 = [ac_ild 4, ac_if0 (fun x => decide (¬ x = 0)) 3, ac_ild 2, ac_ald 0, ac_ild 1, ac_i (2), ac_cv n_X9_treeOf 2 [9], ac_bin (fun x y => x - y), ac_go 4] := rfl
theorem pb_X9_dig_3 : P_X9_dig 3 = [ac_ild 3, ac_ald 0, ac_ild 1, ac_i (3), ac_cv n_X9_treeOf 2 [9], ac_bin (fun x y => x - y), ac_go 4] := rfl
theorem pb_X9_dig_4 : P_X9_dig 4 = [ac_ri] := rfl
theorem en_X9_sorts {fb : Bool} {d : Nat} {a0 : Nat} {x1 : Int32} {h : pm_HP} : rs fb (d + 1) n_X9_sorts [.ref a0, .int x1] h = pm_ev (P_X9_sorts) (rs fb d) (P_X9_sorts 0) [some (.ref a0), some (.int x1), none, none] [] h := rfl
theorem pb_X9_sorts_0 : P_X9_sorts 0 = [ac_ild 1, ac_i (0), ac_i (5), ac_cs n_X9_isIn 3, ac_if0 (fun x => decide (¬ x = 0)) 1, ac_ald 0, ac_i (-1000000001), ac_cv n_X9_finding 1 [9], ac_ri] := rfl
theorem pb_X9_sorts_1 : P_X9_sorts 1 = [ac_i (0), ac_ist 2, ac_i (0), ac_ist 3, ac_go 2] := rfl
theorem pb_X9_sorts_2 : P_X9_sorts 2 = [ac_ild 3, ac_ald 0, ac_gr [9] 0, ac_i (2), ac_ia, ac_if2 (fun x y => decide (y ≤ x)) 5, ac_ild 2, ac_ald 0, ac_ild 3, ac_i (1), ac_cv n_X9_treeOf 2 [9], ac_ild 1, ac_if2 (fun x y => decide (¬ x = y)) 3, ac_i (1), ac_go 4] := rfl
theorem pb_X9_sorts_3 : P_X9_sorts 3 = [ac_i (0), ac_go 4] := rfl
theorem pb_X9_sorts_4 : P_X9_sorts 4 = [ac_bin (fun x y => x + y), ac_ist 2, ac_inc 3 (1), ac_go 2] := rfl
theorem pb_X9_sorts_5 : P_X9_sorts 5 = [ac_ild 2, ac_ri] := rfl
theorem en_X9_drawn {fb : Bool} {d : Nat} {a0 : Nat} {x1 : Int32} {h : pm_HP} : rs fb (d + 1) n_X9_drawn [.ref a0, .int x1] h = pm_ev (P_X9_drawn) (rs fb d) (P_X9_drawn 0) [some (.ref a0), some (.int x1)] [] h := rfl
theorem pb_X9_drawn_0 : P_X9_drawn 0 = [ac_ald 0, ac_gr [9] 0, ac_i (5), ac_ald 0, ac_gr [9] 0, ac_i (5), ac_ia, ac_i (1103515245), ac_bin (fun x y => x * y), ac_i (12345), ac_bin (fun x y => x + y), ac_ias, ac_ald 0, ac_gr [9] 0, ac_i (5), ac_ia, ac_i (8), ac_bin (fun x y => (x.toUInt32 >>> (y.toUInt32 &&& Int32.toUInt32 31)).toInt32), ac_ild 1, ac_dv (fun x y => x - x / y * y), ac_ri] := rfl
theorem en_X9_waver {fb : Bool} {d : Nat} {a0 : Nat} {x1 : Int32} {x2 : Int32} {x3 : Int32} {h : pm_HP} : rs fb (d + 1) n_X9_waver [.ref a0, .int x1, .int x2, .int x3] h = pm_ev (P_X9_waver) (rs fb d) (P_X9_waver 0) [some (.ref a0), some (.int x1), some (.int x2), some (.int x3), none] [] h := rfl
theorem pb_X9_waver_0 : P_X9_waver 0 = [ac_ild 1, ac_cs n_X9_isMile 1, ac_if0 (fun x => decide (x = 0)) 1, ac_ild 2, ac_i (1), ac_i (24), ac_cs n_X9_isIn 3, ac_if0 (fun x => decide (x = 0)) 1, ac_ild 3, ac_i (0), ac_i (99), ac_cs n_X9_isIn 3, ac_if0 (fun x => decide (¬ x = 0)) 2, ac_go 1] := rfl
theorem pb_X9_waver_1 : P_X9_waver 1 = [ac_ald 0, ac_i (-1000000001), ac_cv n_X9_finding 1 [9], ac_ri] := rfl
theorem pb_X9_waver_2 : P_X9_waver 2 = [ac_ild 1, ac_ist 4, ac_go 3] := rfl
theorem pb_X9_waver_3 : P_X9_waver 3 = [ac_ild 4, ac_ild 1, ac_ild 2, ac_bin (fun x y => x + y), ac_if2 (fun x y => decide (y ≤ x)) 4, ac_ild 4, ac_i (24), ac_if2 (fun x y => decide (y ≤ x)) 4, ac_ald 0, ac_gr [9] 0, ac_i (8), ac_i (5), ac_ild 4, ac_bin (fun x y => x * y), ac_bin (fun x y => x + y), ac_i (4), ac_bin (fun x y => x + y), ac_ald 0, ac_i (2), ac_ild 3, ac_bin (fun x y => x * y), ac_i (1), ac_bin (fun x y => x + y), ac_cv n_X9_drawn 1 [9], ac_ild 3, ac_bin (fun x y => x - y), ac_ias, ac_inc 4 (1), ac_go 3] := rfl
theorem pb_X9_waver_4 : P_X9_waver 4 = [ac_ald 0, ac_cv n_X9_goes 0 [9], ac_ald 0, ac_i (0), ac_cv n_X9_missIn 1 [9], ac_ri] := rfl
theorem en_X9_still {fb : Bool} {d : Nat} {a0 : Nat} {h : pm_HP} : rs fb (d + 1) n_X9_still [.ref a0] h = pm_ev (P_X9_still) (rs fb d) (P_X9_still 0) [some (.ref a0), none, none] [] h := rfl
theorem pb_X9_still_0 : P_X9_still 0 = [ac_i (0), ac_ist 1, ac_i (0), ac_ist 2, ac_go 1] := rfl
theorem pb_X9_still_1 : P_X9_still 1 = [ac_ild 2, ac_i (24), ac_if2 (fun x y => decide (y ≤ x)) 4, ac_ild 1, ac_ald 0, ac_i (8), ac_i (5), ac_ild 2, ac_bin (fun x y => x * y), ac_bin (fun x y => x + y), ac_i (4), ac_bin (fun x y => x + y), ac_i (0), ac_cv n_X9_become 2 [9], ac_if0 (fun x => decide (¬ x = 0)) 2, ac_i (0), ac_go 3] := rfl
theorem pb_X9_still_2 : P_X9_still 2 = [ac_i (1), ac_go 3] := rfl
theorem pb_X9_still_3 : P_X9_still 3 = [ac_bin (fun x y => x + y), ac_ist 1, ac_inc 2 (1), ac_go 1] := rfl
theorem pb_X9_still_4 : P_X9_still 4 = [ac_ild 1, ac_ri] := rfl
theorem en_X9_seed {fb : Bool} {d : Nat} {a0 : Nat} {x1 : Int32} {h : pm_HP} : rs fb (d + 1) n_X9_seed [.ref a0, .int x1] h = pm_ev (P_X9_seed) (rs fb d) (P_X9_seed 0) [some (.ref a0), some (.int x1)] [] h := rfl
theorem pb_X9_seed_0 : P_X9_seed 0 = [ac_ald 0, ac_i (5), ac_ild 1, ac_cv n_X9_become 2 [9], ac_ri] := rfl
theorem en_X9_began {fb : Bool} {d : Nat} {a0 : Nat} {x1 : Int32} {h : pm_HP} : rs fb (d + 1) n_X9_began [.ref a0, .int x1] h = pm_ev (P_X9_began) (rs fb d) (P_X9_began 0) [some (.ref a0), some (.int x1)] [] h := rfl
theorem pb_X9_began_0 : P_X9_began 0 = [ac_ald 0, ac_gi [9] 20, ac_i (30), ac_if2 (fun x y => decide (y ≤ x)) 1, ac_ald 0, ac_gr [9] 19, ac_ald 0, ac_gi [9] 20, ac_ild 1, ac_ias, ac_ald 0, ac_dup, ac_gi [9] 20, ac_i (1), ac_bin (fun x y => x + y), ac_pi [9] 20, ac_go 1] := rfl
theorem pb_X9_began_1 : P_X9_began 1 = [ac_rv] := rfl
theorem en_X9_hasOwn {fb : Bool} {d : Nat} {x0 : Int32} {x1 : Int32} {h : pm_HP} : rs fb (d + 1) n_X9_hasOwn [.int x0, .int x1] h = pm_ev (P_X9_hasOwn) (rs fb d) (P_X9_hasOwn 0) [some (.int x0), some (.int x1)] [] h := rfl
theorem pb_X9_hasOwn_0 : P_X9_hasOwn 0 = [ac_ild 0, ac_sw [(0, 1), (1, 2), (2, 6), (3, 9), (4, 2), (5, 13)] 16] := rfl
theorem pb_X9_hasOwn_1 : P_X9_hasOwn 1 = [ac_i (1), ac_rz (fun v => v &&& 1)] := rfl
theorem pb_X9_hasOwn_2 : P_X9_hasOwn 2 = [ac_ild 1, ac_if0 (fun x => decide (x = 0)) 3, ac_ild 1, ac_i (3), ac_if2 (fun x y => decide (¬ x = y)) 4, ac_go 3] := rfl
theorem pb_X9_hasOwn_3 : P_X9_hasOwn 3 = [ac_i (1), ac_go 5] := rfl
theorem pb_X9_hasOwn_4 : P_X9_hasOwn 4 = [ac_i (0), ac_go 5] := rfl
theorem pb_X9_hasOwn_5 : P_X9_hasOwn 5 = [ac_rz (fun v => v &&& 1)] := rfl
theorem pb_X9_hasOwn_6 : P_X9_hasOwn 6 = [ac_ild 1, ac_i (1), ac_if2 (fun x y => decide (¬ x = y)) 7, ac_i (1), ac_go 8] := rfl
theorem pb_X9_hasOwn_7 : P_X9_hasOwn 7 = [ac_i (0), ac_go 8] := rfl
theorem pb_X9_hasOwn_8 : P_X9_hasOwn 8 = [ac_rz (fun v => v &&& 1)] := rfl
theorem pb_X9_hasOwn_9 : P_X9_hasOwn 9 = [ac_ild 1, ac_i (1), ac_if2 (fun x y => decide (x = y)) 10, ac_ild 1, ac_i (2), ac_if2 (fun x y => decide (¬ x = y)) 11, ac_go 10] := rfl
theorem pb_X9_hasOwn_10 : P_X9_hasOwn 10 = [ac_i (1), ac_go 12] := rfl
theorem pb_X9_hasOwn_11 : P_X9_hasOwn 11 = [ac_i (0), ac_go 12] := rfl
theorem pb_X9_hasOwn_12 : P_X9_hasOwn 12 = [ac_rz (fun v => v &&& 1)] := rfl
theorem pb_X9_hasOwn_13 : P_X9_hasOwn 13 = [ac_ild 1, ac_i (2), ac_if2 (fun x y => decide (¬ x = y)) 14, ac_i (1), ac_go 15] := rfl
theorem pb_X9_hasOwn_14 : P_X9_hasOwn 14 = [ac_i (0), ac_go 15] := rfl
theorem pb_X9_hasOwn_15 : P_X9_hasOwn 15 = [ac_rz (fun v => v &&& 1)] := rfl
theorem pb_X9_hasOwn_16 : P_X9_hasOwn 16 = [ac_ild 1, ac_if0 (fun x => decide (x = 0)) 17, ac_ild 1, ac_i (2), ac_if2 (fun x y => decide (¬ x = y)) 18, ac_go 17] := rfl
theorem pb_X9_hasOwn_17 : P_X9_hasOwn 17 = [ac_i (1), ac_go 19] := rfl
theorem pb_X9_hasOwn_18 : P_X9_hasOwn 18 = [ac_i (0), ac_go 19] := rfl
theorem pb_X9_hasOwn_19 : P_X9_hasOwn 19 = [ac_rz (fun v => v &&& 1)] := rfl
theorem en_X9_voiced {fb : Bool} {d : Nat} {a0 : Nat} {x1 : Int32} {x2 : Int32} {h : pm_HP} : rs fb (d + 1) n_X9_voiced [.ref a0, .int x1, .int x2] h = pm_ev (P_X9_voiced) (rs fb d) (P_X9_voiced 0) [some (.ref a0), some (.int x1), some (.int x2)] [] h := rfl
theorem pb_X9_voiced_0 : P_X9_voiced 0 = [ac_ald 0, ac_ald 0, ac_ald 0, ac_gi [9] 21, ac_i (0), ac_cv n_X9_slipOf 2 [9], ac_ild 1, ac_ild 2, ac_cv n_X9_bodyFrom 3 [9], ac_ri] := rfl
theorem en_X9_bodyFrom {fb : Bool} {d : Nat} {a0 : Nat} {x1 : Int32} {x2 : Int32} {x3 : Int32} {h : pm_HP} : rs fb (d + 1) n_X9_bodyFrom [.ref a0, .int x1, .int x2, .int x3] h = pm_ev (P_X9_bodyFrom) (rs fb d) (P_X9_bodyFrom 0) [some (.ref a0), some (.int x1), some (.int x2), some (.int x3), none] [] h := rfl
theorem pb_X9_bodyFrom_0 : P_X9_bodyFrom 0 = [ac_ild 1, ac_ist 4, ac_go 1] := rfl
theorem pb_X9_bodyFrom_1 : P_X9_bodyFrom 1 = [ac_ild 4, ac_ild 2, ac_cs n_X9_hasOwn 2, ac_if0 (fun x => decide (¬ x = 0)) 2, ac_ild 4, ac_cs n_X9_above 1, ac_ist 4, ac_go 1] := rfl
theorem pb_X9_bodyFrom_2 : P_X9_bodyFrom 2 = [ac_ald 0, ac_gi [9] 22, ac_if0 (fun x => decide (x = 0)) 3, ac_i (0), ac_go 4] := rfl
theorem pb_X9_bodyFrom_3 : P_X9_bodyFrom 3 = [ac_ald 0, ac_ild 4, ac_ild 2, ac_ild 3, ac_cv n_X9_body 3 [9], ac_go 4] := rfl
theorem pb_X9_bodyFrom_4 : P_X9_bodyFrom 4 = [ac_ri] := rfl
theorem en_X9_body {fb : Bool} {d : Nat} {a0 : Nat} {x1 : Int32} {x2 : Int32} {x3 : Int32} {h : pm_HP} : rs fb (d + 1) n_X9_body [.ref a0, .int x1, .int x2, .int x3] h = pm_ev (P_X9_body) (rs fb d) (P_X9_body 0) [some (.ref a0), some (.int x1), some (.int x2), some (.int x3), none, none] [] h := rfl
theorem pb_X9_body_0 : P_X9_body 0 = [ac_ald 0, ac_ald 0, ac_gi [9] 21, ac_i (3), ac_cv n_X9_slipOf 2 [9], ac_ist 4, ac_i (4), ac_ild 1, ac_bin (fun x y => x * y), ac_ild 2, ac_bin (fun x y => x + y), ac_sw [(0, 1), (1, 2), (2, 3), (3, 4), (4, 9), (5, 18), (6, 18), (7, 10), (8, 18), (9, 11), (10, 18), (11, 18), (12, 18), (13, 13), (14, 12), (15, 18), (16, 14), (17, 18), (18, 18), (19, 15), (20, 18), (21, 18), (22, 16), (23, 18), (24, 18), (25, 18), (26, 17)] 18] := rfl
theorem pb_X9_body_1 : P_X9_body 1 = [ac_ald 0, ac_i (10), ac_cv n_X9_began 1 [9], ac_ild 3, ac_ald 0, ac_gi [9] 21, ac_bin (fun x y => x + y), ac_ri] := rfl
theorem pb_X9_body_2 : P_X9_body 2 = [ac_ald 0, ac_i (11), ac_cv n_X9_began 1 [9], ac_ald 0, ac_i (0), ac_ild 3, ac_cv n_X9_voiced 2 [9], ac_i (2), ac_bin (fun x y => x * y), ac_ri] := rfl
theorem pb_X9_body_3 : P_X9_body 3 = [ac_ald 0, ac_i (12), ac_cv n_X9_began 1 [9], ac_ald 0, ac_i (1), ac_ild 3, ac_cv n_X9_voiced 2 [9], ac_ild 4, ac_bin (fun x y => x - y), ac_ri] := rfl
theorem pb_X9_body_4 : P_X9_body 4 = [ac_ald 0, ac_i (13), ac_cv n_X9_began 1 [9], ac_ald 0, ac_ild 4, ac_ald 0, ac_gi [9] 21, ac_if2 (fun x y => decide (¬ x = y)) 5, ac_i (1), ac_go 6] := rfl
theorem pb_X9_body_5 : P_X9_body 5 = [ac_i (0), ac_go 6] := rfl
theorem pb_X9_body_6 : P_X9_body 6 = [ac_pz [9] 22, ac_ald 0, ac_gi [9] 22, ac_if0 (fun x => decide (x = 0)) 7, ac_i (0), ac_go 8] := rfl
theorem pb_X9_body_7 : P_X9_body 7 = [ac_ild 3, ac_ild 4, ac_ald 0, ac_gi [9] 21, ac_bin (fun x y => x - y), ac_dv (fun x y => x / y), ac_go 8] := rfl
theorem pb_X9_body_8 : P_X9_body 8 = [ac_ri] := rfl
theorem pb_X9_body_9 : P_X9_body 9 = [ac_ald 0, ac_i (20), ac_cv n_X9_began 1 [9], ac_ald 0, ac_i (0), ac_i (0), ac_ild 3, ac_cv n_X9_bodyFrom 3 [9], ac_i (4), ac_bin (fun x y => x - y), ac_ri] := rfl
theorem pb_X9_body_10 : P_X9_body 10 = [ac_ald 0, ac_i (21), ac_cv n_X9_began 1 [9], ac_ald 0, ac_i (0), ac_i (3), ac_ild 3, ac_cv n_X9_bodyFrom 3 [9], ac_ist 5, ac_ild 5, ac_ald 0, ac_i (1), ac_i (1), ac_cv n_X9_voiced 2 [9], ac_bin (fun x y => x + y), ac_ri] := rfl
theorem pb_X9_body_11 : P_X9_body 11 = [ac_ald 0, ac_i (30), ac_cv n_X9_began 1 [9], ac_ald 0, ac_i (0), ac_i (1), ac_ild 3, ac_cv n_X9_bodyFrom 3 [9], ac_un (fun x => -x), ac_ri] := rfl
theorem pb_X9_body_12 : P_X9_body 12 = [ac_ald 0, ac_i (40), ac_cv n_X9_began 1 [9], ac_ald 0, ac_i (2), ac_i (2), ac_ild 3, ac_i (2), ac_dv (fun x y => x / y), ac_cv n_X9_bodyFrom 3 [9], ac_ri] := rfl
theorem pb_X9_body_13 : P_X9_body 13 = [ac_ald 0, ac_i (41), ac_cv n_X9_began 1 [9], ac_ald 0, ac_i (2), ac_i (1), ac_ild 3, ac_cv n_X9_bodyFrom 3 [9], ac_ald 0, ac_gi [9] 21, ac_bin (fun x y => x + y), ac_ri] := rfl
theorem pb_X9_body_14 : P_X9_body 14 = [ac_ald 0, ac_i (50), ac_cv n_X9_began 1 [9], ac_ald 0, ac_i (1), ac_i (0), ac_ild 3, ac_cv n_X9_bodyFrom 3 [9], ac_i (3), ac_bin (fun x y => x * y), ac_ri] := rfl
theorem pb_X9_body_15 : P_X9_body 15 = [ac_ald 0, ac_i (51), ac_cv n_X9_began 1 [9], ac_ald 0, ac_i (1), ac_i (3), ac_ild 3, ac_cv n_X9_bodyFrom 3 [9], ac_ist 5, ac_ild 5, ac_ald 0, ac_i (2), ac_i (0), ac_cv n_X9_voiced 2 [9], ac_bin (fun x y => x - y), ac_ri] := rfl
theorem pb_X9_body_16 : P_X9_body 16 = [ac_ald 0, ac_i (60), ac_cv n_X9_began 1 [9], ac_ald 0, ac_i (0), ac_i (2), ac_ild 3, ac_cv n_X9_bodyFrom 3 [9], ac_ild 4, ac_bin (fun x y => x ^^^ y), ac_ri] := rfl
theorem pb_X9_body_17 : P_X9_body 17 = [ac_ald 0, ac_i (70), ac_cv n_X9_began 1 [9], ac_ald 0, ac_i (5), ac_i (2), ac_ild 3, ac_i (1), ac_bin (fun x y => x + y), ac_cv n_X9_bodyFrom 3 [9], ac_ri] := rfl
theorem pb_X9_body_18 : P_X9_body 18 = [ac_ald 0, ac_i (71), ac_cv n_X9_began 1 [9], ac_i (6), ac_ri] := rfl
theorem en_X9_voice {fb : Bool} {d : Nat} {a0 : Nat} {x1 : Int32} {x2 : Int32} {x3 : Int32} {h : pm_HP} : rs fb (d + 1) n_X9_voice [.ref a0, .int x1, .int x2, .int x3] h = pm_ev (P_X9_voice) (rs fb d) (P_X9_voice 0) [some (.ref a0), some (.int x1), some (.int x2), some (.int x3), none] [] h := rfl
theorem pb_X9_voice_0 : P_X9_voice 0 = [ac_ald 0, ac_ild 1, ac_i (1), ac_cv n_X9_is 2 [9], ac_if0 (fun x => decide (x = 0)) 1, ac_ild 2, ac_i (0), ac_i (3), ac_cs n_X9_isIn 3, ac_if0 (fun x => decide (¬ x = 0)) 2, ac_go 1] := rfl
theorem pb_X9_voice_1 : P_X9_voice 1 = [ac_ald 0, ac_i (-1000000001), ac_cv n_X9_finding 1 [9], ac_ri] := rfl
theorem pb_X9_voice_2 : P_X9_voice 2 = [ac_ald 0, ac_i (0), ac_pi [9] 20, ac_ald 0, ac_ild 1, ac_pi [9] 21, ac_ald 0, ac_i (0), ac_pz [9] 22, ac_ald 0, ac_ild 2, ac_ild 3, ac_cv n_X9_voiced 2 [9], ac_ist 4, ac_ald 0, ac_gi [9] 22, ac_if0 (fun x => decide (x = 0)) 3, ac_ald 0, ac_i (-1000000006), ac_cv n_X9_finding 1 [9], ac_go 4] := rfl
theorem pb_X9_voice_3 : P_X9_voice 3 = [ac_ild 4, ac_go 4] := rfl
theorem pb_X9_voice_4 : P_X9_voice 4 = [ac_ri] := rfl
theorem en_X9_body_ {fb : Bool} {d : Nat} {a0 : Nat} {x1 : Int32} {h : pm_HP} : rs fb (d + 1) n_X9_body_ [.ref a0, .int x1] h = pm_ev (P_X9_body_) (rs fb d) (P_X9_body_ 0) [some (.ref a0), some (.int x1)] [] h := rfl
theorem pb_X9_body__0 : P_X9_body_ 0 = [ac_ild 1, ac_i (0), ac_ald 0, ac_gi [9] 20, ac_i (1), ac_bin (fun x y => x - y), ac_cs n_X9_isIn 3, ac_if0 (fun x => decide (x = 0)) 1, ac_ald 0, ac_gr [9] 19, ac_ild 1, ac_ia, ac_go 2] := rfl
theorem pb_X9_body__1 : P_X9_body_ 1 = [ac_ald 0, ac_i (-1000000002), ac_cv n_X9_finding 1 [9], ac_go 2] := rfl
theorem pb_X9_body__2 : P_X9_body_ 2 = [ac_ri] := rfl
theorem en_X9_isSheet {fb : Bool} {d : Nat} {x0 : Int32} {h : pm_HP} : rs fb (d + 1) n_X9_isSheet [.int x0] h = pm_ev (P_X9_isSheet) (rs fb d) (P_X9_isSheet 0) [some (.int x0)] [] h := rfl
theorem pb_X9_isSheet_0 : P_X9_isSheet 0 = [ac_ild 0, ac_i (0), ac_i (3), ac_cs n_X9_isIn 3, ac_rz (fun v => v &&& 1)] := rfl
theorem en_X9_sheet {fb : Bool} {d : Nat} {a0 : Nat} {x1 : Int32} {x2 : Int32} {x3 : Int32} {h : pm_HP} : rs fb (d + 1) n_X9_sheet [.ref a0, .int x1, .int x2, .int x3] h = pm_ev (P_X9_sheet) (rs fb d) (P_X9_sheet 0) [some (.ref a0), some (.int x1), some (.int x2), some (.int x3), none] [] h := rfl
theorem pb_X9_sheet_0 : P_X9_sheet 0 = [ac_ild 1, ac_cs n_X9_isSheet 1, ac_if0 (fun x => decide (x = 0)) 1, ac_ild 2, ac_if0 (fun x => decide (x = 0)) 2, ac_ild 2, ac_i (8), ac_if2 (fun x y => decide (x = y)) 2, ac_ild 2, ac_i (16), ac_if2 (fun x y => decide (x = y)) 2, ac_ild 2, ac_i (32), ac_if2 (fun x y => decide (x = y)) 2, ac_go 1] := rfl
theorem pb_X9_sheet_1 : P_X9_sheet 1 = [ac_ald 0, ac_i (-1000000001), ac_cv n_X9_finding 1 [9], ac_ri] := rfl
theorem pb_X9_sheet_2 : P_X9_sheet 2 = [ac_ild 2, ac_if0 (fun x => decide (x = 0)) 3, ac_ild 3, ac_if0 (fun x => decide (0 ≤ x)) 3, ac_ald 0, ac_i (-1000000003), ac_cv n_X9_finding 1 [9], ac_ri] := rfl
theorem pb_X9_sheet_3 : P_X9_sheet 3 = [ac_ild 2, ac_if0 (fun x => decide (x = 0)) 4, ac_ild 3, ac_i (24), ac_if2 (fun x y => decide (x ≤ y)) 4, ac_ald 0, ac_i (-1000000001), ac_cv n_X9_finding 1 [9], ac_ri] := rfl
theorem pb_X9_sheet_4 : P_X9_sheet 4 = [ac_ald 0, ac_gr [9] 23, ac_ild 1, ac_ild 2, ac_ias, ac_ald 0, ac_gr [9] 24, ac_ild 1, ac_ild 2, ac_if0 (fun x => decide (¬ x = 0)) 5, ac_i (0), ac_go 6] := rfl
theorem pb_X9_sheet_5 : P_X9_sheet 5 = [ac_ild 3, ac_go 6] := rfl
theorem pb_X9_sheet_6 : P_X9_sheet 6 = [ac_ias, ac_i (0), ac_ist 4, ac_go 7] := rfl
theorem pb_X9_sheet_7 : P_X9_sheet 7 = [ac_ild 4, ac_i (24), ac_if2 (fun x y => decide (y ≤ x)) 8, ac_ald 0, ac_gr [9] 25, ac_i (24), ac_ild 1, ac_bin (fun x y => x * y), ac_ild 4, ac_bin (fun x y => x + y), ac_i (0), ac_ias, ac_inc 4 (1), ac_go 7] := rfl
theorem pb_X9_sheet_8 : P_X9_sheet 8 = [ac_i (1), ac_ri] := rfl
theorem en_X9_put {fb : Bool} {d : Nat} {a0 : Nat} {x1 : Int32} {x2 : Int32} {x3 : Int32} {h : pm_HP} : rs fb (d + 1) n_X9_put [.ref a0, .int x1, .int x2, .int x3] h = pm_ev (P_X9_put) (rs fb d) (P_X9_put 0) [some (.ref a0), some (.int x1), some (.int x2), some (.int x3)] [] h := rfl
theorem pb_X9_put_0 : P_X9_put 0 = [ac_ild 1, ac_cs n_X9_isSheet 1, ac_if0 (fun x => decide (¬ x = 0)) 1, ac_ald 0, ac_i (-1000000001), ac_cv n_X9_finding 1 [9], ac_ri] := rfl
theorem pb_X9_put_1 : P_X9_put 1 = [ac_ald 0, ac_gr [9] 23, ac_ild 1, ac_ia, ac_if0 (fun x => decide (¬ x = 0)) 2, ac_ald 0, ac_i (-1000000002), ac_cv n_X9_finding 1 [9], ac_ri] := rfl
theorem pb_X9_put_2 : P_X9_put 2 = [ac_ild 2, ac_i (0), ac_ald 0, ac_gr [9] 24, ac_ild 1, ac_ia, ac_i (1), ac_bin (fun x y => x - y), ac_cs n_X9_isIn 3, ac_if0 (fun x => decide (¬ x = 0)) 3, ac_ald 0, ac_i (-1000000001), ac_cv n_X9_finding 1 [9], ac_ri] := rfl
theorem pb_X9_put_3 : P_X9_put 3 = [ac_ald 0, ac_gr [9] 25, ac_i (24), ac_ild 1, ac_bin (fun x y => x * y), ac_ild 2, ac_bin (fun x y => x + y), ac_ald 0, ac_gr [9] 23, ac_ild 1, ac_ia, ac_i (8), ac_if2 (fun x y => decide (¬ x = y)) 4, ac_ild 3, ac_un (fun x => x.toInt8.toInt32), ac_go 6] := rfl
theorem pb_X9_put_4 : P_X9_put 4 = [ac_ald 0, ac_gr [9] 23, ac_ild 1, ac_ia, ac_i (16), ac_if2 (fun x y => decide (¬ x = y)) 5, ac_ild 3, ac_un (fun x => x.toInt16.toInt32), ac_go 6] := rfl
theorem pb_X9_put_5 : P_X9_put 5 = [ac_ild 3, ac_go 6] := rfl
theorem pb_X9_put_6 : P_X9_put 6 = [ac_ias, ac_i (1), ac_ri] := rfl
theorem en_X9_move {fb : Bool} {d : Nat} {a0 : Nat} {x1 : Int32} {x2 : Int32} {x3 : Int32} {x4 : Int32} {x5 : Int32} {h : pm_HP} : rs fb (d + 1) n_X9_move [.ref a0, .int x1, .int x2, .int x3, .int x4, .int x5] h = pm_ev (P_X9_move) (rs fb d) (P_X9_move 0) [some (.ref a0), some (.int x1), some (.int x2), some (.int x3), some (.int x4), some (.int x5), none] [] h := rfl
theorem pb_X9_move_0 : P_X9_move 0 = [ac_ild 1, ac_cs n_X9_isSheet 1, ac_if0 (fun x => decide (x = 0)) 1, ac_ild 3, ac_cs n_X9_isSheet 1, ac_if0 (fun x => decide (¬ x = 0)) 2, ac_go 1] := rfl
theorem pb_X9_move_1 : P_X9_move 1 = [ac_ald 0, ac_i (-1000000001), ac_cv n_X9_finding 1 [9], ac_ri] := rfl
theorem pb_X9_move_2 : P_X9_move 2 = [ac_ald 0, ac_gr [9] 23, ac_ild 1, ac_ia, ac_if0 (fun x => decide (x = 0)) 3, ac_ald 0, ac_gr [9] 23, ac_ild 3, ac_ia, ac_if0 (fun x => decide (¬ x = 0)) 4, ac_go 3] := rfl
theorem pb_X9_move_3 : P_X9_move 3 = [ac_ald 0, ac_i (-1000000002), ac_cv n_X9_finding 1 [9], ac_ri] := rfl
theorem pb_X9_move_4 : P_X9_move 4 = [ac_ald 0, ac_gr [9] 23, ac_ild 1, ac_ia, ac_ald 0, ac_gr [9] 23, ac_ild 3, ac_ia, ac_if2 (fun x y => decide (x = y)) 5, ac_ald 0, ac_i (-1000000005), ac_cv n_X9_finding 1 [9], ac_ri] := rfl
theorem pb_X9_move_5 : P_X9_move 5 = [ac_ild 5, ac_if0 (fun x => decide (x < 0)) 6, ac_ild 2, ac_if0 (fun x => decide (x < 0)) 6, ac_ild 4, ac_if0 (fun x => decide (x < 0)) 6, ac_ild 2, ac_i2l, ac_ild 5, ac_i2l, ac_lbin (fun x y => x + y), ac_ald 0, ac_gr [9] 24, ac_ild 1, ac_ia, ac_i2l, ac_lcmp, ac_if0 (fun x => decide (0 < x)) 6, ac_ild 4, ac_i2l, ac_ild 5, ac_i2l, ac_lbin (fun x y => x + y), ac_ald 0, ac_gr [9] 24, ac_ild 3, ac_ia, ac_i2l, ac_lcmp, ac_if0 (fun x => decide (x ≤ 0)) 7, ac_go 6] := rfl
theorem pb_X9_move_6 : P_X9_move 6 = [ac_ald 0, ac_i (-1000000001), ac_cv n_X9_finding 1 [9], ac_ri] := rfl
theorem pb_X9_move_7 : P_X9_move 7 = [ac_i (0), ac_ist 6, ac_go 8] := rfl
theorem pb_X9_move_8 : P_X9_move 8 = [ac_ild 6, ac_ild 5, ac_if2 (fun x y => decide (y ≤ x)) 9, ac_ald 0, ac_gr [9] 26, ac_ild 6, ac_ald 0, ac_gr [9] 25, ac_i (24), ac_ild 1, ac_bin (fun x y => x * y), ac_ild 2, ac_bin (fun x y => x + y), ac_ild 6, ac_bin (fun x y => x + y), ac_ia, ac_ias, ac_inc 6 (1), ac_go 8] := rfl
theorem pb_X9_move_9 : P_X9_move 9 = [ac_i (0), ac_ist 6, ac_go 10] := rfl
theorem pb_X9_move_10 : P_X9_move 10 = [ac_ild 6, ac_ild 5, ac_if2 (fun x y => decide (y ≤ x)) 11, ac_ald 0, ac_gr [9] 25, ac_i (24), ac_ild 3, ac_bin (fun x y => x * y), ac_ild 4, ac_bin (fun x y => x + y), ac_ild 6, ac_bin (fun x y => x + y), ac_ald 0, ac_gr [9] 26, ac_ild 6, ac_ia, ac_ias, ac_inc 6 (1), ac_go 10] := rfl
theorem pb_X9_move_11 : P_X9_move 11 = [ac_ild 5, ac_ri] := rfl
theorem en_X9_judge {fb : Bool} {d : Nat} {a0 : Nat} {x1 : Int32} {x2 : Int32} {h : pm_HP} : rs fb (d + 1) n_X9_judge [.ref a0, .int x1, .int x2] h = pm_ev (P_X9_judge) (rs fb d) (P_X9_judge 0) [some (.ref a0), some (.int x1), some (.int x2), none] [] h := rfl
theorem pb_X9_judge_0 : P_X9_judge 0 = [ac_ild 1, ac_cs n_X9_isSheet 1, ac_if0 (fun x => decide (x = 0)) 1, ac_ild 2, ac_i (0), ac_i (9999), ac_cs n_X9_isIn 3, ac_if0 (fun x => decide (¬ x = 0)) 2, ac_go 1] := rfl
theorem pb_X9_judge_1 : P_X9_judge 1 = [ac_ald 0, ac_i (-1000000001), ac_cv n_X9_finding 1 [9], ac_ri] := rfl
theorem pb_X9_judge_2 : P_X9_judge 2 = [ac_ald 0, ac_gr [9] 23, ac_ild 1, ac_ia, ac_if0 (fun x => decide (¬ x = 0)) 3, ac_ald 0, ac_i (-1000000002), ac_cv n_X9_finding 1 [9], ac_ri] := rfl
theorem pb_X9_judge_3 : P_X9_judge 3 = [ac_ald 0, ac_cv n_X9_goes 0 [9], ac_i (0), ac_ist 3, ac_go 4] := rfl
theorem pb_X9_judge_4 : P_X9_judge 4 = [ac_ild 3, ac_ald 0, ac_gr [9] 24, ac_ild 1, ac_ia, ac_if2 (fun x y => decide (y ≤ x)) 7, ac_ild 3, ac_ald 0, ac_gr [9] 0, ac_i (0), ac_ia, ac_if2 (fun x y => decide (y ≤ x)) 5, ac_ald 0, ac_gr [9] 25, ac_i (24), ac_ild 1, ac_bin (fun x y => x * y), ac_ild 3, ac_bin (fun x y => x + y), ac_ia, ac_i2l, ac_ald 0, ac_gr [9] 4, ac_ild 3, ac_i (1), ac_bin (fun x y => x + y), ac_ia, ac_i2l, ac_lbin (fun x y => x - y), ac_ml (fun x => if 0 < x then x else -x), ac_ild 2, ac_i2l, ac_lcmp, ac_if0 (fun x => decide (x ≤ 0)) 6, ac_go 5] := rfl
theorem pb_X9_judge_5 : P_X9_judge 5 = [ac_ild 3, ac_i (1), ac_bin (fun x y => x + y), ac_ri] := rfl
theorem pb_X9_judge_6 : P_X9_judge 6 = [ac_inc 3 (1), ac_go 4] := rfl
theorem pb_X9_judge_7 : P_X9_judge 7 = [ac_i (0), ac_ri] := rfl
theorem en_X9_even {fb : Bool} {d : Nat} {a0 : Nat} {x1 : Int32} {x2 : Int32} {h : pm_HP} : rs fb (d + 1) n_X9_even [.ref a0, .int x1, .int x2] h = pm_ev (P_X9_even) (rs fb d) (P_X9_even 0) [some (.ref a0), some (.int x1), some (.int x2), none, none, none, none, none, none, none] [] h := rfl
theorem pb_X9_even_0 : P_X9_even 0 = [ac_ild 1, ac_cs n_X9_isSheet 1, ac_if0 (fun x => decide (x = 0)) 1, ac_ild 2, ac_i (0), ac_i (1), ac_cs n_X9_isIn 3, ac_if0 (fun x => decide (¬ x = 0)) 2, ac_go 1] := rfl
theorem pb_X9_even_1 : P_X9_even 1 = [ac_ald 0, ac_i (-1000000001), ac_cv n_X9_finding 1 [9], ac_ri] := rfl
theorem pb_X9_even_2 : P_X9_even 2 = [ac_ald 0, ac_gr [9] 23, ac_ild 1, ac_ia, ac_if0 (fun x => decide (¬ x = 0)) 3, ac_ald 0, ac_i (-1000000002), ac_cv n_X9_finding 1 [9], ac_ri] := rfl
theorem pb_X9_even_3 : P_X9_even 3 = [ac_i (0), ac_ist 3, ac_i (0), ac_ist 4, ac_i (0), ac_ist 5, ac_i (0), ac_ist 6, ac_i (0), ac_ist 7, ac_go 4] := rfl
theorem pb_X9_even_4 : P_X9_even 4 = [ac_ild 7, ac_ald 0, ac_gr [9] 24, ac_ild 1, ac_ia, ac_if2 (fun x y => decide (y ≤ x)) 13, ac_ild 6, ac_ist 8, ac_ald 0, ac_gr [9] 25, ac_i (24), ac_ild 1, ac_bin (fun x y => x * y), ac_ild 7, ac_bin (fun x y => x + y), ac_ia, ac_ild 7, ac_if0 (fun x => decide (¬ x = 0)) 5, ac_i (0), ac_go 6] := rfl
theorem pb_X9_even_5 : P_X9_even 5 = [ac_ald 0, ac_gr [9] 25, ac_i (24), ac_ild 1, ac_bin (fun x y => x * y), ac_ild 7, ac_bin (fun x y => x + y), ac_i (1), ac_bin (fun x y => x - y), ac_ia, ac_go 6] := rfl
theorem pb_X9_even_6 : P_X9_even 6 = [ac_bin (fun x y => x - y), ac_ist 6, ac_ild 7, ac_if0 (fun x => decide (x ≤ 0)) 7, ac_ild 6, ac_ild 8, ac_if2 (fun x y => decide (¬ x = y)) 7, ac_i (1), ac_go 8] := rfl
theorem pb_X9_even_7 : P_X9_even 7 = [ac_i (0), ac_go 8] := rfl
theorem pb_X9_even_8 : P_X9_even 8 = [ac_ist 9, ac_ild 3, ac_ild 9, ac_if0 (fun x => decide (x = 0)) 9, ac_i (1), ac_go 10] := rfl
theorem pb_X9_even_9 : P_X9_even 9 = [ac_i (0), ac_go 10] := rfl
theorem pb_X9_even_10 : P_X9_even 10 = [ac_bin (fun x y => x + y), ac_ist 3, ac_ild 9, ac_if0 (fun x => decide (x = 0)) 11, ac_ild 4, ac_i (1), ac_bin (fun x y => x + y), ac_go 12] := rfl
theorem pb_X9_even_11 : P_X9_even 11 = [ac_i (0), ac_go 12] := rfl
theorem pb_X9_even_12 : P_X9_even 12 = [ac_ist 4, ac_ild 5, ac_ild 4, ac_m2 (fun x y => if x < y then y else x), ac_ist 5, ac_inc 7 (1), ac_go 4] := rfl
theorem pb_X9_even_13 : P_X9_even 13 = [ac_ild 2, ac_if0 (fun x => decide (¬ x = 0)) 14, ac_ild 3, ac_go 16] := rfl
theorem pb_X9_even_14 : P_X9_even 14 = [ac_ild 5, ac_i (3), ac_if2 (fun x y => decide (x < y)) 15, ac_i (1), ac_go 16] := rfl
theorem pb_X9_even_15 : P_X9_even 15 = [ac_i (0), ac_go 16] := rfl
theorem pb_X9_even_16 : P_X9_even 16 = [ac_ri] := rfl
theorem en_X9_image {fb : Bool} {d : Nat} {a0 : Nat} {h : pm_HP} : rs fb (d + 1) n_X9_image [.ref a0] h = pm_ev (P_X9_image) (rs fb d) (P_X9_image 0) [some (.ref a0)] [] h := rfl
theorem pb_X9_image_0 : P_X9_image 0 = [ac_ald 0, ac_gr [9] 0, ac_ald 0, ac_gr [9] 1, ac_cs n_X9_copy 2, ac_ald 0, ac_dup, ac_gi [9] 2, ac_i (1), ac_bin (fun x y => x + y), ac_pi [9] 2, ac_ald 0, ac_gi [9] 2, ac_ri] := rfl
theorem en_X9_restore {fb : Bool} {d : Nat} {a0 : Nat} {h : pm_HP} : rs fb (d + 1) n_X9_restore [.ref a0] h = pm_ev (P_X9_restore) (rs fb d) (P_X9_restore 0) [some (.ref a0)] [] h := rfl
theorem pb_X9_restore_0 : P_X9_restore 0 = [ac_ald 0, ac_gi [9] 2, ac_if0 (fun x => decide (¬ x = 0)) 1, ac_ald 0, ac_i (-1000000002), ac_cv n_X9_finding 1 [9], ac_ri] := rfl
theorem pb_X9_restore_1 : P_X9_restore 1 = [ac_ald 0, ac_gr [9] 1, ac_ald 0, ac_gr [9] 0, ac_cs n_X9_copy 2, ac_ald 0, ac_gr [9] 0, ac_i (0), ac_ia, ac_ri] := rfl
theorem en_X9_tell {fb : Bool} {d : Nat} {a0 : Nat} {x1 : Int32} {h : pm_HP} : rs fb (d + 1) n_X9_tell [.ref a0, .int x1] h = pm_ev (P_X9_tell) (rs fb d) (P_X9_tell 0) [some (.ref a0), some (.int x1)] [] h := rfl
theorem pb_X9_tell_0 : P_X9_tell 0 = [ac_ald 0, ac_gr [9] 0, ac_i (4), ac_ia, ac_i (24), ac_if2 (fun x y => decide (¬ x = y)) 1, ac_ald 0, ac_i (-1000000004), ac_cv n_X9_finding 1 [9], ac_ri] := rfl
theorem pb_X9_tell_1 : P_X9_tell 1 = [ac_ald 0, ac_gr [9] 0, ac_i (292), ac_ald 0, ac_gr [9] 0, ac_i (4), ac_ia, ac_bin (fun x y => x + y), ac_ild 1, ac_ias, ac_ald 0, ac_gr [9] 0, ac_i (4), ac_dup2, ac_ia, ac_i (1), ac_bin (fun x y => x + y), ac_ias, ac_ald 0, ac_gr [9] 0, ac_i (4), ac_ia, ac_ri] := rfl
theorem en_X9_check {fb : Bool} {d : Nat} {a0 : Nat} {h : pm_HP} : rs fb (d + 1) n_X9_check [.ref a0] h = pm_ev (P_X9_check) (rs fb d) (P_X9_check 0) [some (.ref a0), none, none] [] h := rfl
theorem pb_X9_check_0 : P_X9_check 0 = [ac_ald 0, ac_gr [9] 0, ac_i (4), ac_ia, ac_ist 1, ac_ald 0, ac_gr [9] 0, ac_i (4), ac_i (0), ac_ias, ac_ald 0, ac_cv n_X9_goes 0 [9], ac_i (0), ac_ist 2, ac_go 1] := rfl
theorem pb_X9_check_1 : P_X9_check 1 = [ac_ild 2, ac_ild 1, ac_if2 (fun x y => decide (y ≤ x)) 2, ac_ild 2, ac_ald 0, ac_gr [9] 0, ac_i (0), ac_ia, ac_if2 (fun x y => decide (y ≤ x)) 2, ac_ald 0, ac_gr [9] 0, ac_i (292), ac_ild 2, ac_bin (fun x y => x + y), ac_ia, ac_ald 0, ac_gr [9] 4, ac_ild 2, ac_i (1), ac_bin (fun x y => x + y), ac_ia, ac_if2 (fun x y => decide (¬ x = y)) 2, ac_inc 2 (1), ac_go 1] := rfl
theorem pb_X9_check_2 : P_X9_check 2 = [ac_ild 2, ac_ild 1, ac_if2 (fun x y => decide (¬ x = y)) 3, ac_ild 2, ac_ald 0, ac_gr [9] 0, ac_i (0), ac_ia, ac_if2 (fun x y => decide (¬ x = y)) 3, ac_i (0), ac_go 4] := rfl
theorem pb_X9_check_3 : P_X9_check 3 = [ac_i (1), ac_ild 2, ac_bin (fun x y => x + y), ac_go 4] := rfl
theorem pb_X9_check_4 : P_X9_check 4 = [ac_ri] := rfl
theorem en_X9_count {fb : Bool} {d : Nat} {a0 : Nat} {x1 : Int32} {h : pm_HP} : rs fb (d + 1) n_X9_count [.ref a0, .int x1] h = pm_ev (P_X9_count) (rs fb d) (P_X9_count 0) [some (.ref a0), some (.int x1), none, none] [] h := rfl
theorem pb_X9_count_0 : P_X9_count 0 = [ac_i (0), ac_ist 2, ac_ild 1, ac_sw [(0, 1), (1, 1), (2, 1), (3, 2), (4, 5), (5, 6), (6, 7), (7, 8)] 9] := rfl
theorem pb_X9_count_1 : P_X9_count 1 = [ac_ald 0, ac_gr [9] 0, ac_ild 1, ac_ia, ac_ri] := rfl
theorem pb_X9_count_2 : P_X9_count 2 = [ac_i (0), ac_ist 3, ac_go 3] := rfl
theorem pb_X9_count_3 : P_X9_count 3 = [ac_ild 3, ac_ald 0, ac_gr [9] 0, ac_i (0), ac_ia, ac_if2 (fun x y => decide (y ≤ x)) 4, ac_ild 2, ac_ald 0, ac_ild 3, ac_i (3), ac_cv n_X9_mileOf 2 [9], ac_bin (fun x y => x + y), ac_ist 2, ac_inc 3 (1), ac_go 3] := rfl
theorem pb_X9_count_4 : P_X9_count 4 = [ac_ild 2, ac_ri] := rfl
theorem pb_X9_count_5 : P_X9_count 5 = [ac_ald 0, ac_gr [9] 0, ac_i (3), ac_ia, ac_ri] := rfl
theorem pb_X9_count_6 : P_X9_count 6 = [ac_ald 0, ac_gr [9] 0, ac_i (4), ac_ia, ac_ri] := rfl
theorem pb_X9_count_7 : P_X9_count 7 = [ac_ald 0, ac_gi [9] 20, ac_ri] := rfl
theorem pb_X9_count_8 : P_X9_count 8 = [ac_ald 0, ac_gr [9] 0, ac_i (5), ac_ia, ac_ri] := rfl
theorem pb_X9_count_9 : P_X9_count 9 = [ac_ald 0, ac_i (-1000000001), ac_cv n_X9_finding 1 [9], ac_ri] := rfl
theorem en_X9_told {fb : Bool} {d : Nat} {a0 : Nat} {x1 : Int32} {h : pm_HP} : rs fb (d + 1) n_X9_told [.ref a0, .int x1] h = pm_ev (P_X9_told) (rs fb d) (P_X9_told 0) [some (.ref a0), some (.int x1)] [] h := rfl
theorem pb_X9_told_0 : P_X9_told 0 = [ac_ild 1, ac_i (1), ac_i (6), ac_cs n_X9_isIn 3, ac_if0 (fun x => decide (x = 0)) 1, ac_ald 0, ac_gr [9] 3, ac_ild 1, ac_ia, ac_go 2] := rfl
theorem pb_X9_told_1 : P_X9_told 1 = [ac_ald 0, ac_i (-1000000001), ac_cv n_X9_finding 1 [9], ac_go 2] := rfl
theorem pb_X9_told_2 : P_X9_told 2 = [ac_ri] := rfl
theorem en_J0_length_8abf5 {fb : Bool} {d : Nat} {a0 : Nat} {h : pm_HP} : rs fb (d + 1) n_J0_length_8abf5 [.ref a0] h = pm_ev (P_J0_length_8abf5) (rs fb d) (P_J0_length_8abf5 0) [some (.ref a0)] [] h := rfl
theorem pb_J0_length_8abf5_0 : P_J0_length_8abf5 0 = [ac_ald 0, ac_tv, ac_lb, ac_ald 0, ac_ct n_J0_coder_7d493 0, ac_bin (fun x y => x >>> (y &&& 31)), ac_ri] := rfl
theorem en_J0_charAt_5068e {fb : Bool} {d : Nat} {a0 : Nat} {x1 : Int32} {h : pm_HP} : rs fb (d + 1) n_J0_charAt_5068e [.ref a0, .int x1] h = pm_ev (P_J0_charAt_5068e) (rs fb d) (P_J0_charAt_5068e 0) [some (.ref a0), some (.int x1)] [] h := rfl
theorem pb_J0_charAt_5068e_0 : P_J0_charAt_5068e 0 = [ac_ald 0, ac_ct n_J0_isLatin1_aae02 0, ac_if0 (fun x => decide (x = 0)) 1, ac_ald 0, ac_tv, ac_ild 1, ac_cs n_J1_charAt_3b067 2, ac_rz (fun v => v.toUInt32.toUInt16.toUInt32.toInt32)] := rfl
theorem pb_J0_charAt_5068e_1 : P_J0_charAt_5068e 1 = [ac_ald 0, ac_tv, ac_ild 1, ac_no] := rfl
theorem en_J0_indexOf_0f7a4 {fb : Bool} {d : Nat} {a0 : Nat} {x1 : Int32} {h : pm_HP} : rs fb (d + 1) n_J0_indexOf_0f7a4 [.ref a0, .int x1] h = pm_ev (P_J0_indexOf_0f7a4) (rs fb d) (P_J0_indexOf_0f7a4 0) [some (.ref a0), some (.int x1)] [] h := rfl
theorem pb_J0_indexOf_0f7a4_0 : P_J0_indexOf_0f7a4 0 = [ac_ald 0, ac_ild 1, ac_i (0), ac_ct n_J0_indexOf_7cf53 2, ac_ri] := rfl
theorem en_J0_indexOf_7cf53 {fb : Bool} {d : Nat} {a0 : Nat} {x1 : Int32} {x2 : Int32} {h : pm_HP} : rs fb (d + 1) n_J0_indexOf_7cf53 [.ref a0, .int x1, .int x2] h = pm_ev (P_J0_indexOf_7cf53) (rs fb d) (P_J0_indexOf_7cf53 0) [some (.ref a0), some (.int x1), some (.int x2)] [] h := rfl
theorem pb_J0_indexOf_7cf53_0 : P_J0_indexOf_7cf53 0 = [ac_ald 0, ac_ct n_J0_isLatin1_aae02 0, ac_if0 (fun x => decide (x = 0)) 1, ac_ald 0, ac_tv, ac_ild 1, ac_ild 2, ac_ald 0, ac_ct n_J0_length_8abf5 0, ac_cs n_J1_indexOf_4cfef 4, ac_go 2] := rfl
theorem pb_J0_indexOf_7cf53_1 : P_J0_indexOf_7cf53 1 = [ac_ald 0, ac_tv, ac_ild 1, ac_ild 2, ac_ald 0, ac_ct n_J0_length_8abf5 0, ac_no] := rfl
theorem pb_J0_indexOf_7cf53_2 : P_J0_indexOf_7cf53 2 = [ac_ri] := rfl
theorem en_J0_coder_7d493 {fb : Bool} {d : Nat} {a0 : Nat} {h : pm_HP} : rs fb (d + 1) n_J0_coder_7d493 [.ref a0] h = pm_ev (P_J0_coder_7d493) (rs fb d) (P_J0_coder_7d493 0) [some (.ref a0)] [] h := rfl
theorem pb_J0_coder_7d493_0 : P_J0_coder_7d493 0 = [ac_i 1, ac_if0 (fun x => decide (x = 0)) 1, ac_ald 0, ac_tc, ac_go 2] := rfl
theorem pb_J0_coder_7d493_1 : P_J0_coder_7d493 1 = [ac_i (1), ac_go 2] := rfl
theorem pb_J0_coder_7d493_2 : P_J0_coder_7d493 2 = [ac_rz (fun v => v.toInt8.toInt32)] := rfl
theorem en_J0_isLatin1_aae02 {fb : Bool} {d : Nat} {a0 : Nat} {h : pm_HP} : rs fb (d + 1) n_J0_isLatin1_aae02 [.ref a0] h = pm_ev (P_J0_isLatin1_aae02) (rs fb d) (P_J0_isLatin1_aae02 0) [some (.ref a0)] [] h := rfl
theorem pb_J0_isLatin1_aae02_0 : P_J0_isLatin1_aae02 0 = [ac_i 1, ac_if0 (fun x => decide (x = 0)) 1, ac_ald 0, ac_tc, ac_if0 (fun x => decide (¬ x = 0)) 1, ac_i (1), ac_go 2] := rfl
theorem pb_J0_isLatin1_aae02_1 : P_J0_isLatin1_aae02 1 = [ac_i (0), ac_go 2] := rfl
theorem pb_J0_isLatin1_aae02_2 : P_J0_isLatin1_aae02 2 = [ac_rz (fun v => v &&& 1)] := rfl
theorem en_J0_checkIndex_df160 {fb : Bool} {d : Nat} {x0 : Int32} {x1 : Int32} {h : pm_HP} : rs fb (d + 1) n_J0_checkIndex_df160 [.int x0, .int x1] h = pm_ev (P_J0_checkIndex_df160 fb) (rs fb d) (P_J0_checkIndex_df160 fb 0) [some (.int x0), some (.int x1)] [] h := rfl
theorem pb_J0_checkIndex_df160_0 {fb : Bool} : P_J0_checkIndex_df160 fb 0 = [ac_ild 0, ac_ild 1, ac_v (pm_fv fb), ac_cs n_J3_checkIndex_8e157 3, ac_pop, ac_rv] := rfl
theorem en_J1_charAt_3b067 {fb : Bool} {d : Nat} {x0 : Nat} {x1 : Int32} {h : pm_HP} : rs fb (d + 1) n_J1_charAt_3b067 [.ref x0, .int x1] h = pm_ev (P_J1_charAt_3b067) (rs fb d) (P_J1_charAt_3b067 0) [some (.ref x0), some (.int x1)] [] h := rfl
theorem pb_J1_charAt_3b067_0 : P_J1_charAt_3b067 0 = [ac_ild 1, ac_ald 0, ac_lb, ac_cs n_J0_checkIndex_df160 2, ac_ald 0, ac_ild 1, ac_ba, ac_i (255), ac_bin (fun x y => x &&& y), ac_un (fun x => (x.toUInt32 % 65536).toInt32), ac_rz (fun v => v.toUInt32.toUInt16.toUInt32.toInt32)] := rfl
theorem en_J1_canEncode_9a6ad {fb : Bool} {d : Nat} {x0 : Int32} {h : pm_HP} : rs fb (d + 1) n_J1_canEncode_9a6ad [.int x0] h = pm_ev (P_J1_canEncode_9a6ad) (rs fb d) (P_J1_canEncode_9a6ad 0) [some (.int x0)] [] h := rfl
theorem pb_J1_canEncode_9a6ad_0 : P_J1_canEncode_9a6ad 0 = [ac_ild 0, ac_if0 (fun x => decide (x < 0)) 1, ac_ild 0, ac_i (255), ac_if2 (fun x y => decide (y < x)) 1, ac_i (1), ac_go 2] := rfl
theorem pb_J1_canEncode_9a6ad_1 : P_J1_canEncode_9a6ad 1 = [ac_i (0), ac_go 2] := rfl
theorem pb_J1_canEncode_9a6ad_2 : P_J1_canEncode_9a6ad 2 = [ac_rz (fun v => v &&& 1)] := rfl
theorem en_J1_indexOf_4cfef {fb : Bool} {d : Nat} {x0 : Nat} {x1 : Int32} {x2 : Int32} {x3 : Int32} {h : pm_HP} : rs fb (d + 1) n_J1_indexOf_4cfef [.ref x0, .int x1, .int x2, .int x3] h = pm_ev (P_J1_indexOf_4cfef) (rs fb d) (P_J1_indexOf_4cfef 0) [some (.ref x0), some (.int x1), some (.int x2), some (.int x3)] [] h := rfl
theorem pb_J1_indexOf_4cfef_0 : P_J1_indexOf_4cfef 0 = [ac_ild 1, ac_cs n_J1_canEncode_9a6ad 1, ac_if0 (fun x => decide (¬ x = 0)) 1, ac_i (-1), ac_ri] := rfl
theorem pb_J1_indexOf_4cfef_1 : P_J1_indexOf_4cfef 1 = [ac_ild 2, ac_i (0), ac_m2 (fun x y => if x < y then y else x), ac_ist 2, ac_ild 3, ac_ald 0, ac_lb, ac_m2 (fun x y => if y < x then y else x), ac_ist 3, ac_ild 2, ac_ild 3, ac_if2 (fun x y => decide (x < y)) 2, ac_i (-1), ac_ri] := rfl
theorem pb_J1_indexOf_4cfef_2 : P_J1_indexOf_4cfef 2 = [ac_ald 0, ac_ild 1, ac_ild 2, ac_ild 3, ac_cs n_J1_indexOfChar_4cfef 4, ac_ri] := rfl
theorem en_J1_indexOfChar_4cfef {fb : Bool} {d : Nat} {x0 : Nat} {x1 : Int32} {x2 : Int32} {x3 : Int32} {h : pm_HP} : rs fb (d + 1) n_J1_indexOfChar_4cfef [.ref x0, .int x1, .int x2, .int x3] h = pm_ev (P_J1_indexOfChar_4cfef) (rs fb d) (P_J1_indexOfChar_4cfef 0) [some (.ref x0), some (.int x1), some (.int x2), some (.int x3), none, none] [] h := rfl
theorem pb_J1_indexOfChar_4cfef_0 : P_J1_indexOfChar_4cfef 0 = [ac_ild 1, ac_un (fun x => x.toInt8.toInt32), ac_ist 4, ac_ild 2, ac_ist 5, ac_go 1] := rfl
theorem pb_J1_indexOfChar_4cfef_1 : P_J1_indexOfChar_4cfef 1 = [ac_ild 5, ac_ild 3, ac_if2 (fun x y => decide (y ≤ x)) 3, ac_ald 0, ac_ild 5, ac_ba, ac_ild 4, ac_if2 (fun x y => decide (¬ x = y)) 2, ac_ild 5, ac_ri] := rfl
theorem pb_J1_indexOfChar_4cfef_2 : P_J1_indexOfChar_4cfef 2 = [ac_inc 5 (1), ac_go 1] := rfl
theorem pb_J1_indexOfChar_4cfef_3 : P_J1_indexOfChar_4cfef 3 = [ac_i (-1), ac_ri] := rfl
theorem en_J3_checkIndex_8e157 {fb : Bool} {d : Nat} {x0 : Int32} {x1 : Int32} {x2 : Nat} {h : pm_HP} : rs fb (d + 1) n_J3_checkIndex_8e157 [.int x0, .int x1, .ref x2] h = pm_ev (P_J3_checkIndex_8e157) (rs fb d) (P_J3_checkIndex_8e157 0) [some (.int x0), some (.int x1), some (.ref x2)] [] h := rfl
theorem pb_J3_checkIndex_8e157_0 : P_J3_checkIndex_8e157 0 = [ac_ild 0, ac_if0 (fun x => decide (x < 0)) 1, ac_ild 0, ac_ild 1, ac_if2 (fun x y => decide (x < y)) 2, ac_go 1] := rfl
theorem pb_J3_checkIndex_8e157_1 : P_J3_checkIndex_8e157 1 = [ac_ald 2, ac_ild 0, ac_ild 1, ac_no] := rfl
theorem pb_J3_checkIndex_8e157_2 : P_J3_checkIndex_8e157 2 = [ac_ild 0, ac_ri] := rfl
