/-! THE METHODS AS ACTIONS, by program -/
def n_X0_isTold : Nat := 0
def n_X0_clear : Nat := 1
def n_X0_add : Nat := 2
def n_X0_take : Nat := 3
def n_X0_workedOut : Nat := 4
def n_X0_named : Nat := 5
def n_X0_joined : Nat := 6
def n_X0_truth : Nat := 7
def n_X1_faultOf : Nat := 8
def n_X1_readT : Nat := 9
def n_X1_readA : Nat := 10
def n_X1_readB : Nat := 11
def n_X1_readS : Nat := 12
def n_X1_readP : Nat := 13
def n_X1_readQ : Nat := 14
def n_X1_readNumber : Nat := 15
def n_X1_nameOf : Nat := 16
def n_X1_next : Nat := 17
def n_X1_isNext : Nat := 18
def n_X1_isDigit : Nat := 19
def n_X2_isMissing : Nat := 20
def n_X2_lay : Nat := 21
def n_X2_stand : Nat := 22
def n_X2_number : Nat := 23
def n_X2_write : Nat := 24
def n_X2_lowest : Nat := 25
def n_X2_step : Nat := 26
def n_X2_isEven : Nat := 27
def n_X2_evenSteps : Nat := 28
def n_X2_longestEvenRow : Nat := 29
def n_X3_isOf : Nat := 30
def n_X3_leansAt : Nat := 31
def n_X3_pushesAt : Nat := 32
def n_X3_shortensAt : Nat := 33
def n_X3_isFirst : Nat := 34
def n_X3_spans : Nat := 35
def n_X3_above : Nat := 36
def n_X4_speak : Nat := 37
def n_X4_isParted : Nat := 38
def n_X4_sound : Nat := 39
def n_X4_workedOut : Nat := 40
def n_X4_mended : Nat := 41
def n_X4_bodyOf : Nat := 42
def n_X5_draw : Nat := 43
def n_X5_take : Nat := 44
def n_X6_used : Nat := 45
def n_X6_use : Nat := 46
def n_X6_has : Nat := 47
def n_X6_isFull : Nat := 48
def n_X6_add : Nat := 49
def n_X6_at : Nat := 50
def n_X6_set : Nat := 51
def n_X6_howMany : Nat := 52
def n_X6_take : Nat := 53
def n_X6_holds : Nat := 54
def n_X7_go : Nat := 55
def n_X7_addUpSlips : Nat := 56
def n_X7_sideOf : Nat := 57
def n_X7_alongOf : Nat := 58
def n_X7_headingIn : Nat := 59
def n_X7_pushesIn : Nat := 60
def n_X7_shortensIn : Nat := 61
def n_X7_missSide : Nat := 62
def n_X7_missAlong : Nat := 63
def n_X7_wholeMiss : Nat := 64
def n_X7_distanceOf : Nat := 65
def n_X7_offWithChecks : Nat := 66
def n_X7_bestCheck : Nat := 67
def n_X7_bestPairOfChecks : Nat := 68
def n_X7_sumOfSides : Nat := 69
def n_X7_sumOfSquares : Nat := 70
def n_X7_offStraight : Nat := 71
def n_X8_miles : Nat := 72
def n_X8_mile : Nat := 73
def n_X8_mileIs : Nat := 74
def n_X8_stone : Nat := 75
def n_X8_slip : Nat := 76
def n_X8_slipIs : Nat := 77
def n_X8_as : Nat := 78
def n_X8_turn : Nat := 79
def n_X8_does : Nat := 80
def n_X8_feed : Nat := 81
def n_X8_text : Nat := 82
def n_X8_untell : Nat := 83
def n_X8_post : Nat := 84
def n_X8_miss : Nat := 85
def n_X8_wronged : Nat := 86
def n_X8_which : Nat := 87
def n_X8_checks : Nat := 88
def n_X8_hours : Nat := 89
def n_X8_within : Nat := 90
def n_X8_leaning : Nat := 91
def n_X8_straight : Nat := 92
def n_X8_offIt : Nat := 93
def n_X8_nearest : Nat := 94
def n_X8_crosses : Nat := 95
def n_X8_tree : Nat := 96
def n_X8_treeIs : Nat := 97
def n_X8_dig : Nat := 98
def n_X8_sorts : Nat := 99
def n_X8_waver : Nat := 100
def n_X8_still : Nat := 101
def n_X8_seed : Nat := 102
def n_X8_voice : Nat := 103
def n_X8_body : Nat := 104
def n_X8_sheet : Nat := 105
def n_X8_put : Nat := 106
def n_X8_move : Nat := 107
def n_X8_judge : Nat := 108
def n_X8_even : Nat := 109
def n_X8_image : Nat := 110
def n_X8_restore : Nat := 111
def n_X8_tell : Nat := 112
def n_X8_check : Nat := 113
def n_X8_count : Nat := 114
def n_X8_told : Nat := 115
def n_X8_fail : Nat := 116
def n_X8_lawOf : Nat := 117
def n_X8_sheetOf : Nat := 118
def n_X8_movingOf : Nat := 119
def n_X8_movedBy : Nat := 120
def n_X8_isMovedBy : Nat := 121
def n_X8_hoursOf : Nat := 122
def n_X8_held : Nat := 123
def n_X8_isIn : Nat := 124
def n_X8_greatestCommon : Nat := 125
def n_X9_finding : Nat := 126
def n_X9_isIn : Nat := 127
def n_X9_held : Nat := 128
def n_X9_copy : Nat := 129
def n_X9_become : Nat := 130
def n_X9_is : Nat := 131
def n_X9_isMile : Nat := 132
def n_X9_mileOf : Nat := 133
def n_X9_miles : Nat := 134
def n_X9_mile : Nat := 135
def n_X9_stone : Nat := 136
def n_X9_slipOf : Nat := 137
def n_X9_slip : Nat := 138
def n_X9_slipIs : Nat := 139
def n_X9_above : Nat := 140
def n_X9_as : Nat := 141
def n_X9_turn : Nat := 142
def n_X9_doesAt : Nat := 143
def n_X9_does : Nat := 144
def n_X9_allThat : Nat := 145
def n_X9_goes : Nat := 146
def n_X9_missIn : Nat := 147
def n_X9_mileIs : Nat := 148
def n_X9_feed : Nat := 149
def n_X9_here : Nat := 150
def n_X9_takes : Nat := 151
def n_X9_codes : Nat := 152
def n_X9_either : Nat := 153
def n_X9_both : Nat := 154
def n_X9_compared : Nat := 155
def n_X9_sum : Nat := 156
def n_X9_product : Nat := 157
def n_X9_nameOf : Nat := 158
def n_X9_one : Nat := 159
def n_X9_text : Nat := 160
def n_X9_untell : Nat := 161
def n_X9_done : Nat := 162
def n_X9_worked : Nat := 163
def n_X9_hasText : Nat := 164
def n_X9_given : Nat := 165
def n_X9_treesAt : Nat := 166
def n_X9_movingOf : Nat := 167
def n_X9_hoursOf : Nat := 168
def n_X9_post : Nat := 169
def n_X9_miss : Nat := 170
def n_X9_wronged : Nat := 171
def n_X9_which : Nat := 172
def n_X9_offBy : Nat := 173
def n_X9_checks : Nat := 174
def n_X9_hours : Nat := 175
def n_X9_within : Nat := 176
def n_X9_leaning : Nat := 177
def n_X9_divisor : Nat := 178
def n_X9_findStraight : Nat := 179
def n_X9_straight : Nat := 180
def n_X9_offIt : Nat := 181
def n_X9_nearest : Nat := 182
def n_X9_crosses : Nat := 183
def n_X9_treeOf : Nat := 184
def n_X9_tree : Nat := 185
def n_X9_treeIs : Nat := 186
def n_X9_dig : Nat := 187
def n_X9_sorts : Nat := 188
def n_X9_drawn : Nat := 189
def n_X9_waver : Nat := 190
def n_X9_still : Nat := 191
def n_X9_seed : Nat := 192
def n_X9_began : Nat := 193
def n_X9_hasOwn : Nat := 194
def n_X9_voiced : Nat := 195
def n_X9_bodyFrom : Nat := 196
def n_X9_body : Nat := 197
def n_X9_voice : Nat := 198
def n_X9_body_ : Nat := 199
def n_X9_isSheet : Nat := 200
def n_X9_sheet : Nat := 201
def n_X9_put : Nat := 202
def n_X9_move : Nat := 203
def n_X9_judge : Nat := 204
def n_X9_even : Nat := 205
def n_X9_image : Nat := 206
def n_X9_restore : Nat := 207
def n_X9_tell : Nat := 208
def n_X9_check : Nat := 209
def n_X9_count : Nat := 210
def n_X9_told : Nat := 211
def n_J0_length_8abf5 : Nat := 212
def n_J0_charAt_5068e : Nat := 213
def n_J0_indexOf_0f7a4 : Nat := 214
def n_J0_indexOf_7cf53 : Nat := 215
def n_J0_coder_7d493 : Nat := 216
def n_J0_isLatin1_aae02 : Nat := 217
def n_J0_checkIndex_df160 : Nat := 218
def n_J1_charAt_3b067 : Nat := 219
def n_J1_canEncode_9a6ad : Nat := 220
def n_J1_indexOf_4cfef : Nat := 221
def n_J1_indexOfChar_4cfef : Nat := 222
def n_J3_checkIndex_8e157 : Nat := 223
def P_X0_isTold (b : Nat) : List pm_Ac := ([[ac_ald 0, ac_gi [0] 1, ac_if0 (fun x => decide (x ≤ 0)) 1, ac_i (1), ac_go 2],
  [ac_i (0), ac_go 2],
  [ac_rz (fun v => v &&& 1)]] : List (List pm_Ac)).getD b []
def P_X0_clear (b : Nat) : List pm_Ac := ([[ac_ald 0, ac_i (0), ac_pi [0] 1, ac_rv]] : List (List pm_Ac)).getD b []
def P_X0_add (b : Nat) : List pm_Ac := ([[ac_ald 0, ac_gi [0] 1, ac_ald 0, ac_gr [0] 0, ac_ln, ac_if2 (fun x y => decide (y ≤ x)) 1, ac_ald 0, ac_gr [0] 0, ac_ald 0, ac_gi [0] 1, ac_ild 1, ac_ias, ac_ald 0, ac_dup, ac_gi [0] 1, ac_i (1), ac_bin (fun x y => x + y), ac_pi [0] 1, ac_go 1],
  [ac_rv]] : List (List pm_Ac)).getD b []
def P_X0_take (b : Nat) : List pm_Ac := ([[ac_ald 1, ac_gr [0] 0, ac_i (0), ac_ald 0, ac_gr [0] 0, ac_i (0), ac_ald 0, ac_gr [0] 0, ac_ln, ac_cp, ac_ald 0, ac_ald 1, ac_gi [0] 1, ac_pi [0] 1, ac_rv]] : List (List pm_Ac)).getD b []
def P_X0_workedOut (b : Nat) : List pm_Ac := ([[ac_i (0), ac_ist 3, ac_i (0), ac_ist 4, ac_go 1],
  [ac_ild 4, ac_ald 0, ac_gi [0] 1, ac_if2 (fun x y => decide (y ≤ x)) 9, ac_ald 0, ac_gr [0] 0, ac_ild 4, ac_ia, ac_ist 5, ac_ild 5, ac_i (20000), ac_if2 (fun x y => decide (y ≤ x)) 4, ac_ild 3, ac_ald 2, ac_ln, ac_if2 (fun x y => decide (y ≤ x)) 4, ac_ald 2, ac_ild 3, ac_ild 5, ac_i (10000), ac_if2 (fun x y => decide (y ≤ x)) 2, ac_ild 5, ac_go 3],
  [ac_ald 1, ac_ild 5, ac_i (10000), ac_bin (fun x y => x - y), ac_cs n_X0_named 2, ac_go 3],
  [ac_ias, ac_inc 3 (1), ac_go 8],
  [ac_ild 5, ac_i (20033), ac_if2 (fun x y => decide (¬ x = y)) 7, ac_ild 3, ac_i (1), ac_if2 (fun x y => decide (x < y)) 7, ac_ald 2, ac_ild 3, ac_i (1), ac_bin (fun x y => x - y), ac_ald 2, ac_ild 3, ac_i (1), ac_bin (fun x y => x - y), ac_ia, ac_if0 (fun x => decide (¬ x = 0)) 5, ac_i (1), ac_go 6],
  [ac_i (0), ac_go 6],
  [ac_cs n_X0_truth 1, ac_ias, ac_go 8],
  [ac_ild 3, ac_i (2), ac_if2 (fun x y => decide (x < y)) 8, ac_inc 3 (-1), ac_ald 2, ac_ild 3, ac_i (1), ac_bin (fun x y => x - y), ac_ild 5, ac_i (20000), ac_bin (fun x y => x - y), ac_ald 2, ac_ild 3, ac_i (1), ac_bin (fun x y => x - y), ac_ia, ac_ald 2, ac_ild 3, ac_ia, ac_cs n_X0_joined 3, ac_ias, ac_go 8],
  [ac_inc 4 (1), ac_go 1],
  [ac_ild 3, ac_if0 (fun x => decide (x ≤ 0)) 10, ac_ald 2, ac_i (0), ac_ia, ac_go 11],
  [ac_i (0), ac_go 11],
  [ac_ri]] : List (List pm_Ac)).getD b []
def P_X0_named (b : Nat) : List pm_Ac := ([[ac_ild 1, ac_i (0), ac_ald 0, ac_ln, ac_i (1), ac_bin (fun x y => x - y), ac_cs n_X8_isIn 3, ac_if0 (fun x => decide (x = 0)) 1, ac_ald 0, ac_ild 1, ac_ia, ac_go 2],
  [ac_i (0), ac_go 2],
  [ac_ri]] : List (List pm_Ac)).getD b []
def P_X0_joined (b : Nat) : List pm_Ac := ([[ac_ild 0, ac_sw [(38, 5), (42, 19), (43, 17), (45, 18), (47, 20), (60, 8), (61, 11), (62, 14), (124, 1)] 23],
  [ac_ild 1, ac_if0 (fun x => decide (¬ x = 0)) 2, ac_ild 2, ac_if0 (fun x => decide (x = 0)) 3, ac_go 2],
  [ac_i (1), ac_go 4],
  [ac_i (0), ac_go 4],
  [ac_cs n_X0_truth 1, ac_ri],
  [ac_ild 1, ac_if0 (fun x => decide (x = 0)) 6, ac_ild 2, ac_if0 (fun x => decide (x = 0)) 6, ac_i (1), ac_go 7],
  [ac_i (0), ac_go 7],
  [ac_cs n_X0_truth 1, ac_ri],
  [ac_ild 1, ac_ild 2, ac_if2 (fun x y => decide (y ≤ x)) 9, ac_i (1), ac_go 10],
  [ac_i (0), ac_go 10],
  [ac_cs n_X0_truth 1, ac_ri],
  [ac_ild 1, ac_ild 2, ac_if2 (fun x y => decide (¬ x = y)) 12, ac_i (1), ac_go 13],
  [ac_i (0), ac_go 13],
  [ac_cs n_X0_truth 1, ac_ri],
  [ac_ild 1, ac_ild 2, ac_if2 (fun x y => decide (x ≤ y)) 15, ac_i (1), ac_go 16],
  [ac_i (0), ac_go 16],
  [ac_cs n_X0_truth 1, ac_ri],
  [ac_ild 1, ac_ild 2, ac_bin (fun x y => x + y), ac_ri],
  [ac_ild 1, ac_ild 2, ac_bin (fun x y => x - y), ac_ri],
  [ac_ild 1, ac_ild 2, ac_bin (fun x y => x * y), ac_ri],
  [ac_ild 2, ac_if0 (fun x => decide (¬ x = 0)) 21, ac_i (0), ac_go 22],
  [ac_ild 1, ac_ild 2, ac_dv (fun x y => x / y), ac_go 22],
  [ac_ri],
  [ac_ild 2, ac_if0 (fun x => decide (¬ x = 0)) 24, ac_i (0), ac_go 25],
  [ac_ild 1, ac_ild 2, ac_dv (fun x y => x - x / y * y), ac_go 25],
  [ac_ri]] : List (List pm_Ac)).getD b []
def P_X0_truth (b : Nat) : List pm_Ac := ([[ac_ild 0, ac_if0 (fun x => decide (x = 0)) 1, ac_i (1), ac_go 2],
  [ac_i (0), ac_go 2],
  [ac_ri]] : List (List pm_Ac)).getD b []
def P_X1_faultOf (b : Nat) : List pm_Ac := ([[ac_ald 0, ac_gr [1] 1, ac_ald 1, ac_cv n_X6_take 1 [6, 3], ac_ald 0, ac_ald 2, ac_ps [1] 2, ac_ald 0, ac_gr [1] 0, ac_cv n_X0_clear 0 [0], ac_ald 0, ac_i (0), ac_pi [1] 3, ac_ald 0, ac_i (0), ac_pi [1] 4, ac_ald 0, ac_i (0), ac_pz [1] 5, ac_ald 0, ac_cv n_X1_readT 0 [1], ac_ald 0, ac_gi [1] 5, ac_if0 (fun x => decide (¬ x = 0)) 1, ac_ald 0, ac_gi [1] 3, ac_ald 0, ac_gr [1] 1, ac_cv n_X6_used 0 [6, 3], ac_if2 (fun x y => decide (y ≤ x)) 2, ac_go 1],
  [ac_ald 0, ac_gi [1] 3, ac_go 3],
  [ac_i (-1), ac_go 3],
  [ac_ri]] : List (List pm_Ac)).getD b []
def P_X1_readT (b : Nat) : List pm_Ac := ([[ac_ald 0, ac_cv n_X1_readA 0 [1], ac_i (0), ac_ist 1, ac_go 1],
  [ac_ild 1, ac_i (60), ac_if2 (fun x y => decide (y ≤ x)) 2, ac_ald 0, ac_i (124), ac_cv n_X1_isNext 1 [1], ac_if0 (fun x => decide (x = 0)) 2, ac_ald 0, ac_dup, ac_gi [1] 3, ac_i (1), ac_bin (fun x y => x + y), ac_pi [1] 3, ac_ald 0, ac_cv n_X1_readA 0 [1], ac_ald 0, ac_gr [1] 0, ac_i (20124), ac_cv n_X0_add 1 [0], ac_inc 1 (1), ac_go 1],
  [ac_rv]] : List (List pm_Ac)).getD b []
def P_X1_readA (b : Nat) : List pm_Ac := ([[ac_ald 0, ac_cv n_X1_readB 0 [1], ac_i (0), ac_ist 1, ac_go 1],
  [ac_ild 1, ac_i (60), ac_if2 (fun x y => decide (y ≤ x)) 2, ac_ald 0, ac_i (38), ac_cv n_X1_isNext 1 [1], ac_if0 (fun x => decide (x = 0)) 2, ac_ald 0, ac_dup, ac_gi [1] 3, ac_i (1), ac_bin (fun x y => x + y), ac_pi [1] 3, ac_ald 0, ac_cv n_X1_readB 0 [1], ac_ald 0, ac_gr [1] 0, ac_i (20038), ac_cv n_X0_add 1 [0], ac_inc 1 (1), ac_go 1],
  [ac_rv]] : List (List pm_Ac)).getD b []
def P_X1_readB (b : Nat) : List pm_Ac := ([[ac_ald 0, ac_cv n_X1_readS 0 [1], ac_ald 0, ac_i (60), ac_cv n_X1_isNext 1 [1], ac_if0 (fun x => decide (¬ x = 0)) 1, ac_ald 0, ac_i (61), ac_cv n_X1_isNext 1 [1], ac_if0 (fun x => decide (¬ x = 0)) 1, ac_ald 0, ac_i (62), ac_cv n_X1_isNext 1 [1], ac_if0 (fun x => decide (x = 0)) 2, ac_go 1],
  [ac_ald 0, ac_cv n_X1_next 0 [1], ac_ist 1, ac_ald 0, ac_dup, ac_gi [1] 3, ac_i (1), ac_bin (fun x y => x + y), ac_pi [1] 3, ac_ald 0, ac_cv n_X1_readS 0 [1], ac_ald 0, ac_gr [1] 0, ac_i (20000), ac_ild 1, ac_bin (fun x y => x + y), ac_cv n_X0_add 1 [0], ac_go 2],
  [ac_rv]] : List (List pm_Ac)).getD b []
def P_X1_readS (b : Nat) : List pm_Ac := ([[ac_ald 0, ac_cv n_X1_readP 0 [1], ac_i (0), ac_ist 1, ac_go 1],
  [ac_ild 1, ac_i (60), ac_if2 (fun x y => decide (y ≤ x)) 3, ac_ald 0, ac_i (43), ac_cv n_X1_isNext 1 [1], ac_if0 (fun x => decide (¬ x = 0)) 2, ac_ald 0, ac_i (45), ac_cv n_X1_isNext 1 [1], ac_if0 (fun x => decide (x = 0)) 3, ac_go 2],
  [ac_ald 0, ac_cv n_X1_next 0 [1], ac_ist 2, ac_ald 0, ac_dup, ac_gi [1] 3, ac_i (1), ac_bin (fun x y => x + y), ac_pi [1] 3, ac_ald 0, ac_cv n_X1_readP 0 [1], ac_ald 0, ac_gr [1] 0, ac_i (20000), ac_ild 2, ac_bin (fun x y => x + y), ac_cv n_X0_add 1 [0], ac_inc 1 (1), ac_go 1],
  [ac_rv]] : List (List pm_Ac)).getD b []
def P_X1_readP (b : Nat) : List pm_Ac := ([[ac_ald 0, ac_cv n_X1_readQ 0 [1], ac_i (0), ac_ist 1, ac_go 1],
  [ac_ild 1, ac_i (60), ac_if2 (fun x y => decide (y ≤ x)) 3, ac_ald 0, ac_i (42), ac_cv n_X1_isNext 1 [1], ac_if0 (fun x => decide (¬ x = 0)) 2, ac_ald 0, ac_i (47), ac_cv n_X1_isNext 1 [1], ac_if0 (fun x => decide (¬ x = 0)) 2, ac_ald 0, ac_i (37), ac_cv n_X1_isNext 1 [1], ac_if0 (fun x => decide (x = 0)) 3, ac_go 2],
  [ac_ald 0, ac_cv n_X1_next 0 [1], ac_ist 2, ac_ald 0, ac_dup, ac_gi [1] 3, ac_i (1), ac_bin (fun x y => x + y), ac_pi [1] 3, ac_ald 0, ac_cv n_X1_readQ 0 [1], ac_ald 0, ac_gr [1] 0, ac_i (20000), ac_ild 2, ac_bin (fun x y => x + y), ac_cv n_X0_add 1 [0], ac_inc 1 (1), ac_go 1],
  [ac_rv]] : List (List pm_Ac)).getD b []
def P_X1_readQ (b : Nat) : List pm_Ac := ([[ac_ald 0, ac_cv n_X1_next 0 [1], ac_ist 1, ac_ild 1, ac_cs n_X1_isDigit 1, ac_if0 (fun x => decide (x = 0)) 1, ac_ald 0, ac_cv n_X1_readNumber 0 [1], ac_go 9],
  [ac_ald 0, ac_ild 1, ac_cv n_X1_nameOf 1 [1], ac_if0 (fun x => decide (x < 0)) 2, ac_ald 0, ac_gr [1] 0, ac_i (10000), ac_ald 0, ac_ild 1, ac_cv n_X1_nameOf 1 [1], ac_bin (fun x y => x + y), ac_cv n_X0_add 1 [0], ac_ald 0, ac_dup, ac_gi [1] 3, ac_i (1), ac_bin (fun x y => x + y), ac_pi [1] 3, ac_go 9],
  [ac_ild 1, ac_i (33), ac_if2 (fun x y => decide (¬ x = y)) 3, ac_ald 0, ac_gi [1] 4, ac_i (5), ac_if2 (fun x y => decide (y ≤ x)) 3, ac_ald 0, ac_dup, ac_gi [1] 4, ac_i (1), ac_bin (fun x y => x + y), ac_pi [1] 4, ac_ald 0, ac_dup, ac_gi [1] 3, ac_i (1), ac_bin (fun x y => x + y), ac_pi [1] 3, ac_ald 0, ac_cv n_X1_readQ 0 [1], ac_ald 0, ac_dup, ac_gi [1] 4, ac_i (1), ac_bin (fun x y => x - y), ac_pi [1] 4, ac_ald 0, ac_gr [1] 0, ac_i (20033), ac_cv n_X0_add 1 [0], ac_go 9],
  [ac_ild 1, ac_i (40), ac_if2 (fun x y => decide (¬ x = y)) 8, ac_ald 0, ac_gi [1] 4, ac_i (5), ac_if2 (fun x y => decide (y ≤ x)) 8, ac_ald 0, ac_dup, ac_gi [1] 4, ac_i (1), ac_bin (fun x y => x + y), ac_pi [1] 4, ac_ald 0, ac_dup, ac_gi [1] 3, ac_i (1), ac_bin (fun x y => x + y), ac_pi [1] 3, ac_ald 0, ac_cv n_X1_readT 0 [1], ac_ald 0, ac_dup, ac_gi [1] 4, ac_i (1), ac_bin (fun x y => x - y), ac_pi [1] 4, ac_ald 0, ac_ald 0, ac_i (41), ac_cv n_X1_isNext 1 [1], ac_if0 (fun x => decide (¬ x = 0)) 4, ac_i (1), ac_go 5],
  [ac_i (0), ac_go 5],
  [ac_pz [1] 5, ac_ald 0, ac_dup, ac_gi [1] 3, ac_ald 0, ac_gi [1] 5, ac_if0 (fun x => decide (x = 0)) 6, ac_i (0), ac_go 7],
  [ac_i (1), ac_go 7],
  [ac_bin (fun x y => x + y), ac_pi [1] 3, ac_go 9],
  [ac_ald 0, ac_i (1), ac_pz [1] 5, ac_go 9],
  [ac_rv]] : List (List pm_Ac)).getD b []
def P_X1_readNumber (b : Nat) : List pm_Ac := ([[ac_i (0), ac_ist 1, ac_i (0), ac_ist 2, ac_go 1],
  [ac_ild 2, ac_i (4), ac_if2 (fun x y => decide (y ≤ x)) 2, ac_ald 0, ac_cv n_X1_next 0 [1], ac_cs n_X1_isDigit 1, ac_if0 (fun x => decide (x = 0)) 2, ac_i (10), ac_ild 1, ac_bin (fun x y => x * y), ac_ald 0, ac_cv n_X1_next 0 [1], ac_bin (fun x y => x + y), ac_i (48), ac_bin (fun x y => x - y), ac_ist 1, ac_ald 0, ac_dup, ac_gi [1] 3, ac_i (1), ac_bin (fun x y => x + y), ac_pi [1] 3, ac_inc 2 (1), ac_go 1],
  [ac_ald 0, ac_gr [1] 0, ac_ild 1, ac_cv n_X0_add 1 [0], ac_rv]] : List (List pm_Ac)).getD b []
def P_X1_nameOf (b : Nat) : List pm_Ac := ([[ac_ild 1, ac_i (0), ac_i (255), ac_cs n_X8_isIn 3, ac_if0 (fun x => decide (x = 0)) 1, ac_ald 0, ac_gs [1] 2, ac_ild 1, ac_un (fun x => (x.toUInt32 % 65536).toInt32), ac_ct n_J0_indexOf_0f7a4 1, ac_go 2],
  [ac_i (-1), ac_go 2],
  [ac_ri]] : List (List pm_Ac)).getD b []
def P_X1_next (b : Nat) : List pm_Ac := ([[ac_ald 0, ac_gi [1] 3, ac_ald 0, ac_gr [1] 1, ac_cv n_X6_used 0 [6, 3], ac_if2 (fun x y => decide (y ≤ x)) 1, ac_ald 0, ac_gr [1] 1, ac_i (0), ac_ald 0, ac_gi [1] 3, ac_cv n_X6_at 2 [6, 3], ac_go 2],
  [ac_i (-1), ac_go 2],
  [ac_ri]] : List (List pm_Ac)).getD b []
def P_X1_isNext (b : Nat) : List pm_Ac := ([[ac_ald 0, ac_gi [1] 5, ac_if0 (fun x => decide (¬ x = 0)) 1, ac_ald 0, ac_cv n_X1_next 0 [1], ac_ild 1, ac_if2 (fun x y => decide (¬ x = y)) 1, ac_i (1), ac_go 2],
  [ac_i (0), ac_go 2],
  [ac_rz (fun v => v &&& 1)]] : List (List pm_Ac)).getD b []
def P_X1_isDigit (b : Nat) : List pm_Ac := ([[ac_ild 0, ac_i (48), ac_i (57), ac_cs n_X8_isIn 3, ac_rz (fun v => v &&& 1)]] : List (List pm_Ac)).getD b []
def P_X2_isMissing (b : Nat) : List pm_Ac := ([[ac_ald 0, ac_gi [2] 1, ac_if0 (fun x => decide (¬ x = 0)) 1, ac_i (1), ac_go 2],
  [ac_i (0), ac_go 2],
  [ac_rz (fun v => v &&& 1)]] : List (List pm_Ac)).getD b []
def P_X2_lay (b : Nat) : List pm_Ac := ([[ac_ald 0, ac_ild 1, ac_pi [2] 1, ac_ald 0, ac_ild 2, ac_i (24), ac_cs n_X8_held 2, ac_pi [2] 2, ac_i (0), ac_ist 3, ac_go 1],
  [ac_ild 3, ac_i (24), ac_if2 (fun x y => decide (y ≤ x)) 2, ac_ald 0, ac_gr [2] 0, ac_ild 3, ac_i (0), ac_ias, ac_inc 3 (1), ac_go 1],
  [ac_rv]] : List (List pm_Ac)).getD b []
def P_X2_stand (b : Nat) : List pm_Ac := ([[ac_ild 1, ac_if0 (fun x => decide (x < 0)) 1, ac_ild 2, ac_if0 (fun x => decide (x < 0)) 1, ac_ild 1, ac_ald 0, ac_gi [2] 2, ac_if2 (fun x y => decide (y < x)) 1, ac_ild 2, ac_ald 0, ac_gi [2] 2, ac_ild 1, ac_bin (fun x y => x - y), ac_if2 (fun x y => decide (y < x)) 1, ac_i (1), ac_go 2],
  [ac_i (0), ac_go 2],
  [ac_rz (fun v => v &&& 1)]] : List (List pm_Ac)).getD b []
def P_X2_number (b : Nat) : List pm_Ac := ([[ac_ild 1, ac_i (0), ac_ald 0, ac_gi [2] 2, ac_i (1), ac_bin (fun x y => x - y), ac_cs n_X8_isIn 3, ac_if0 (fun x => decide (x = 0)) 1, ac_ald 0, ac_gr [2] 0, ac_ild 1, ac_ia, ac_go 2],
  [ac_i (0), ac_go 2],
  [ac_ri]] : List (List pm_Ac)).getD b []
def P_X2_write (b : Nat) : List pm_Ac := ([[ac_ild 1, ac_i (0), ac_ald 0, ac_gi [2] 2, ac_i (1), ac_bin (fun x y => x - y), ac_cs n_X8_isIn 3, ac_if0 (fun x => decide (x = 0)) 1, ac_ald 0, ac_gr [2] 0, ac_ild 1, ac_ald 0, ac_ild 2, ac_cv n_X2_lowest 1 [2], ac_ias, ac_go 1],
  [ac_rv]] : List (List pm_Ac)).getD b []
def P_X2_lowest (b : Nat) : List pm_Ac := ([[ac_ald 0, ac_gi [2] 1, ac_sw [(8, 1), (16, 2)] 3],
  [ac_ild 1, ac_un (fun x => x.toInt8.toInt32), ac_ri],
  [ac_ild 1, ac_un (fun x => x.toInt16.toInt32), ac_ri],
  [ac_ild 1, ac_ri]] : List (List pm_Ac)).getD b []
def P_X2_step (b : Nat) : List pm_Ac := ([[ac_ald 0, ac_ild 1, ac_cv n_X2_number 1 [2], ac_ald 0, ac_ild 1, ac_i (1), ac_bin (fun x y => x - y), ac_cv n_X2_number 1 [2], ac_bin (fun x y => x - y), ac_ri]] : List (List pm_Ac)).getD b []
def P_X2_isEven (b : Nat) : List pm_Ac := ([[ac_ild 1, ac_i (1), ac_if2 (fun x y => decide (x < y)) 1, ac_ald 0, ac_ild 1, ac_cv n_X2_step 1 [2], ac_ald 0, ac_ild 1, ac_i (1), ac_bin (fun x y => x - y), ac_cv n_X2_step 1 [2], ac_if2 (fun x y => decide (¬ x = y)) 1, ac_i (1), ac_go 2],
  [ac_i (0), ac_go 2],
  [ac_rz (fun v => v &&& 1)]] : List (List pm_Ac)).getD b []
def P_X2_evenSteps (b : Nat) : List pm_Ac := ([[ac_i (0), ac_ist 1, ac_i (1), ac_ist 2, ac_go 1],
  [ac_ild 2, ac_ald 0, ac_gi [2] 2, ac_if2 (fun x y => decide (y ≤ x)) 4, ac_ild 1, ac_ald 0, ac_ild 2, ac_cv n_X2_isEven 1 [2], ac_if0 (fun x => decide (x = 0)) 2, ac_i (1), ac_go 3],
  [ac_i (0), ac_go 3],
  [ac_bin (fun x y => x + y), ac_ist 1, ac_inc 2 (1), ac_go 1],
  [ac_ild 1, ac_ri]] : List (List pm_Ac)).getD b []
def P_X2_longestEvenRow (b : Nat) : List pm_Ac := ([[ac_i (0), ac_ist 1, ac_i (0), ac_ist 2, ac_i (1), ac_ist 3, ac_go 1],
  [ac_ild 3, ac_ald 0, ac_gi [2] 2, ac_if2 (fun x y => decide (y ≤ x)) 4, ac_ald 0, ac_ild 3, ac_cv n_X2_isEven 1 [2], ac_if0 (fun x => decide (x = 0)) 2, ac_ild 2, ac_i (1), ac_bin (fun x y => x + y), ac_go 3],
  [ac_i (0), ac_go 3],
  [ac_ist 2, ac_ild 1, ac_ild 2, ac_m2 (fun x y => if x < y then y else x), ac_ist 1, ac_inc 3 (1), ac_go 1],
  [ac_ild 1, ac_ri]] : List (List pm_Ac)).getD b []
def P_X3_isOf (b : Nat) : List pm_Ac := ([[ac_ald 0, ac_i (0), ac_ild 1, ac_cv n_X6_at 2 [3], ac_ist 3, ac_i (0), ac_ist 4, ac_go 1],
  [ac_ild 4, ac_i (7), ac_if2 (fun x y => decide (y ≤ x)) 2, ac_ild 3, ac_ild 2, ac_if2 (fun x y => decide (x = y)) 2, ac_ild 3, ac_cs n_X3_above 1, ac_ist 3, ac_inc 4 (1), ac_go 1],
  [ac_ild 3, ac_ild 2, ac_if2 (fun x y => decide (¬ x = y)) 3, ac_i (1), ac_go 4],
  [ac_i (0), ac_go 4],
  [ac_rz (fun v => v &&& 1)]] : List (List pm_Ac)).getD b []
def P_X3_leansAt (b : Nat) : List pm_Ac := ([[ac_i (0), ac_ist 3, ac_ald 0, ac_i (0), ac_ild 1, ac_cv n_X6_at 2 [3], ac_sw [(1, 1), (4, 2)] 3],
  [ac_ald 0, ac_ild 1, ac_ild 2, ac_cv n_X3_isFirst 2 [3], ac_ist 3, ac_go 3],
  [ac_ald 0, ac_ild 1, ac_ild 2, ac_cv n_X3_spans 2 [3], ac_ist 3, ac_go 3],
  [ac_ild 3, ac_if0 (fun x => decide (x = 0)) 4, ac_ald 0, ac_i (3), ac_ild 1, ac_cv n_X6_at 2 [3], ac_go 5],
  [ac_i (0), ac_go 5],
  [ac_ri]] : List (List pm_Ac)).getD b []
def P_X3_pushesAt (b : Nat) : List pm_Ac := ([[ac_ild 3, ac_if0 (fun x => decide (x ≤ 0)) 1, ac_ald 0, ac_ild 1, ac_ild 2, ac_cv n_X3_spans 2 [3], ac_if0 (fun x => decide (¬ x = 0)) 2, ac_go 1],
  [ac_i (0), ac_ri],
  [ac_ald 0, ac_i (0), ac_ild 1, ac_cv n_X6_at 2 [3], ac_sw [(5, 3), (6, 4)] 5],
  [ac_ald 0, ac_i (3), ac_ild 1, ac_cv n_X6_at 2 [3], ac_ri],
  [ac_ald 0, ac_i (3), ac_ild 1, ac_cv n_X6_at 2 [3], ac_i (2), ac_dv (fun x y => x / y), ac_ri],
  [ac_i (0), ac_ri]] : List (List pm_Ac)).getD b []
def P_X3_shortensAt (b : Nat) : List pm_Ac := ([[ac_ald 0, ac_ild 1, ac_ild 2, ac_cv n_X3_spans 2 [3], ac_if0 (fun x => decide (¬ x = 0)) 1, ac_i (0), ac_ri],
  [ac_ald 0, ac_i (3), ac_ild 1, ac_cv n_X6_at 2 [3], ac_ist 4, ac_ald 0, ac_i (0), ac_ild 1, ac_cv n_X6_at 2 [3], ac_sw [(2, 2), (3, 3), (4, 7), (5, 7), (6, 6)] 7],
  [ac_ild 4, ac_ild 3, ac_i (1), ac_bin (fun x y => x + y), ac_bin (fun x y => x * y), ac_ri],
  [ac_ild 4, ac_ild 3, ac_i (1), ac_bin (fun x y => x + y), ac_bin (fun x y => x * y), ac_ald 0, ac_ild 1, ac_ild 2, ac_cv n_X3_isFirst 2 [3], ac_if0 (fun x => decide (x = 0)) 4, ac_i (66), ac_go 5],
  [ac_i (0), ac_go 5],
  [ac_bin (fun x y => x + y), ac_ri],
  [ac_i (2), ac_ild 4, ac_bin (fun x y => x * y), ac_ri],
  [ac_i (0), ac_ri]] : List (List pm_Ac)).getD b []
def P_X3_isFirst (b : Nat) : List pm_Ac := ([[ac_ild 2, ac_ald 0, ac_i (1), ac_ild 1, ac_cv n_X6_at 2 [3], ac_if2 (fun x y => decide (¬ x = y)) 1, ac_i (1), ac_go 2],
  [ac_i (0), ac_go 2],
  [ac_rz (fun v => v &&& 1)]] : List (List pm_Ac)).getD b []
def P_X3_spans (b : Nat) : List pm_Ac := ([[ac_ild 2, ac_ald 0, ac_i (1), ac_ild 1, ac_cv n_X6_at 2 [3], ac_ald 0, ac_i (2), ac_ild 1, ac_cv n_X6_at 2 [3], ac_cs n_X8_isIn 3, ac_rz (fun v => v &&& 1)]] : List (List pm_Ac)).getD b []
def P_X3_above (b : Nat) : List pm_Ac := ([[ac_ild 0, ac_i (0), ac_i (6), ac_cs n_X8_isIn 3, ac_if0 (fun x => decide (x = 0)) 1, ac_v (.ref 78), ac_ild 0, ac_is, ac_go 2],
  [ac_i (-1), ac_go 2],
  [ac_ri]] : List (List pm_Ac)).getD b []
def P_X4_speak (b : Nat) : List pm_Ac := ([[ac_ald 0, ac_ald 1, ac_i (0), ac_ild 2, ac_cv n_X6_at 2 [3], ac_pi [4] 1, ac_ald 0, ac_ild 2, ac_pi [4] 2, ac_ald 0, ac_ald 1, ac_i (3), ac_ild 2, ac_cv n_X6_at 2 [3], ac_pi [4] 3, ac_ald 0, ac_i (0), ac_pz [4] 4, ac_ald 0, ac_gr [4] 0, ac_i (0), ac_cv n_X6_use 1 [6, 3], ac_ald 0, ac_ild 3, ac_ald 0, ac_gi [4] 1, ac_ild 4, ac_i (0), ac_cv n_X4_sound 4 [4], ac_ri]] : List (List pm_Ac)).getD b []
def P_X4_isParted (b : Nat) : List pm_Ac := ([[ac_ald 0, ac_gi [4] 4, ac_rz (fun v => v &&& 1)]] : List (List pm_Ac)).getD b []
def P_X4_sound (b : Nat) : List pm_Ac := ([[ac_ild 2, ac_ist 5, ac_i (0), ac_ist 6, ac_go 1],
  [ac_ild 6, ac_i (7), ac_if2 (fun x y => decide (y ≤ x)) 2, ac_ild 5, ac_ild 1, ac_cs n_X4_bodyOf 2, ac_if0 (fun x => decide (¬ x = 0)) 2, ac_ild 5, ac_cs n_X3_above 1, ac_ist 5, ac_inc 6 (1), ac_go 1],
  [ac_ald 0, ac_gi [4] 4, ac_if0 (fun x => decide (¬ x = 0)) 3, ac_ild 4, ac_i (40), ac_if2 (fun x y => decide (x < y)) 4, ac_go 3],
  [ac_i (0), ac_ri],
  [ac_ald 0, ac_gr [4] 0, ac_cv n_X6_isFull 0 [6, 3], ac_if0 (fun x => decide (¬ x = 0)) 5, ac_ald 0, ac_gr [4] 0, ac_ild 5, ac_ild 1, ac_cs n_X4_bodyOf 2, ac_cv n_X6_add 1 [6, 3], ac_pop, ac_go 5],
  [ac_ald 0, ac_ild 5, ac_ild 1, ac_cs n_X4_bodyOf 2, ac_ild 5, ac_cs n_X3_above 1, ac_ild 3, ac_ild 4, ac_i (1), ac_bin (fun x y => x + y), ac_cv n_X4_workedOut 4 [4], ac_ri]] : List (List pm_Ac)).getD b []
def P_X4_workedOut (b : Nat) : List pm_Ac := ([[ac_ild 1, ac_sw [(10, 1), (11, 2), (12, 3), (13, 4), (20, 5), (21, 6), (30, 7), (40, 8), (41, 9), (50, 10), (51, 11), (60, 12), (70, 13)] 14],
  [ac_ild 3, ac_ald 0, ac_gi [4] 2, ac_bin (fun x y => x + y), ac_ri],
  [ac_ald 0, ac_i (0), ac_ald 0, ac_gi [4] 1, ac_ild 3, ac_ild 4, ac_cv n_X4_sound 4 [4], ac_i (2), ac_bin (fun x y => x * y), ac_ri],
  [ac_ald 0, ac_i (1), ac_ald 0, ac_gi [4] 1, ac_ild 3, ac_ild 4, ac_cv n_X4_sound 4 [4], ac_ald 0, ac_gi [4] 3, ac_bin (fun x y => x - y), ac_ri],
  [ac_ald 0, ac_ild 3, ac_cv n_X4_mended 1 [4], ac_ri],
  [ac_ald 0, ac_i (0), ac_ild 2, ac_ild 3, ac_ild 4, ac_cv n_X4_sound 4 [4], ac_i (4), ac_bin (fun x y => x - y), ac_ri],
  [ac_ald 0, ac_i (3), ac_ild 2, ac_ild 3, ac_ild 4, ac_cv n_X4_sound 4 [4], ac_ald 0, ac_i (1), ac_ald 0, ac_gi [4] 1, ac_i (1), ac_ild 4, ac_cv n_X4_sound 4 [4], ac_bin (fun x y => x + y), ac_ri],
  [ac_i (0), ac_ald 0, ac_i (1), ac_ild 2, ac_ild 3, ac_ild 4, ac_cv n_X4_sound 4 [4], ac_bin (fun x y => x - y), ac_ri],
  [ac_ald 0, ac_i (2), ac_ild 2, ac_ild 3, ac_i (2), ac_dv (fun x y => x / y), ac_ild 4, ac_cv n_X4_sound 4 [4], ac_ri],
  [ac_ald 0, ac_i (1), ac_ild 2, ac_ild 3, ac_ild 4, ac_cv n_X4_sound 4 [4], ac_ald 0, ac_gi [4] 2, ac_bin (fun x y => x + y), ac_ri],
  [ac_ald 0, ac_i (0), ac_ild 2, ac_ild 3, ac_ild 4, ac_cv n_X4_sound 4 [4], ac_i (3), ac_bin (fun x y => x * y), ac_ri],
  [ac_ald 0, ac_i (3), ac_ild 2, ac_ild 3, ac_ild 4, ac_cv n_X4_sound 4 [4], ac_ald 0, ac_i (2), ac_ald 0, ac_gi [4] 1, ac_i (0), ac_ild 4, ac_cv n_X4_sound 4 [4], ac_bin (fun x y => x - y), ac_ri],
  [ac_ald 0, ac_i (2), ac_ild 2, ac_ild 3, ac_ild 4, ac_cv n_X4_sound 4 [4], ac_ald 0, ac_gi [4] 3, ac_bin (fun x y => x ^^^ y), ac_ri],
  [ac_ald 0, ac_i (2), ac_ild 2, ac_ild 3, ac_i (1), ac_bin (fun x y => x + y), ac_ild 4, ac_cv n_X4_sound 4 [4], ac_ri],
  [ac_i (6), ac_ri]] : List (List pm_Ac)).getD b []
def P_X4_mended (b : Nat) : List pm_Ac := ([[ac_ald 0, ac_gi [4] 3, ac_ald 0, ac_gi [4] 2, ac_bin (fun x y => x - y), ac_ist 2, ac_ild 2, ac_if0 (fun x => decide (¬ x = 0)) 1, ac_ald 0, ac_i (1), ac_pz [4] 4, ac_i (0), ac_ri],
  [ac_ild 1, ac_ild 2, ac_dv (fun x y => x / y), ac_ri]] : List (List pm_Ac)).getD b []
def P_X4_bodyOf (b : Nat) : List pm_Ac := ([[ac_ild 0, ac_i (0), ac_i (6), ac_cs n_X8_isIn 3, ac_if0 (fun x => decide (x = 0)) 1, ac_ild 1, ac_i (0), ac_i (3), ac_cs n_X8_isIn 3, ac_if0 (fun x => decide (x = 0)) 1, ac_i (1), ac_go 2],
  [ac_i (0), ac_go 2],
  [ac_ist 2, ac_ild 2, ac_if0 (fun x => decide (x = 0)) 3, ac_v (.ref 79), ac_ild 0, ac_i (4), ac_bin (fun x y => x * y), ac_ild 1, ac_bin (fun x y => x + y), ac_is, ac_go 4],
  [ac_i (0), ac_go 4],
  [ac_ri]] : List (List pm_Ac)).getD b []
def P_X5_draw (b : Nat) : List pm_Ac := ([[ac_ald 0, ac_ald 0, ac_gi [5] 9, ac_i (1103515245), ac_bin (fun x y => x * y), ac_i (12345), ac_bin (fun x y => x + y), ac_pi [5] 9, ac_ald 0, ac_gi [5] 9, ac_i (8), ac_bin (fun x y => (x.toUInt32 >>> (y.toUInt32 &&& Int32.toUInt32 31)).toInt32), ac_ri]] : List (List pm_Ac)).getD b []
def P_X5_take (b : Nat) : List pm_Ac := ([[ac_ald 0, ac_gr [5] 0, ac_ald 1, ac_gr [5] 0, ac_cv n_X6_take 1 [6, 3], ac_ald 0, ac_gr [5] 1, ac_ald 1, ac_gr [5] 1, ac_cv n_X6_take 1 [3], ac_ald 0, ac_gr [5] 2, ac_ald 1, ac_gr [5] 2, ac_cv n_X6_take 1 [6, 3], ac_ald 0, ac_gr [5] 3, ac_ald 1, ac_gr [5] 3, ac_cv n_X6_take 1 [6, 3], ac_ald 0, ac_gr [5] 4, ac_ald 1, ac_gr [5] 4, ac_cv n_X6_take 1 [6, 3], ac_ald 0, ac_gr [5] 5, ac_ald 1, ac_gr [5] 5, ac_cv n_X0_take 1 [0], ac_ald 0, ac_gr [5] 6, ac_ald 1, ac_gr [5] 6, ac_cv n_X0_take 1 [0], ac_ald 0, ac_ald 1, ac_gi [5] 7, ac_pi [5] 7, ac_ald 0, ac_ald 1, ac_gi [5] 8, ac_pi [5] 8, ac_ald 0, ac_ald 1, ac_gi [5] 9, ac_pi [5] 9, ac_rv]] : List (List pm_Ac)).getD b []
def P_X6_used (b : Nat) : List pm_Ac := ([[ac_ald 0, ac_gi [3, 6] 3, ac_ri]] : List (List pm_Ac)).getD b []
def P_X6_use (b : Nat) : List pm_Ac := ([[ac_ald 0, ac_ild 1, ac_ald 0, ac_gc [3, 6] 1, ac_cs n_X8_held 2, ac_pi [3, 6] 3, ac_rv]] : List (List pm_Ac)).getD b []
def P_X6_has (b : Nat) : List pm_Ac := ([[ac_ild 1, ac_i (0), ac_ald 0, ac_gi [3, 6] 3, ac_i (1), ac_bin (fun x y => x - y), ac_cs n_X8_isIn 3, ac_rz (fun v => v &&& 1)]] : List (List pm_Ac)).getD b []
def P_X6_isFull (b : Nat) : List pm_Ac := ([[ac_ald 0, ac_gi [3, 6] 3, ac_ald 0, ac_gc [3, 6] 1, ac_if2 (fun x y => decide (x < y)) 1, ac_i (1), ac_go 2],
  [ac_i (0), ac_go 2],
  [ac_rz (fun v => v &&& 1)]] : List (List pm_Ac)).getD b []
def P_X6_add (b : Nat) : List pm_Ac := ([[ac_ald 0, ac_gi [3, 6] 3, ac_ist 2, ac_ald 0, ac_ald 0, ac_gi [3, 6] 3, ac_i (1), ac_bin (fun x y => x + y), ac_cv n_X6_use 1 [6, 3], ac_ald 0, ac_i (0), ac_ild 2, ac_ild 1, ac_cv n_X6_set 3 [6, 3], ac_ild 2, ac_ri]] : List (List pm_Ac)).getD b []
def P_X6_at (b : Nat) : List pm_Ac := ([[ac_ald 0, ac_ild 1, ac_ild 2, ac_cv n_X6_holds 2 [6, 3], ac_if0 (fun x => decide (x = 0)) 1, ac_ald 0, ac_gr [3, 6] 2, ac_ild 1, ac_ald 0, ac_gc [3, 6] 1, ac_bin (fun x y => x * y), ac_ild 2, ac_bin (fun x y => x + y), ac_ia, ac_go 2],
  [ac_i (0), ac_go 2],
  [ac_ri]] : List (List pm_Ac)).getD b []
def P_X6_set (b : Nat) : List pm_Ac := ([[ac_ald 0, ac_ild 1, ac_ild 2, ac_cv n_X6_holds 2 [6, 3], ac_if0 (fun x => decide (x = 0)) 1, ac_ald 0, ac_gr [3, 6] 2, ac_ild 1, ac_ald 0, ac_gc [3, 6] 1, ac_bin (fun x y => x * y), ac_ild 2, ac_bin (fun x y => x + y), ac_ild 3, ac_ias, ac_go 1],
  [ac_rv]] : List (List pm_Ac)).getD b []
def P_X6_howMany (b : Nat) : List pm_Ac := ([[ac_i (0), ac_ist 3, ac_i (0), ac_ist 4, ac_go 1],
  [ac_ild 4, ac_ald 0, ac_gi [3, 6] 3, ac_if2 (fun x y => decide (y ≤ x)) 3, ac_ald 0, ac_ild 1, ac_ild 4, ac_cv n_X6_at 2 [6, 3], ac_ild 2, ac_if2 (fun x y => decide (¬ x = y)) 2, ac_inc 3 (1), ac_go 2],
  [ac_inc 4 (1), ac_go 1],
  [ac_ild 3, ac_ri]] : List (List pm_Ac)).getD b []
def P_X6_take (b : Nat) : List pm_Ac := ([[ac_ald 0, ac_gr [3, 6] 2, ac_ln, ac_ald 1, ac_gr [3, 6] 2, ac_ln, ac_m2 (fun x y => if y < x then y else x), ac_ist 2, ac_ald 1, ac_gr [3, 6] 2, ac_i (0), ac_ald 0, ac_gr [3, 6] 2, ac_i (0), ac_ild 2, ac_cp, ac_ald 0, ac_ald 1, ac_gi [3, 6] 3, ac_cv n_X6_use 1 [6, 3], ac_rv]] : List (List pm_Ac)).getD b []
def P_X6_holds (b : Nat) : List pm_Ac := ([[ac_ild 1, ac_if0 (fun x => decide (x < 0)) 1, ac_ild 1, ac_ald 0, ac_gc [3, 6] 0, ac_if2 (fun x y => decide (y ≤ x)) 1, ac_ild 2, ac_if0 (fun x => decide (x < 0)) 1, ac_ild 2, ac_ald 0, ac_gc [3, 6] 1, ac_if2 (fun x y => decide (y ≤ x)) 1, ac_i (1), ac_go 2],
  [ac_i (0), ac_go 2],
  [ac_rz (fun v => v &&& 1)]] : List (List pm_Ac)).getD b []
def P_X7_go (b : Nat) : List pm_Ac := ([[ac_ald 0, ac_ald 1, ac_gr [5] 0, ac_cv n_X6_used 0 [6, 3], ac_i (24), ac_cs n_X8_held 2, ac_pi [7] 7, ac_ald 0, ac_ald 1, ac_gi [5] 7, ac_pi [7] 8, ac_ald 0, ac_ald 1, ac_gi [5] 8, ac_pi [7] 9, ac_i (0), ac_ist 3, ac_i (0), ac_ist 4, ac_go 1],
  [ac_ild 4, ac_ald 0, ac_gi [7] 7, ac_if2 (fun x y => decide (y ≤ x)) 3, ac_ald 0, ac_ald 1, ac_ild 4, ac_ild 2, ac_cv n_X7_addUpSlips 3 [7], ac_ald 0, ac_gr [7] 6, ac_ild 4, ac_ald 1, ac_gr [5] 0, ac_i (0), ac_ild 4, ac_cv n_X6_at 2 [6, 3], ac_ald 0, ac_gr [7] 4, ac_ild 4, ac_ia, ac_bin (fun x y => x + y), ac_ald 1, ac_gr [5] 0, ac_i (4), ac_ild 4, ac_cv n_X6_at 2 [6, 3], ac_bin (fun x y => x + y), ac_ias, ac_ald 1, ac_gr [5] 0, ac_i (3), ac_ild 4, ac_cv n_X6_at 2 [6, 3], ac_i (1), ac_if2 (fun x y => decide (¬ x = y)) 2, ac_i (0), ac_ist 3, ac_go 2],
  [ac_ild 3, ac_ald 0, ac_gr [7] 3, ac_ild 4, ac_ia, ac_bin (fun x y => x + y), ac_ist 3, ac_ald 0, ac_gr [7] 2, ac_ild 4, ac_ild 3, ac_ias, ac_ald 0, ac_gr [7] 0, ac_ild 4, ac_i (1), ac_bin (fun x y => x + y), ac_ald 0, ac_gr [7] 0, ac_ild 4, ac_ia, ac_ild 3, ac_bin (fun x y => x + y), ac_ald 0, ac_gr [7] 6, ac_ild 4, ac_ia, ac_bin (fun x y => x + y), ac_ias, ac_ald 0, ac_gr [7] 1, ac_ild 4, ac_i (1), ac_bin (fun x y => x + y), ac_ald 0, ac_gr [7] 1, ac_ild 4, ac_ia, ac_i (1760), ac_bin (fun x y => x + y), ac_i (3), ac_ald 1, ac_gr [5] 0, ac_i (1), ac_ild 4, ac_cv n_X6_at 2 [6, 3], ac_bin (fun x y => x * y), ac_bin (fun x y => x - y), ac_ald 0, ac_gr [7] 5, ac_ild 4, ac_ia, ac_bin (fun x y => x - y), ac_ias, ac_inc 4 (1), ac_go 1],
  [ac_rv]] : List (List pm_Ac)).getD b []
def P_X7_addUpSlips (b : Nat) : List pm_Ac := ([[ac_ald 1, ac_gr [5] 0, ac_i (2), ac_ild 2, ac_cv n_X6_at 2 [6, 3], ac_ist 4, ac_ald 1, ac_gr [5] 0, ac_i (1), ac_ild 2, ac_cv n_X6_at 2 [6, 3], ac_ist 5, ac_ald 0, ac_gr [7] 3, ac_ild 2, ac_i (0), ac_ias, ac_ald 0, ac_gr [7] 4, ac_ild 2, ac_i (0), ac_ias, ac_ald 0, ac_gr [7] 5, ac_ild 2, ac_i (0), ac_ias, ac_i (0), ac_ist 6, ac_go 1],
  [ac_ild 6, ac_ald 1, ac_gr [5] 1, ac_cv n_X6_used 0 [3], ac_if2 (fun x y => decide (y ≤ x)) 3, ac_ild 6, ac_ild 3, ac_if2 (fun x y => decide (x = y)) 2, ac_ald 1, ac_gr [5] 1, ac_i (4), ac_ild 6, ac_cv n_X6_at 2 [3], ac_i (1), ac_if2 (fun x y => decide (¬ x = y)) 2, ac_ald 0, ac_gr [7] 3, ac_ild 2, ac_dup2, ac_ia, ac_ald 1, ac_gr [5] 1, ac_ild 6, ac_ild 2, ac_cv n_X3_leansAt 2 [3], ac_bin (fun x y => x + y), ac_ias, ac_ald 0, ac_gr [7] 4, ac_ild 2, ac_dup2, ac_ia, ac_ald 1, ac_gr [5] 1, ac_ild 6, ac_ild 2, ac_ild 4, ac_cv n_X3_pushesAt 3 [3], ac_bin (fun x y => x + y), ac_ias, ac_ald 0, ac_gr [7] 5, ac_ild 2, ac_dup2, ac_ia, ac_ald 1, ac_gr [5] 1, ac_ild 6, ac_ild 2, ac_ild 5, ac_cv n_X3_shortensAt 3 [3], ac_bin (fun x y => x + y), ac_ias, ac_go 2],
  [ac_inc 6 (1), ac_go 1],
  [ac_rv]] : List (List pm_Ac)).getD b []
def P_X7_sideOf (b : Nat) : List pm_Ac := ([[ac_ild 1, ac_i (0), ac_ald 0, ac_gi [7] 7, ac_cs n_X8_isIn 3, ac_if0 (fun x => decide (x = 0)) 1, ac_ald 0, ac_gr [7] 0, ac_ild 1, ac_ia, ac_go 2],
  [ac_i (0), ac_go 2],
  [ac_ri]] : List (List pm_Ac)).getD b []
def P_X7_alongOf (b : Nat) : List pm_Ac := ([[ac_ild 1, ac_i (0), ac_ald 0, ac_gi [7] 7, ac_cs n_X8_isIn 3, ac_if0 (fun x => decide (x = 0)) 1, ac_ald 0, ac_gr [7] 1, ac_ild 1, ac_ia, ac_go 2],
  [ac_i (0), ac_go 2],
  [ac_ri]] : List (List pm_Ac)).getD b []
def P_X7_headingIn (b : Nat) : List pm_Ac := ([[ac_ild 1, ac_i (0), ac_ald 0, ac_gi [7] 7, ac_i (1), ac_bin (fun x y => x - y), ac_cs n_X8_isIn 3, ac_if0 (fun x => decide (x = 0)) 1, ac_ald 0, ac_gr [7] 2, ac_ild 1, ac_ia, ac_go 2],
  [ac_i (0), ac_go 2],
  [ac_ri]] : List (List pm_Ac)).getD b []
def P_X7_pushesIn (b : Nat) : List pm_Ac := ([[ac_ild 1, ac_i (0), ac_ald 0, ac_gi [7] 7, ac_i (1), ac_bin (fun x y => x - y), ac_cs n_X8_isIn 3, ac_if0 (fun x => decide (x = 0)) 1, ac_ald 0, ac_gr [7] 4, ac_ild 1, ac_ia, ac_go 2],
  [ac_i (0), ac_go 2],
  [ac_ri]] : List (List pm_Ac)).getD b []
def P_X7_shortensIn (b : Nat) : List pm_Ac := ([[ac_ild 1, ac_i (0), ac_ald 0, ac_gi [7] 7, ac_i (1), ac_bin (fun x y => x - y), ac_cs n_X8_isIn 3, ac_if0 (fun x => decide (x = 0)) 1, ac_ald 0, ac_gr [7] 5, ac_ild 1, ac_ia, ac_go 2],
  [ac_i (0), ac_go 2],
  [ac_ri]] : List (List pm_Ac)).getD b []
def P_X7_missSide (b : Nat) : List pm_Ac := ([[ac_ald 0, ac_gr [7] 0, ac_ald 0, ac_gi [7] 7, ac_ia, ac_ald 0, ac_gi [7] 8, ac_bin (fun x y => x - y), ac_ri]] : List (List pm_Ac)).getD b []
def P_X7_missAlong (b : Nat) : List pm_Ac := ([[ac_ald 0, ac_gr [7] 1, ac_ald 0, ac_gi [7] 7, ac_ia, ac_ald 0, ac_gi [7] 9, ac_bin (fun x y => x - y), ac_ri]] : List (List pm_Ac)).getD b []
def P_X7_wholeMiss (b : Nat) : List pm_Ac := ([[ac_ald 0, ac_cv n_X7_missSide 0 [7], ac_m1 (fun x => if 0 ≤ x then x else 0 - x), ac_ald 0, ac_cv n_X7_missAlong 0 [7], ac_m1 (fun x => if 0 ≤ x then x else 0 - x), ac_bin (fun x y => x + y), ac_ri]] : List (List pm_Ac)).getD b []
def P_X7_distanceOf (b : Nat) : List pm_Ac := ([[ac_ald 0, ac_ild 1, ac_cv n_X7_sideOf 1 [7], ac_ild 2, ac_bin (fun x y => x - y), ac_m1 (fun x => if 0 ≤ x then x else 0 - x), ac_ald 0, ac_ild 1, ac_cv n_X7_alongOf 1 [7], ac_ild 3, ac_bin (fun x y => x - y), ac_m1 (fun x => if 0 ≤ x then x else 0 - x), ac_bin (fun x y => x + y), ac_ri]] : List (List pm_Ac)).getD b []
def P_X7_offWithChecks (b : Nat) : List pm_Ac := ([[ac_i (0), ac_ist 2, ac_i (0), ac_ist 3, ac_i (0), ac_ist 4, ac_go 1],
  [ac_ild 4, ac_ald 0, ac_gi [7] 7, ac_if2 (fun x y => decide (y ≤ x)) 3, ac_ild 1, ac_ild 4, ac_bin (fun x y => (x.toUInt32 >>> (y.toUInt32 &&& Int32.toUInt32 31)).toInt32), ac_i (1), ac_bin (fun x y => x &&& y), ac_i (1), ac_if2 (fun x y => decide (¬ x = y)) 2, ac_i (0), ac_ist 2, ac_go 2],
  [ac_ild 2, ac_ald 0, ac_gr [7] 3, ac_ild 4, ac_ia, ac_bin (fun x y => x + y), ac_ist 2, ac_ild 3, ac_ild 2, ac_ald 0, ac_gr [7] 6, ac_ild 4, ac_ia, ac_bin (fun x y => x + y), ac_bin (fun x y => x + y), ac_ist 3, ac_inc 4 (1), ac_go 1],
  [ac_ild 3, ac_ald 0, ac_gi [7] 8, ac_bin (fun x y => x - y), ac_m1 (fun x => if 0 ≤ x then x else 0 - x), ac_ri]] : List (List pm_Ac)).getD b []
def P_X7_bestCheck (b : Nat) : List pm_Ac := ([[ac_i (1), ac_ist 1, ac_ald 0, ac_ild 1, ac_cv n_X7_offWithChecks 1 [7], ac_ist 2, ac_i (1), ac_ist 3, ac_go 1],
  [ac_ild 3, ac_ald 0, ac_gi [7] 7, ac_if2 (fun x y => decide (y ≤ x)) 3, ac_ald 0, ac_i (1), ac_ild 3, ac_bin (fun x y => x <<< (y &&& 31)), ac_cv n_X7_offWithChecks 1 [7], ac_ist 4, ac_ild 4, ac_ild 2, ac_if2 (fun x y => decide (y ≤ x)) 2, ac_i (1), ac_ild 3, ac_bin (fun x y => x <<< (y &&& 31)), ac_ist 1, ac_ild 4, ac_ist 2, ac_go 2],
  [ac_inc 3 (1), ac_go 1],
  [ac_ild 1, ac_ri]] : List (List pm_Ac)).getD b []
def P_X7_bestPairOfChecks (b : Nat) : List pm_Ac := ([[ac_i (3), ac_ist 1, ac_ald 0, ac_ild 1, ac_cv n_X7_offWithChecks 1 [7], ac_ist 2, ac_i (2), ac_ist 3, ac_go 1],
  [ac_ild 3, ac_ald 0, ac_gi [7] 7, ac_if2 (fun x y => decide (y ≤ x)) 5, ac_i (0), ac_ist 4, ac_go 2],
  [ac_ild 4, ac_ild 3, ac_if2 (fun x y => decide (y ≤ x)) 4, ac_i (1), ac_ild 3, ac_bin (fun x y => x <<< (y &&& 31)), ac_i (1), ac_ild 4, ac_bin (fun x y => x <<< (y &&& 31)), ac_bin (fun x y => x ||| y), ac_ist 5, ac_ald 0, ac_ild 5, ac_cv n_X7_offWithChecks 1 [7], ac_ist 6, ac_ild 6, ac_ild 2, ac_if2 (fun x y => decide (y ≤ x)) 3, ac_ild 5, ac_ist 1, ac_ild 6, ac_ist 2, ac_go 3],
  [ac_inc 4 (1), ac_go 2],
  [ac_inc 3 (1), ac_go 1],
  [ac_ild 1, ac_ri]] : List (List pm_Ac)).getD b []
def P_X7_sumOfSides (b : Nat) : List pm_Ac := ([[ac_l (0), ac_lst 1, ac_i (1), ac_ist 3, ac_go 1],
  [ac_ild 3, ac_ald 0, ac_gi [7] 7, ac_if2 (fun x y => decide (y < x)) 2, ac_lld 1, ac_ild 3, ac_i2l, ac_ald 0, ac_gr [7] 0, ac_ild 3, ac_ia, ac_i2l, ac_lbin (fun x y => x * y), ac_lbin (fun x y => x + y), ac_lst 1, ac_inc 3 (1), ac_go 1],
  [ac_lld 1, ac_rl]] : List (List pm_Ac)).getD b []
def P_X7_sumOfSquares (b : Nat) : List pm_Ac := ([[ac_l (0), ac_lst 1, ac_i (1), ac_ist 3, ac_go 1],
  [ac_ild 3, ac_ald 0, ac_gi [7] 7, ac_if2 (fun x y => decide (y < x)) 2, ac_lld 1, ac_ild 3, ac_i2l, ac_ild 3, ac_i2l, ac_lbin (fun x y => x * y), ac_lbin (fun x y => x + y), ac_lst 1, ac_inc 3 (1), ac_go 1],
  [ac_lld 1, ac_rl]] : List (List pm_Ac)).getD b []
def P_X7_offStraight (b : Nat) : List pm_Ac := ([[ac_ald 0, ac_ild 1, ac_cv n_X7_sideOf 1 [7], ac_i2l, ac_ald 0, ac_cv n_X7_sumOfSquares 0 [7], ac_lbin (fun x y => x * y), ac_ald 0, ac_cv n_X7_sumOfSides 0 [7], ac_ild 1, ac_i2l, ac_lbin (fun x y => x * y), ac_lbin (fun x y => x - y), ac_ml (fun x => if 0 < x then x else -x), ac_rl]] : List (List pm_Ac)).getD b []
def P_X8_miles (b : Nat) : List pm_Ac := ([[ac_ild 1, ac_i (1), ac_i (24), ac_cs n_X8_isIn 3, ac_if0 (fun x => decide (¬ x = 0)) 1, ac_ald 0, ac_i (1), ac_cv n_X8_fail 1 [8], ac_ri],
  [ac_ald 0, ac_gr [8] 0, ac_gr [5] 0, ac_cv n_X6_used 0 [6, 3], ac_ist 2, ac_ald 0, ac_gr [8] 0, ac_gr [5] 0, ac_ild 1, ac_cv n_X6_use 1 [6, 3], ac_ild 2, ac_ri]] : List (List pm_Ac)).getD b []
def P_X8_mile (b : Nat) : List pm_Ac := ([[ac_ild 1, ac_i (0), ac_i (23), ac_cs n_X8_isIn 3, ac_if0 (fun x => decide (x = 0)) 1, ac_ild 2, ac_i (0), ac_i (3), ac_cs n_X8_isIn 3, ac_if0 (fun x => decide (x = 0)) 1, ac_ild 3, ac_v (.ref 76), ac_ild 2, ac_is, ac_v (.ref 77), ac_ild 2, ac_is, ac_cs n_X8_isIn 3, ac_if0 (fun x => decide (¬ x = 0)) 2, ac_go 1],
  [ac_ald 0, ac_i (1), ac_cv n_X8_fail 1 [8], ac_ri],
  [ac_ald 0, ac_gr [8] 0, ac_gr [5] 0, ac_ild 2, ac_ild 1, ac_cv n_X6_at 2 [6, 3], ac_ist 4, ac_ald 0, ac_gr [8] 0, ac_gr [5] 0, ac_ild 2, ac_ild 1, ac_ild 3, ac_cv n_X6_set 3 [6, 3], ac_ild 4, ac_ri]] : List (List pm_Ac)).getD b []
def P_X8_mileIs (b : Nat) : List pm_Ac := ([[ac_ald 0, ac_gr [8] 0, ac_gr [5] 0, ac_ild 1, ac_cv n_X6_has 1 [6, 3], ac_if0 (fun x => decide (x = 0)) 1, ac_ild 2, ac_i (0), ac_i (8), ac_cs n_X8_isIn 3, ac_if0 (fun x => decide (¬ x = 0)) 2, ac_go 1],
  [ac_ald 0, ac_i (1), ac_cv n_X8_fail 1 [8], ac_ri],
  [ac_ild 2, ac_i (4), ac_if2 (fun x y => decide (y < x)) 3, ac_ald 0, ac_gr [8] 0, ac_gr [5] 0, ac_ild 2, ac_ild 1, ac_cv n_X6_at 2 [6, 3], ac_ri],
  [ac_ald 0, ac_gr [8] 2, ac_ald 0, ac_gr [8] 0, ac_i (-1), ac_cv n_X7_go 2 [7], ac_ild 2, ac_sw [(5, 4), (6, 5), (7, 6)] 7],
  [ac_ald 0, ac_ild 1, ac_cv n_X8_hoursOf 1 [8], ac_ri],
  [ac_ald 0, ac_gr [8] 2, ac_ild 1, ac_cv n_X7_headingIn 1 [7], ac_ri],
  [ac_ald 0, ac_gr [8] 2, ac_ild 1, ac_cv n_X7_pushesIn 1 [7], ac_ri],
  [ac_ald 0, ac_gr [8] 2, ac_ild 1, ac_cv n_X7_shortensIn 1 [7], ac_ri]] : List (List pm_Ac)).getD b []
def P_X8_stone (b : Nat) : List pm_Ac := ([[ac_ild 1, ac_i (-9999), ac_i (9999), ac_cs n_X8_isIn 3, ac_if0 (fun x => decide (x = 0)) 1, ac_ild 2, ac_i (0), ac_i (99999), ac_cs n_X8_isIn 3, ac_if0 (fun x => decide (¬ x = 0)) 2, ac_go 1],
  [ac_ald 0, ac_i (1), ac_cv n_X8_fail 1 [8], ac_ri],
  [ac_ald 0, ac_gr [8] 0, ac_ild 1, ac_pi [5] 7, ac_ald 0, ac_gr [8] 0, ac_ild 2, ac_pi [5] 8, ac_i (1), ac_ri]] : List (List pm_Ac)).getD b []
def P_X8_slip (b : Nat) : List pm_Ac := ([[ac_ild 2, ac_i (100), ac_dv (fun x y => x / y), ac_ist 4, ac_ild 2, ac_i (100), ac_dv (fun x y => x - x / y * y), ac_ist 5, ac_ild 1, ac_i (0), ac_i (6), ac_cs n_X8_isIn 3, ac_if0 (fun x => decide (x = 0)) 1, ac_ild 3, ac_i (-99), ac_i (99), ac_cs n_X8_isIn 3, ac_if0 (fun x => decide (x = 0)) 1, ac_ild 4, ac_i (0), ac_i (23), ac_cs n_X8_isIn 3, ac_if0 (fun x => decide (x = 0)) 1, ac_ild 5, ac_ild 4, ac_i (23), ac_cs n_X8_isIn 3, ac_if0 (fun x => decide (¬ x = 0)) 2, ac_go 1],
  [ac_ald 0, ac_i (1), ac_cv n_X8_fail 1 [8], ac_ri],
  [ac_ald 0, ac_gr [8] 0, ac_gr [5] 1, ac_cv n_X6_isFull 0 [3], ac_if0 (fun x => decide (x = 0)) 3, ac_ald 0, ac_i (4), ac_cv n_X8_fail 1 [8], ac_ri],
  [ac_ald 0, ac_gr [8] 0, ac_gr [5] 1, ac_ild 1, ac_cv n_X6_add 1 [3], ac_ist 6, ac_ald 0, ac_gr [8] 0, ac_gr [5] 1, ac_i (1), ac_ild 6, ac_ild 4, ac_cv n_X6_set 3 [3], ac_ald 0, ac_gr [8] 0, ac_gr [5] 1, ac_i (2), ac_ild 6, ac_ild 5, ac_cv n_X6_set 3 [3], ac_ald 0, ac_gr [8] 0, ac_gr [5] 1, ac_i (3), ac_ild 6, ac_ild 3, ac_cv n_X6_set 3 [3], ac_ald 0, ac_gr [8] 0, ac_gr [5] 1, ac_i (4), ac_ild 6, ac_i (1), ac_cv n_X6_set 3 [3], ac_ild 6, ac_ri]] : List (List pm_Ac)).getD b []
def P_X8_slipIs (b : Nat) : List pm_Ac := ([[ac_ald 0, ac_gr [8] 0, ac_gr [5] 1, ac_ild 1, ac_cv n_X6_has 1 [3], ac_if0 (fun x => decide (x = 0)) 1, ac_ild 2, ac_i (0), ac_i (4), ac_cs n_X8_isIn 3, ac_if0 (fun x => decide (¬ x = 0)) 2, ac_go 1],
  [ac_ald 0, ac_i (1), ac_cv n_X8_fail 1 [8], ac_ri],
  [ac_ald 0, ac_gr [8] 0, ac_gr [5] 1, ac_ild 2, ac_ild 1, ac_cv n_X6_at 2 [3], ac_ri]] : List (List pm_Ac)).getD b []
def P_X8_as (b : Nat) : List pm_Ac := ([[ac_ald 0, ac_gr [8] 0, ac_gr [5] 1, ac_ild 1, ac_cv n_X6_has 1 [3], ac_if0 (fun x => decide (x = 0)) 1, ac_ild 2, ac_i (0), ac_i (6), ac_cs n_X8_isIn 3, ac_if0 (fun x => decide (¬ x = 0)) 2, ac_go 1],
  [ac_ald 0, ac_i (1), ac_cv n_X8_fail 1 [8], ac_ri],
  [ac_ald 0, ac_gr [8] 0, ac_gr [5] 1, ac_ild 1, ac_ild 2, ac_cv n_X3_isOf 2 [3], ac_if0 (fun x => decide (x = 0)) 3, ac_ald 0, ac_gr [8] 0, ac_gr [5] 1, ac_i (3), ac_ild 1, ac_cv n_X6_at 2 [3], ac_go 4],
  [ac_ald 0, ac_i (5), ac_cv n_X8_fail 1 [8], ac_go 4],
  [ac_ri]] : List (List pm_Ac)).getD b []
def P_X8_turn (b : Nat) : List pm_Ac := ([[ac_ald 0, ac_gr [8] 0, ac_gr [5] 1, ac_ild 1, ac_cv n_X6_has 1 [3], ac_if0 (fun x => decide (x = 0)) 1, ac_ild 2, ac_i (0), ac_i (1), ac_cs n_X8_isIn 3, ac_if0 (fun x => decide (¬ x = 0)) 2, ac_go 1],
  [ac_ald 0, ac_i (1), ac_cv n_X8_fail 1 [8], ac_ri],
  [ac_ald 0, ac_gr [8] 0, ac_gr [5] 1, ac_i (4), ac_ild 1, ac_cv n_X6_at 2 [3], ac_ist 3, ac_ald 0, ac_gr [8] 0, ac_gr [5] 1, ac_i (4), ac_ild 1, ac_ild 2, ac_cv n_X6_set 3 [3], ac_ild 3, ac_ri]] : List (List pm_Ac)).getD b []
def P_X8_does (b : Nat) : List pm_Ac := ([[ac_ald 0, ac_gr [8] 0, ac_gr [5] 1, ac_ild 1, ac_cv n_X6_has 1 [3], ac_if0 (fun x => decide (x = 0)) 1, ac_ild 2, ac_i (0), ac_i (23), ac_cs n_X8_isIn 3, ac_if0 (fun x => decide (x = 0)) 1, ac_ild 3, ac_i (0), ac_i (2), ac_cs n_X8_isIn 3, ac_if0 (fun x => decide (¬ x = 0)) 2, ac_go 1],
  [ac_ald 0, ac_i (1), ac_cv n_X8_fail 1 [8], ac_ri],
  [ac_ild 3, ac_sw [(0, 3), (1, 4)] 5],
  [ac_ald 0, ac_gr [8] 0, ac_gr [5] 1, ac_ild 1, ac_ild 2, ac_cv n_X3_leansAt 2 [3], ac_ri],
  [ac_ald 0, ac_gr [8] 0, ac_gr [5] 1, ac_ild 1, ac_ild 2, ac_ald 0, ac_gr [8] 0, ac_gr [5] 0, ac_i (2), ac_ild 2, ac_cv n_X6_at 2 [6, 3], ac_cv n_X3_pushesAt 3 [3], ac_ri],
  [ac_ald 0, ac_gr [8] 0, ac_gr [5] 1, ac_ild 1, ac_ild 2, ac_ald 0, ac_gr [8] 0, ac_gr [5] 0, ac_i (1), ac_ild 2, ac_cv n_X6_at 2 [6, 3], ac_cv n_X3_shortensAt 3 [3], ac_ri]] : List (List pm_Ac)).getD b []
def P_X8_feed (b : Nat) : List pm_Ac := ([[ac_ild 3, ac_i (1), ac_i (8), ac_cs n_X8_isIn 3, ac_if0 (fun x => decide (¬ x = 0)) 1, ac_ald 0, ac_i (1), ac_cv n_X8_fail 1 [8], ac_ri],
  [ac_ald 0, ac_gr [8] 0, ac_gr [5] 3, ac_cv n_X6_used 0 [6, 3], ac_ild 3, ac_bin (fun x y => x + y), ac_i (60), ac_if2 (fun x y => decide (x ≤ y)) 2, ac_ald 0, ac_i (4), ac_cv n_X8_fail 1 [8], ac_ri],
  [ac_i (0), ac_ist 4, ac_go 3],
  [ac_ild 4, ac_ild 3, ac_if2 (fun x y => decide (y ≤ x)) 4, ac_ald 0, ac_gr [8] 0, ac_gr [5] 3, ac_lld 1, ac_i (8), ac_ild 4, ac_bin (fun x y => x * y), ac_lsh (fun x y => (x.toUInt64 >>> (y.toInt64.toUInt64 &&& Int64.toUInt64 63)).toInt64), ac_l2i, ac_i (255), ac_bin (fun x y => x &&& y), ac_cv n_X6_add 1 [6, 3], ac_pop, ac_inc 4 (1), ac_go 3],
  [ac_ald 0, ac_gr [8] 0, ac_gr [5] 3, ac_cv n_X6_used 0 [6, 3], ac_ri]] : List (List pm_Ac)).getD b []
def P_X8_text (b : Nat) : List pm_Ac := ([[ac_ild 1, ac_i (0), ac_i (1), ac_cs n_X8_isIn 3, ac_if0 (fun x => decide (¬ x = 0)) 1, ac_ald 0, ac_i (1), ac_cv n_X8_fail 1 [8], ac_ri],
  [ac_ald 0, ac_gr [8] 3, ac_ald 0, ac_gr [8] 0, ac_gr [5] 3, ac_ild 1, ac_if0 (fun x => decide (¬ x = 0)) 2, ac_v (.ref 80), ac_go 3],
  [ac_v (.ref 81), ac_go 3],
  [ac_cv n_X1_faultOf 2 [1], ac_ist 2, ac_ald 0, ac_gr [8] 0, ac_gr [5] 3, ac_i (0), ac_cv n_X6_use 1 [6, 3], ac_ild 2, ac_if0 (fun x => decide (x < 0)) 4, ac_i (-10), ac_ild 2, ac_bin (fun x y => x - y), ac_ri],
  [ac_ald 0, ac_ild 1, ac_cv n_X8_lawOf 1 [8], ac_ald 0, ac_gr [8] 3, ac_gr [1] 0, ac_cv n_X0_take 1 [0], ac_i (1), ac_ri]] : List (List pm_Ac)).getD b []
def P_X8_untell (b : Nat) : List pm_Ac := ([[ac_ild 1, ac_i (0), ac_i (1), ac_cs n_X8_isIn 3, ac_if0 (fun x => decide (¬ x = 0)) 1, ac_ald 0, ac_i (1), ac_cv n_X8_fail 1 [8], ac_ri],
  [ac_ald 0, ac_ild 1, ac_cv n_X8_lawOf 1 [8], ac_cv n_X0_isTold 0 [0], ac_if0 (fun x => decide (x = 0)) 2, ac_i (1), ac_go 3],
  [ac_i (0), ac_go 3],
  [ac_ist 2, ac_ald 0, ac_ild 1, ac_cv n_X8_lawOf 1 [8], ac_cv n_X0_clear 0 [0], ac_ild 2, ac_ri]] : List (List pm_Ac)).getD b []
def P_X8_post (b : Nat) : List pm_Ac := ([[ac_ild 1, ac_i (0), ac_ald 0, ac_gr [8] 0, ac_gr [5] 0, ac_cv n_X6_used 0 [6, 3], ac_cs n_X8_isIn 3, ac_if0 (fun x => decide (x = 0)) 1, ac_ild 2, ac_i (0), ac_i (5), ac_cs n_X8_isIn 3, ac_if0 (fun x => decide (¬ x = 0)) 2, ac_go 1],
  [ac_ald 0, ac_i (1), ac_cv n_X8_fail 1 [8], ac_ri],
  [ac_ald 0, ac_gr [8] 2, ac_ald 0, ac_gr [8] 0, ac_i (-1), ac_cv n_X7_go 2 [7], ac_ild 2, ac_sw [(0, 3), (1, 4), (2, 5), (3, 6), (4, 7)] 8],
  [ac_ald 0, ac_gr [8] 2, ac_ild 1, ac_cv n_X7_sideOf 1 [7], ac_ri],
  [ac_ald 0, ac_gr [8] 2, ac_ild 1, ac_cv n_X7_alongOf 1 [7], ac_ri],
  [ac_ald 0, ac_gr [8] 2, ac_ild 1, ac_cv n_X7_sideOf 1 [7], ac_ald 0, ac_ild 1, ac_ald 0, ac_gr [8] 2, ac_cv n_X7_missSide 0 [7], ac_cv n_X8_movedBy 2 [8], ac_bin (fun x y => x - y), ac_ri],
  [ac_ald 0, ac_gr [8] 2, ac_ild 1, ac_cv n_X7_alongOf 1 [7], ac_ald 0, ac_ild 1, ac_ald 0, ac_gr [8] 2, ac_cv n_X7_missAlong 0 [7], ac_cv n_X8_movedBy 2 [8], ac_bin (fun x y => x - y), ac_ri],
  [ac_ald 0, ac_ild 1, ac_cv n_X8_movingOf 1 [8], ac_ri],
  [ac_ald 0, ac_gr [8] 0, ac_gr [5] 2, ac_i (0), ac_ild 1, ac_cv n_X6_howMany 2 [6, 3], ac_ri]] : List (List pm_Ac)).getD b []
def P_X8_miss (b : Nat) : List pm_Ac := ([[ac_ild 1, ac_i (0), ac_i (2), ac_cs n_X8_isIn 3, ac_if0 (fun x => decide (¬ x = 0)) 1, ac_ald 0, ac_i (1), ac_cv n_X8_fail 1 [8], ac_ri],
  [ac_ald 0, ac_gr [8] 2, ac_ald 0, ac_gr [8] 0, ac_i (-1), ac_cv n_X7_go 2 [7], ac_ild 1, ac_sw [(0, 2), (1, 3)] 4],
  [ac_ald 0, ac_gr [8] 2, ac_cv n_X7_missSide 0 [7], ac_ri],
  [ac_ald 0, ac_gr [8] 2, ac_cv n_X7_missAlong 0 [7], ac_ri],
  [ac_ald 0, ac_gr [8] 2, ac_cv n_X7_wholeMiss 0 [7], ac_ri]] : List (List pm_Ac)).getD b []
def P_X8_wronged (b : Nat) : List pm_Ac := ([[ac_ild 1, ac_i (1), ac_i (9999), ac_cs n_X8_isIn 3, ac_if0 (fun x => decide (¬ x = 0)) 1, ac_ald 0, ac_i (1), ac_cv n_X8_fail 1 [8], ac_ri],
  [ac_ald 0, ac_gr [8] 2, ac_ald 0, ac_gr [8] 0, ac_i (-1), ac_cv n_X7_go 2 [7], ac_i (0), ac_ist 2, ac_ald 0, ac_i (0), ac_ild 1, ac_cv n_X8_isMovedBy 2 [8], ac_ist 3, ac_i (0), ac_ist 4, ac_go 2],
  [ac_ild 4, ac_ald 0, ac_gr [8] 0, ac_gr [5] 0, ac_cv n_X6_used 0 [6, 3], ac_if2 (fun x y => decide (y ≤ x)) 5, ac_ald 0, ac_ild 4, ac_i (1), ac_bin (fun x y => x + y), ac_ild 1, ac_cv n_X8_isMovedBy 2 [8], ac_ist 5, ac_ild 3, ac_if0 (fun x => decide (¬ x = 0)) 3, ac_ild 5, ac_if0 (fun x => decide (x = 0)) 4, ac_go 3],
  [ac_ild 2, ac_i (1), ac_ild 4, ac_bin (fun x y => x <<< (y &&& 31)), ac_bin (fun x y => x ||| y), ac_ist 2, ac_go 4],
  [ac_ild 5, ac_ist 3, ac_inc 4 (1), ac_go 2],
  [ac_ild 2, ac_ri]] : List (List pm_Ac)).getD b []
def P_X8_which (b : Nat) : List pm_Ac := ([[ac_ild 1, ac_i (0), ac_i (1), ac_cs n_X8_isIn 3, ac_if0 (fun x => decide (¬ x = 0)) 1, ac_ald 0, ac_i (1), ac_cv n_X8_fail 1 [8], ac_ri],
  [ac_i (-1), ac_ist 2, ac_i (0), ac_ist 3, ac_i (0), ac_ist 4, ac_go 2],
  [ac_ild 4, ac_ald 0, ac_gr [8] 0, ac_gr [5] 1, ac_cv n_X6_used 0 [3], ac_if2 (fun x y => decide (y ≤ x)) 5, ac_ald 0, ac_gr [8] 0, ac_gr [5] 1, ac_i (4), ac_ild 4, ac_cv n_X6_at 2 [3], ac_i (1), ac_if2 (fun x y => decide (¬ x = y)) 4, ac_ald 0, ac_gr [8] 2, ac_ald 0, ac_gr [8] 0, ac_ild 4, ac_cv n_X7_go 2 [7], ac_ald 0, ac_gr [8] 2, ac_cv n_X7_wholeMiss 0 [7], ac_ist 5, ac_ild 2, ac_i (-1), ac_if2 (fun x y => decide (x = y)) 3, ac_ild 5, ac_ild 3, ac_if2 (fun x y => decide (y ≤ x)) 4, ac_go 3],
  [ac_ild 4, ac_ist 2, ac_ild 5, ac_ist 3, ac_go 4],
  [ac_inc 4 (1), ac_go 2],
  [ac_ild 2, ac_i (-1), ac_if2 (fun x y => decide (¬ x = y)) 6, ac_ald 0, ac_i (2), ac_cv n_X8_fail 1 [8], ac_ri],
  [ac_ild 1, ac_if0 (fun x => decide (¬ x = 0)) 7, ac_ild 2, ac_go 8],
  [ac_ild 3, ac_go 8],
  [ac_ri]] : List (List pm_Ac)).getD b []
def P_X8_checks (b : Nat) : List pm_Ac := ([[ac_ild 1, ac_i (1), ac_i (2), ac_cs n_X8_isIn 3, ac_if0 (fun x => decide (x = 0)) 1, ac_ild 2, ac_i (0), ac_i (1), ac_cs n_X8_isIn 3, ac_if0 (fun x => decide (¬ x = 0)) 2, ac_go 1],
  [ac_ald 0, ac_i (1), ac_cv n_X8_fail 1 [8], ac_ri],
  [ac_ald 0, ac_gr [8] 0, ac_gr [5] 0, ac_cv n_X6_used 0 [6, 3], ac_ild 1, ac_if2 (fun x y => decide (y ≤ x)) 3, ac_ald 0, ac_i (2), ac_cv n_X8_fail 1 [8], ac_ri],
  [ac_ald 0, ac_gr [8] 2, ac_ald 0, ac_gr [8] 0, ac_i (-1), ac_cv n_X7_go 2 [7], ac_ild 1, ac_i (1), ac_if2 (fun x y => decide (¬ x = y)) 4, ac_ald 0, ac_gr [8] 2, ac_cv n_X7_bestCheck 0 [7], ac_go 5],
  [ac_ald 0, ac_gr [8] 2, ac_cv n_X7_bestPairOfChecks 0 [7], ac_go 5],
  [ac_ist 3, ac_ild 2, ac_if0 (fun x => decide (¬ x = 0)) 6, ac_ild 3, ac_go 7],
  [ac_ald 0, ac_gr [8] 2, ac_ild 3, ac_cv n_X7_offWithChecks 1 [7], ac_go 7],
  [ac_ri]] : List (List pm_Ac)).getD b []
def P_X8_hours (b : Nat) : List pm_Ac := ([[ac_i (0), ac_ist 1, ac_i (0), ac_ist 2, ac_go 1],
  [ac_ild 2, ac_ald 0, ac_gr [8] 0, ac_gr [5] 0, ac_cv n_X6_used 0 [6, 3], ac_if2 (fun x y => decide (y ≤ x)) 2, ac_ild 1, ac_ald 0, ac_ild 2, ac_cv n_X8_hoursOf 1 [8], ac_bin (fun x y => x + y), ac_ist 1, ac_inc 2 (1), ac_go 1],
  [ac_ild 1, ac_ri]] : List (List pm_Ac)).getD b []
def P_X8_within (b : Nat) : List pm_Ac := ([[ac_ild 1, ac_i (0), ac_i (99999), ac_cs n_X8_isIn 3, ac_if0 (fun x => decide (¬ x = 0)) 1, ac_ald 0, ac_i (1), ac_cv n_X8_fail 1 [8], ac_ri],
  [ac_i (0), ac_ist 2, ac_i (0), ac_ist 3, ac_go 2],
  [ac_ild 3, ac_ald 0, ac_gr [8] 0, ac_gr [5] 0, ac_cv n_X6_used 0 [6, 3], ac_if2 (fun x y => decide (y ≤ x)) 4, ac_ild 2, ac_ald 0, ac_ild 3, ac_cv n_X8_hoursOf 1 [8], ac_bin (fun x y => x + y), ac_ist 2, ac_ild 2, ac_ild 1, ac_if2 (fun x y => decide (x ≤ y)) 3, ac_ild 3, ac_ri],
  [ac_inc 3 (1), ac_go 2],
  [ac_ald 0, ac_gr [8] 0, ac_gr [5] 0, ac_cv n_X6_used 0 [6, 3], ac_ri]] : List (List pm_Ac)).getD b []
def P_X8_leaning (b : Nat) : List pm_Ac := ([[ac_ald 0, ac_gr [8] 2, ac_ald 0, ac_gr [8] 0, ac_i (-1), ac_cv n_X7_go 2 [7], ac_i (0), ac_ist 1, ac_i (1), ac_ist 2, ac_go 1],
  [ac_ild 2, ac_ald 0, ac_gr [8] 0, ac_gr [5] 0, ac_cv n_X6_used 0 [6, 3], ac_if2 (fun x y => decide (y ≤ x)) 3, ac_ald 0, ac_gr [8] 2, ac_ild 2, ac_cv n_X7_headingIn 1 [7], ac_m1 (fun x => if 0 ≤ x then x else 0 - x), ac_ald 0, ac_gr [8] 2, ac_ild 1, ac_cv n_X7_headingIn 1 [7], ac_m1 (fun x => if 0 ≤ x then x else 0 - x), ac_if2 (fun x y => decide (x ≤ y)) 2, ac_ild 2, ac_ist 1, ac_go 2],
  [ac_inc 2 (1), ac_go 1],
  [ac_ild 1, ac_ri]] : List (List pm_Ac)).getD b []
def P_X8_straight (b : Nat) : List pm_Ac := ([[ac_ild 1, ac_i (0), ac_i (1), ac_cs n_X8_isIn 3, ac_if0 (fun x => decide (¬ x = 0)) 1, ac_ald 0, ac_i (1), ac_cv n_X8_fail 1 [8], ac_i2l, ac_rl],
  [ac_ald 0, ac_gr [8] 2, ac_ald 0, ac_gr [8] 0, ac_i (-1), ac_cv n_X7_go 2 [7], ac_ald 0, ac_gr [8] 2, ac_cv n_X7_sumOfSides 0 [7], ac_lst 2, ac_ald 0, ac_gr [8] 2, ac_cv n_X7_sumOfSquares 0 [7], ac_lst 4, ac_lld 2, ac_ml (fun x => if 0 < x then x else -x), ac_lld 4, ac_cs n_X8_greatestCommon 2, ac_lst 6, ac_ild 1, ac_if0 (fun x => decide (¬ x = 0)) 2, ac_lld 2, ac_go 3],
  [ac_lld 4, ac_go 3],
  [ac_lst 8, ac_lld 6, ac_l (0), ac_lcmp, ac_if0 (fun x => decide (x ≤ 0)) 4, ac_lld 8, ac_lld 6, ac_ldv (fun x y => x / y), ac_go 5],
  [ac_lld 8, ac_go 5],
  [ac_rl]] : List (List pm_Ac)).getD b []
def P_X8_offIt (b : Nat) : List pm_Ac := ([[ac_ald 0, ac_gr [8] 2, ac_ald 0, ac_gr [8] 0, ac_i (-1), ac_cv n_X7_go 2 [7], ac_i (1), ac_ist 1, ac_i (2), ac_ist 2, ac_go 1],
  [ac_ild 2, ac_ald 0, ac_gr [8] 0, ac_gr [5] 0, ac_cv n_X6_used 0 [6, 3], ac_if2 (fun x y => decide (y < x)) 3, ac_ald 0, ac_gr [8] 2, ac_ild 2, ac_cv n_X7_offStraight 1 [7], ac_ald 0, ac_gr [8] 2, ac_ild 1, ac_cv n_X7_offStraight 1 [7], ac_lcmp, ac_if0 (fun x => decide (x ≤ 0)) 2, ac_ild 2, ac_ist 1, ac_go 2],
  [ac_inc 2 (1), ac_go 1],
  [ac_ild 1, ac_ri]] : List (List pm_Ac)).getD b []
def P_X8_nearest (b : Nat) : List pm_Ac := ([[ac_ild 1, ac_i (-99999), ac_i (99999), ac_cs n_X8_isIn 3, ac_if0 (fun x => decide (x = 0)) 1, ac_ild 2, ac_i (0), ac_i (99999), ac_cs n_X8_isIn 3, ac_if0 (fun x => decide (¬ x = 0)) 2, ac_go 1],
  [ac_ald 0, ac_i (1), ac_cv n_X8_fail 1 [8], ac_ri],
  [ac_ald 0, ac_gr [8] 2, ac_ald 0, ac_gr [8] 0, ac_i (-1), ac_cv n_X7_go 2 [7], ac_i (0), ac_ist 3, ac_i (1), ac_ist 4, ac_go 3],
  [ac_ild 4, ac_ald 0, ac_gr [8] 0, ac_gr [5] 0, ac_cv n_X6_used 0 [6, 3], ac_if2 (fun x y => decide (y < x)) 5, ac_ald 0, ac_gr [8] 2, ac_ild 4, ac_ild 1, ac_ild 2, ac_cv n_X7_distanceOf 3 [7], ac_ald 0, ac_gr [8] 2, ac_ild 3, ac_ild 1, ac_ild 2, ac_cv n_X7_distanceOf 3 [7], ac_if2 (fun x y => decide (y ≤ x)) 4, ac_ild 4, ac_ist 3, ac_go 4],
  [ac_inc 4 (1), ac_go 3],
  [ac_ild 3, ac_ri]] : List (List pm_Ac)).getD b []
def P_X8_crosses (b : Nat) : List pm_Ac := ([[ac_ald 0, ac_gr [8] 2, ac_ald 0, ac_gr [8] 0, ac_i (-1), ac_cv n_X7_go 2 [7], ac_i (0), ac_ist 1, ac_i (0), ac_ist 2, ac_go 1],
  [ac_ild 2, ac_ald 0, ac_gr [8] 0, ac_gr [5] 0, ac_cv n_X6_used 0 [6, 3], ac_if2 (fun x y => decide (y ≤ x)) 5, ac_ald 0, ac_gr [8] 2, ac_ild 2, ac_cv n_X7_sideOf 1 [7], ac_ist 3, ac_ald 0, ac_gr [8] 2, ac_ild 2, ac_i (1), ac_bin (fun x y => x + y), ac_cv n_X7_sideOf 1 [7], ac_ist 4, ac_ild 3, ac_if0 (fun x => decide (0 ≤ x)) 2, ac_ild 4, ac_if0 (fun x => decide (0 < x)) 3, ac_go 2],
  [ac_ild 3, ac_if0 (fun x => decide (x ≤ 0)) 4, ac_ild 4, ac_if0 (fun x => decide (0 ≤ x)) 4, ac_go 3],
  [ac_inc 1 (1), ac_go 4],
  [ac_inc 2 (1), ac_go 1],
  [ac_ild 1, ac_ri]] : List (List pm_Ac)).getD b []
def P_X8_tree (b : Nat) : List pm_Ac := ([[ac_ild 3, ac_i (1000), ac_dv (fun x y => x / y), ac_i (100), ac_bin (fun x y => x - y), ac_ist 4, ac_ild 3, ac_i (1000), ac_dv (fun x y => x - x / y * y), ac_i (100), ac_bin (fun x y => x - y), ac_ist 5, ac_ild 1, ac_i (1), ac_i (24), ac_cs n_X8_isIn 3, ac_if0 (fun x => decide (x = 0)) 1, ac_ild 2, ac_i (0), ac_i (5), ac_cs n_X8_isIn 3, ac_if0 (fun x => decide (x = 0)) 1, ac_ild 4, ac_i (-99), ac_i (99), ac_cs n_X8_isIn 3, ac_if0 (fun x => decide (x = 0)) 1, ac_ild 5, ac_i (-99), ac_i (99), ac_cs n_X8_isIn 3, ac_if0 (fun x => decide (¬ x = 0)) 2, ac_go 1],
  [ac_ald 0, ac_i (1), ac_cv n_X8_fail 1 [8], ac_ri],
  [ac_ald 0, ac_gr [8] 0, ac_gr [5] 2, ac_cv n_X6_isFull 0 [6, 3], ac_if0 (fun x => decide (x = 0)) 3, ac_ald 0, ac_i (4), ac_cv n_X8_fail 1 [8], ac_ri],
  [ac_ald 0, ac_gr [8] 0, ac_gr [5] 2, ac_ild 1, ac_cv n_X6_add 1 [6, 3], ac_ist 6, ac_ald 0, ac_gr [8] 0, ac_gr [5] 2, ac_i (1), ac_ild 6, ac_ild 2, ac_cv n_X6_set 3 [6, 3], ac_ald 0, ac_gr [8] 0, ac_gr [5] 2, ac_i (2), ac_ild 6, ac_ild 4, ac_cv n_X6_set 3 [6, 3], ac_ald 0, ac_gr [8] 0, ac_gr [5] 2, ac_i (3), ac_ild 6, ac_ild 5, ac_cv n_X6_set 3 [6, 3], ac_ild 6, ac_ri]] : List (List pm_Ac)).getD b []
def P_X8_treeIs (b : Nat) : List pm_Ac := ([[ac_ald 0, ac_gr [8] 0, ac_gr [5] 2, ac_ild 1, ac_cv n_X6_has 1 [6, 3], ac_if0 (fun x => decide (x = 0)) 1, ac_ild 2, ac_i (0), ac_i (5), ac_cs n_X8_isIn 3, ac_if0 (fun x => decide (¬ x = 0)) 2, ac_go 1],
  [ac_ald 0, ac_i (1), ac_cv n_X8_fail 1 [8], ac_ri],
  [ac_ild 2, ac_i (3), ac_if2 (fun x y => decide (y < x)) 3, ac_ald 0, ac_gr [8] 0, ac_gr [5] 2, ac_ild 2, ac_ild 1, ac_cv n_X6_at 2 [6, 3], ac_ri],
  [ac_ald 0, ac_gr [8] 0, ac_gr [5] 2, ac_i (0), ac_ild 1, ac_cv n_X6_at 2 [6, 3], ac_ist 3, ac_ild 3, ac_ald 0, ac_gr [8] 0, ac_gr [5] 0, ac_cv n_X6_used 0 [6, 3], ac_if2 (fun x y => decide (x ≤ y)) 4, ac_ald 0, ac_i (2), ac_cv n_X8_fail 1 [8], ac_ri],
  [ac_ald 0, ac_gr [8] 2, ac_ald 0, ac_gr [8] 0, ac_i (-1), ac_cv n_X7_go 2 [7], ac_ild 2, ac_i (4), ac_if2 (fun x y => decide (¬ x = y)) 5, ac_ald 0, ac_gr [8] 2, ac_ild 3, ac_cv n_X7_sideOf 1 [7], ac_ald 0, ac_gr [8] 0, ac_gr [5] 2, ac_i (2), ac_ild 1, ac_cv n_X6_at 2 [6, 3], ac_bin (fun x y => x + y), ac_go 6],
  [ac_ald 0, ac_gr [8] 2, ac_ild 3, ac_cv n_X7_alongOf 1 [7], ac_ald 0, ac_gr [8] 0, ac_gr [5] 2, ac_i (3), ac_ild 1, ac_cv n_X6_at 2 [6, 3], ac_bin (fun x y => x + y), ac_go 6],
  [ac_ri]] : List (List pm_Ac)).getD b []
def P_X8_dig (b : Nat) : List pm_Ac := ([[ac_ald 0, ac_gr [8] 0, ac_gr [5] 2, ac_ild 1, ac_cv n_X6_has 1 [6, 3], ac_if0 (fun x => decide (x = 0)) 1, ac_ild 4, ac_i (0), ac_i (1), ac_cs n_X8_isIn 3, ac_if0 (fun x => decide (¬ x = 0)) 2, ac_go 1],
  [ac_ald 0, ac_i (1), ac_cv n_X8_fail 1 [8], ac_ri],
  [ac_ild 4, ac_if0 (fun x => decide (¬ x = 0)) 3, ac_ild 2, ac_ald 0, ac_gr [8] 0, ac_gr [5] 2, ac_i (2), ac_ild 1, ac_cv n_X6_at 2 [6, 3], ac_bin (fun x y => x - y), ac_go 4],
  [ac_ild 3, ac_ald 0, ac_gr [8] 0, ac_gr [5] 2, ac_i (3), ac_ild 1, ac_cv n_X6_at 2 [6, 3], ac_bin (fun x y => x - y), ac_go 4],
  [ac_ri]] : List (List pm_Ac)).getD b []
def P_X8_sorts (b : Nat) : List pm_Ac := ([[ac_ild 1, ac_i (0), ac_i (5), ac_cs n_X8_isIn 3, ac_if0 (fun x => decide (¬ x = 0)) 1, ac_ald 0, ac_i (1), ac_cv n_X8_fail 1 [8], ac_ri],
  [ac_ald 0, ac_gr [8] 0, ac_gr [5] 2, ac_i (1), ac_ild 1, ac_cv n_X6_howMany 2 [6, 3], ac_ri]] : List (List pm_Ac)).getD b []
def P_X8_waver (b : Nat) : List pm_Ac := ([[ac_ild 1, ac_i (0), ac_i (23), ac_cs n_X8_isIn 3, ac_if0 (fun x => decide (x = 0)) 1, ac_ild 2, ac_i (1), ac_i (24), ac_cs n_X8_isIn 3, ac_if0 (fun x => decide (x = 0)) 1, ac_ild 3, ac_i (0), ac_i (99), ac_cs n_X8_isIn 3, ac_if0 (fun x => decide (¬ x = 0)) 2, ac_go 1],
  [ac_ald 0, ac_i (1), ac_cv n_X8_fail 1 [8], ac_ri],
  [ac_ild 1, ac_ist 4, ac_go 3],
  [ac_ild 4, ac_ild 1, ac_ild 2, ac_bin (fun x y => x + y), ac_if2 (fun x y => decide (y ≤ x)) 4, ac_ild 4, ac_i (24), ac_if2 (fun x y => decide (y ≤ x)) 4, ac_ald 0, ac_gr [8] 0, ac_gr [5] 0, ac_i (4), ac_ild 4, ac_ald 0, ac_gr [8] 0, ac_cv n_X5_draw 0 [5], ac_i (2), ac_ild 3, ac_bin (fun x y => x * y), ac_i (1), ac_bin (fun x y => x + y), ac_dv (fun x y => x - x / y * y), ac_ild 3, ac_bin (fun x y => x - y), ac_cv n_X6_set 3 [6, 3], ac_inc 4 (1), ac_go 3],
  [ac_ald 0, ac_gr [8] 2, ac_ald 0, ac_gr [8] 0, ac_i (-1), ac_cv n_X7_go 2 [7], ac_ald 0, ac_gr [8] 2, ac_cv n_X7_missSide 0 [7], ac_ri]] : List (List pm_Ac)).getD b []
def P_X8_still (b : Nat) : List pm_Ac := ([[ac_i (0), ac_ist 1, ac_i (0), ac_ist 2, ac_go 1],
  [ac_ild 2, ac_i (24), ac_if2 (fun x y => decide (y ≤ x)) 3, ac_ald 0, ac_gr [8] 0, ac_gr [5] 0, ac_i (4), ac_ild 2, ac_cv n_X6_at 2 [6, 3], ac_if0 (fun x => decide (x = 0)) 2, ac_inc 1 (1), ac_go 2],
  [ac_ald 0, ac_gr [8] 0, ac_gr [5] 0, ac_i (4), ac_ild 2, ac_i (0), ac_cv n_X6_set 3 [6, 3], ac_inc 2 (1), ac_go 1],
  [ac_ild 1, ac_ri]] : List (List pm_Ac)).getD b []
def P_X8_seed (b : Nat) : List pm_Ac := ([[ac_ald 0, ac_gr [8] 0, ac_gi [5] 9, ac_ist 2, ac_ald 0, ac_gr [8] 0, ac_ild 1, ac_pi [5] 9, ac_ild 2, ac_ri]] : List (List pm_Ac)).getD b []
def P_X8_voice (b : Nat) : List pm_Ac := ([[ac_ald 0, ac_gr [8] 0, ac_gr [5] 1, ac_ild 1, ac_cv n_X6_has 1 [3], ac_if0 (fun x => decide (x = 0)) 1, ac_ild 2, ac_i (0), ac_i (3), ac_cs n_X8_isIn 3, ac_if0 (fun x => decide (¬ x = 0)) 2, ac_go 1],
  [ac_ald 0, ac_i (1), ac_cv n_X8_fail 1 [8], ac_ri],
  [ac_ald 0, ac_gr [8] 4, ac_ald 0, ac_gr [8] 0, ac_gr [5] 1, ac_ild 1, ac_ild 2, ac_ild 3, ac_cv n_X4_speak 4 [4], ac_ist 4, ac_ald 0, ac_gr [8] 4, ac_cv n_X4_isParted 0 [4], ac_if0 (fun x => decide (x = 0)) 3, ac_ald 0, ac_i (6), ac_cv n_X8_fail 1 [8], ac_go 4],
  [ac_ild 4, ac_go 4],
  [ac_ri]] : List (List pm_Ac)).getD b []
def P_X8_body (b : Nat) : List pm_Ac := ([[ac_ald 0, ac_gr [8] 4, ac_gr [4] 0, ac_ild 1, ac_cv n_X6_has 1 [6, 3], ac_if0 (fun x => decide (x = 0)) 1, ac_ald 0, ac_gr [8] 4, ac_gr [4] 0, ac_i (0), ac_ild 1, ac_cv n_X6_at 2 [6, 3], ac_go 2],
  [ac_ald 0, ac_i (2), ac_cv n_X8_fail 1 [8], ac_go 2],
  [ac_ri]] : List (List pm_Ac)).getD b []
def P_X8_sheet (b : Nat) : List pm_Ac := ([[ac_ald 0, ac_ild 1, ac_cv n_X8_sheetOf 1 [8], ac_ast 4, ac_ald 4, ac_ifn true false 1, ac_ild 2, ac_if0 (fun x => decide (x = 0)) 2, ac_ild 2, ac_i (8), ac_if2 (fun x y => decide (x = y)) 2, ac_ild 2, ac_i (16), ac_if2 (fun x y => decide (x = y)) 2, ac_ild 2, ac_i (32), ac_if2 (fun x y => decide (x = y)) 2, ac_go 1],
  [ac_ald 0, ac_i (1), ac_cv n_X8_fail 1 [8], ac_ri],
  [ac_ild 2, ac_if0 (fun x => decide (x = 0)) 3, ac_ild 3, ac_if0 (fun x => decide (0 ≤ x)) 3, ac_ald 0, ac_i (3), ac_cv n_X8_fail 1 [8], ac_ri],
  [ac_ild 2, ac_if0 (fun x => decide (x = 0)) 4, ac_ild 3, ac_i (24), ac_if2 (fun x y => decide (x ≤ y)) 4, ac_ald 0, ac_i (1), ac_cv n_X8_fail 1 [8], ac_ri],
  [ac_ald 4, ac_ild 2, ac_ild 2, ac_if0 (fun x => decide (¬ x = 0)) 5, ac_i (0), ac_go 6],
  [ac_ild 3, ac_go 6],
  [ac_cv n_X2_lay 2 [2], ac_i (1), ac_ri]] : List (List pm_Ac)).getD b []
def P_X8_put (b : Nat) : List pm_Ac := ([[ac_ald 0, ac_ild 1, ac_cv n_X8_sheetOf 1 [8], ac_ast 4, ac_ald 4, ac_ifn false true 1, ac_ald 0, ac_i (1), ac_cv n_X8_fail 1 [8], ac_ri],
  [ac_ald 4, ac_cv n_X2_isMissing 0 [2], ac_if0 (fun x => decide (x = 0)) 2, ac_ald 0, ac_i (2), ac_cv n_X8_fail 1 [8], ac_ri],
  [ac_ald 4, ac_ild 2, ac_i (1), ac_cv n_X2_stand 2 [2], ac_if0 (fun x => decide (¬ x = 0)) 3, ac_ald 0, ac_i (1), ac_cv n_X8_fail 1 [8], ac_ri],
  [ac_ald 4, ac_ild 2, ac_ild 3, ac_cv n_X2_write 2 [2], ac_i (1), ac_ri]] : List (List pm_Ac)).getD b []
def P_X8_move (b : Nat) : List pm_Ac := ([[ac_ald 0, ac_ild 1, ac_cv n_X8_sheetOf 1 [8], ac_ast 6, ac_ald 0, ac_ild 3, ac_cv n_X8_sheetOf 1 [8], ac_ast 7, ac_ald 6, ac_ifn true false 1, ac_ald 7, ac_ifn false true 2, ac_go 1],
  [ac_ald 0, ac_i (1), ac_cv n_X8_fail 1 [8], ac_ri],
  [ac_ald 6, ac_cv n_X2_isMissing 0 [2], ac_if0 (fun x => decide (¬ x = 0)) 3, ac_ald 7, ac_cv n_X2_isMissing 0 [2], ac_if0 (fun x => decide (x = 0)) 4, ac_go 3],
  [ac_ald 0, ac_i (2), ac_cv n_X8_fail 1 [8], ac_ri],
  [ac_ald 6, ac_gi [2] 1, ac_ald 7, ac_gi [2] 1, ac_if2 (fun x y => decide (x = y)) 5, ac_ald 0, ac_i (5), ac_cv n_X8_fail 1 [8], ac_ri],
  [ac_ald 6, ac_ild 2, ac_ild 5, ac_cv n_X2_stand 2 [2], ac_if0 (fun x => decide (x = 0)) 6, ac_ald 7, ac_ild 4, ac_ild 5, ac_cv n_X2_stand 2 [2], ac_if0 (fun x => decide (¬ x = 0)) 7, ac_go 6],
  [ac_ald 0, ac_i (1), ac_cv n_X8_fail 1 [8], ac_ri],
  [ac_ald 6, ac_gr [2] 0, ac_ild 2, ac_ald 7, ac_gr [2] 0, ac_ild 4, ac_ild 5, ac_cp, ac_ild 5, ac_ri]] : List (List pm_Ac)).getD b []
def P_X8_judge (b : Nat) : List pm_Ac := ([[ac_ald 0, ac_ild 1, ac_cv n_X8_sheetOf 1 [8], ac_ast 3, ac_ald 3, ac_ifn true false 1, ac_ild 2, ac_i (0), ac_i (9999), ac_cs n_X8_isIn 3, ac_if0 (fun x => decide (¬ x = 0)) 2, ac_go 1],
  [ac_ald 0, ac_i (1), ac_cv n_X8_fail 1 [8], ac_ri],
  [ac_ald 3, ac_cv n_X2_isMissing 0 [2], ac_if0 (fun x => decide (x = 0)) 3, ac_ald 0, ac_i (2), ac_cv n_X8_fail 1 [8], ac_ri],
  [ac_ald 0, ac_gr [8] 2, ac_ald 0, ac_gr [8] 0, ac_i (-1), ac_cv n_X7_go 2 [7], ac_i (0), ac_ist 4, ac_go 4],
  [ac_ild 4, ac_ald 3, ac_gi [2] 2, ac_if2 (fun x y => decide (y ≤ x)) 7, ac_ild 4, ac_i (1), ac_bin (fun x y => x + y), ac_ist 5, ac_ild 5, ac_ald 0, ac_gr [8] 0, ac_gr [5] 0, ac_cv n_X6_used 0 [6, 3], ac_if2 (fun x y => decide (y < x)) 5, ac_ald 3, ac_ild 4, ac_cv n_X2_number 1 [2], ac_i2l, ac_ald 0, ac_gr [8] 2, ac_ild 5, ac_cv n_X7_sideOf 1 [7], ac_i2l, ac_lbin (fun x y => x - y), ac_ml (fun x => if 0 < x then x else -x), ac_ild 2, ac_i2l, ac_lcmp, ac_if0 (fun x => decide (x ≤ 0)) 6, ac_go 5],
  [ac_ild 5, ac_ri],
  [ac_inc 4 (1), ac_go 4],
  [ac_i (0), ac_ri]] : List (List pm_Ac)).getD b []
def P_X8_even (b : Nat) : List pm_Ac := ([[ac_ald 0, ac_ild 1, ac_cv n_X8_sheetOf 1 [8], ac_ast 3, ac_ald 3, ac_ifn true false 1, ac_ild 2, ac_i (0), ac_i (1), ac_cs n_X8_isIn 3, ac_if0 (fun x => decide (¬ x = 0)) 2, ac_go 1],
  [ac_ald 0, ac_i (1), ac_cv n_X8_fail 1 [8], ac_ri],
  [ac_ald 3, ac_cv n_X2_isMissing 0 [2], ac_if0 (fun x => decide (x = 0)) 3, ac_ald 0, ac_i (2), ac_cv n_X8_fail 1 [8], ac_ri],
  [ac_ild 2, ac_if0 (fun x => decide (¬ x = 0)) 4, ac_ald 3, ac_cv n_X2_evenSteps 0 [2], ac_ri],
  [ac_ald 3, ac_cv n_X2_longestEvenRow 0 [2], ac_i (3), ac_if2 (fun x y => decide (x < y)) 5, ac_i (1), ac_go 6],
  [ac_i (0), ac_go 6],
  [ac_ri]] : List (List pm_Ac)).getD b []
def P_X8_image (b : Nat) : List pm_Ac := ([[ac_ald 0, ac_gr [8] 1, ac_ald 0, ac_gr [8] 0, ac_cv n_X5_take 1 [5], ac_ald 0, ac_dup, ac_gi [8] 9, ac_i (1), ac_bin (fun x y => x + y), ac_pi [8] 9, ac_ald 0, ac_gi [8] 9, ac_ri]] : List (List pm_Ac)).getD b []
def P_X8_restore (b : Nat) : List pm_Ac := ([[ac_ald 0, ac_gi [8] 9, ac_if0 (fun x => decide (¬ x = 0)) 1, ac_ald 0, ac_i (2), ac_cv n_X8_fail 1 [8], ac_ri],
  [ac_ald 0, ac_gr [8] 0, ac_ald 0, ac_gr [8] 1, ac_cv n_X5_take 1 [5], ac_ald 0, ac_gr [8] 0, ac_gr [5] 0, ac_cv n_X6_used 0 [6, 3], ac_ri]] : List (List pm_Ac)).getD b []
def P_X8_tell (b : Nat) : List pm_Ac := ([[ac_ald 0, ac_gr [8] 0, ac_gr [5] 4, ac_cv n_X6_isFull 0 [6, 3], ac_if0 (fun x => decide (x = 0)) 1, ac_ald 0, ac_i (4), ac_cv n_X8_fail 1 [8], ac_ri],
  [ac_ald 0, ac_gr [8] 0, ac_gr [5] 4, ac_ild 1, ac_cv n_X6_add 1 [6, 3], ac_pop, ac_ald 0, ac_gr [8] 0, ac_gr [5] 4, ac_cv n_X6_used 0 [6, 3], ac_ri]] : List (List pm_Ac)).getD b []
def P_X8_check (b : Nat) : List pm_Ac := ([[ac_ald 0, ac_gr [8] 2, ac_ald 0, ac_gr [8] 0, ac_i (-1), ac_cv n_X7_go 2 [7], ac_ald 0, ac_gr [8] 0, ac_gr [5] 4, ac_cv n_X6_used 0 [6, 3], ac_ist 1, ac_ald 0, ac_gr [8] 0, ac_gr [5] 0, ac_cv n_X6_used 0 [6, 3], ac_ist 2, ac_ald 0, ac_gr [8] 0, ac_gr [5] 4, ac_i (0), ac_cv n_X6_use 1 [6, 3], ac_i (0), ac_ist 3, ac_go 1],
  [ac_ild 3, ac_ild 1, ac_if2 (fun x y => decide (y ≤ x)) 3, ac_ild 3, ac_ild 2, ac_if2 (fun x y => decide (y ≤ x)) 3, ac_ald 0, ac_gr [8] 0, ac_gr [5] 4, ac_i (0), ac_ild 3, ac_cv n_X6_at 2 [6, 3], ac_ald 0, ac_gr [8] 2, ac_ild 3, ac_i (1), ac_bin (fun x y => x + y), ac_cv n_X7_sideOf 1 [7], ac_if2 (fun x y => decide (x = y)) 2, ac_i (1), ac_ild 3, ac_bin (fun x y => x + y), ac_ri],
  [ac_inc 3 (1), ac_go 1],
  [ac_ild 1, ac_ild 2, ac_if2 (fun x y => decide (¬ x = y)) 4, ac_i (0), ac_go 5],
  [ac_i (1), ac_ild 1, ac_ild 2, ac_m2 (fun x y => if y < x then y else x), ac_bin (fun x y => x + y), ac_go 5],
  [ac_ri]] : List (List pm_Ac)).getD b []
def P_X8_count (b : Nat) : List pm_Ac := ([[ac_ild 1, ac_sw [(0, 1), (1, 2), (2, 3), (3, 4), (4, 5), (5, 6), (6, 7), (7, 8)] 9],
  [ac_ald 0, ac_gr [8] 0, ac_gr [5] 0, ac_cv n_X6_used 0 [6, 3], ac_ri],
  [ac_ald 0, ac_gr [8] 0, ac_gr [5] 1, ac_cv n_X6_used 0 [3], ac_ri],
  [ac_ald 0, ac_gr [8] 0, ac_gr [5] 2, ac_cv n_X6_used 0 [6, 3], ac_ri],
  [ac_ald 0, ac_gr [8] 0, ac_gr [5] 0, ac_i (3), ac_i (1), ac_cv n_X6_howMany 2 [6, 3], ac_ri],
  [ac_ald 0, ac_gr [8] 0, ac_gr [5] 3, ac_cv n_X6_used 0 [6, 3], ac_ri],
  [ac_ald 0, ac_gr [8] 0, ac_gr [5] 4, ac_cv n_X6_used 0 [6, 3], ac_ri],
  [ac_ald 0, ac_gr [8] 4, ac_gr [4] 0, ac_cv n_X6_used 0 [6, 3], ac_ri],
  [ac_ald 0, ac_gr [8] 0, ac_gi [5] 9, ac_ri],
  [ac_ald 0, ac_i (1), ac_cv n_X8_fail 1 [8], ac_ri]] : List (List pm_Ac)).getD b []
def P_X8_told (b : Nat) : List pm_Ac := ([[ac_ild 1, ac_i (1), ac_i (6), ac_cs n_X8_isIn 3, ac_if0 (fun x => decide (x = 0)) 1, ac_ald 0, ac_gr [8] 6, ac_ild 1, ac_ia, ac_go 2],
  [ac_ald 0, ac_i (1), ac_cv n_X8_fail 1 [8], ac_go 2],
  [ac_ri]] : List (List pm_Ac)).getD b []
def P_X8_fail (b : Nat) : List pm_Ac := ([[ac_ild 1, ac_i (1), ac_i (6), ac_cs n_X8_isIn 3, ac_if0 (fun x => decide (x = 0)) 1, ac_ald 0, ac_gr [8] 6, ac_ild 1, ac_dup2, ac_ia, ac_i (1), ac_bin (fun x y => x + y), ac_ias, ac_go 1],
  [ac_i (-1000000000), ac_ild 1, ac_bin (fun x y => x - y), ac_ri]] : List (List pm_Ac)).getD b []
def P_X8_lawOf (b : Nat) : List pm_Ac := ([[ac_ild 1, ac_if0 (fun x => decide (¬ x = 0)) 1, ac_ald 0, ac_gr [8] 0, ac_gr [5] 5, ac_go 2],
  [ac_ald 0, ac_gr [8] 0, ac_gr [5] 6, ac_go 2],
  [ac_ra]] : List (List pm_Ac)).getD b []
def P_X8_sheetOf (b : Nat) : List pm_Ac := ([[ac_ild 1, ac_i (0), ac_i (3), ac_cs n_X8_isIn 3, ac_if0 (fun x => decide (x = 0)) 1, ac_ald 0, ac_gr [8] 5, ac_ild 1, ac_aa, ac_go 2],
  [ac_v .null, ac_go 2],
  [ac_ra]] : List (List pm_Ac)).getD b []
def P_X8_movingOf (b : Nat) : List pm_Ac := ([[ac_ald 0, ac_gr [8] 0, ac_gr [5] 0, ac_cv n_X6_used 0 [6, 3], ac_ist 2, ac_ald 0, ac_gr [8] 0, ac_gr [5] 5, ac_cv n_X0_isTold 0 [0], ac_if0 (fun x => decide (¬ x = 0)) 3, ac_ild 2, ac_if0 (fun x => decide (x ≤ 0)) 1, ac_i (100), ac_ild 1, ac_bin (fun x y => x * y), ac_ild 2, ac_dv (fun x y => x / y), ac_go 2],
  [ac_i (0), ac_go 2],
  [ac_ri],
  [ac_ald 0, ac_gr [8] 7, ac_i (0), ac_ild 1, ac_ias, ac_ald 0, ac_gr [8] 7, ac_i (1), ac_ild 2, ac_ias, ac_ald 0, ac_gr [8] 7, ac_i (2), ac_ald 0, ac_gr [8] 2, ac_cv n_X7_missSide 0 [7], ac_ias, ac_ald 0, ac_gr [8] 7, ac_i (3), ac_ald 0, ac_gr [8] 2, ac_cv n_X7_missAlong 0 [7], ac_ias, ac_ald 0, ac_gr [8] 7, ac_i (4), ac_ald 0, ac_gr [8] 0, ac_gr [5] 2, ac_i (0), ac_ild 1, ac_cv n_X6_howMany 2 [6, 3], ac_ias, ac_ald 0, ac_gr [8] 0, ac_gr [5] 5, ac_ald 0, ac_gr [8] 7, ac_ald 0, ac_gr [8] 8, ac_cv n_X0_workedOut 2 [0], ac_i (100), ac_cs n_X8_held 2, ac_ri]] : List (List pm_Ac)).getD b []
def P_X8_movedBy (b : Nat) : List pm_Ac := ([[ac_ild 2, ac_ald 0, ac_ild 1, ac_cv n_X8_movingOf 1 [8], ac_bin (fun x y => x * y), ac_i (100), ac_dv (fun x y => x / y), ac_ri]] : List (List pm_Ac)).getD b []
def P_X8_isMovedBy (b : Nat) : List pm_Ac := ([[ac_ald 0, ac_ild 1, ac_ald 0, ac_gr [8] 2, ac_cv n_X7_missSide 0 [7], ac_cv n_X8_movedBy 2 [8], ac_m1 (fun x => if 0 ≤ x then x else 0 - x), ac_ild 2, ac_if2 (fun x y => decide (x < y)) 1, ac_i (1), ac_go 2],
  [ac_i (0), ac_go 2],
  [ac_rz (fun v => v &&& 1)]] : List (List pm_Ac)).getD b []
def P_X8_hoursOf (b : Nat) : List pm_Ac := ([[ac_ald 0, ac_gr [8] 0, ac_gr [5] 0, ac_i (1), ac_ild 1, ac_cv n_X6_at 2 [6, 3], ac_ist 2, ac_ald 0, ac_gr [8] 0, ac_gr [5] 0, ac_i (2), ac_ild 1, ac_cv n_X6_at 2 [6, 3], ac_ist 3, ac_ald 0, ac_gr [8] 0, ac_gr [5] 0, ac_i (3), ac_ild 1, ac_cv n_X6_at 2 [6, 3], ac_ist 4, ac_ald 0, ac_gr [8] 0, ac_gr [5] 6, ac_cv n_X0_isTold 0 [0], ac_if0 (fun x => decide (¬ x = 0)) 1, ac_i (8), ac_ild 2, ac_bin (fun x y => x + y), ac_ild 3, ac_i (9), ac_dv (fun x y => x / y), ac_bin (fun x y => x + y), ac_i (3), ac_ild 4, ac_bin (fun x y => x * y), ac_bin (fun x y => x + y), ac_ri],
  [ac_ald 0, ac_gr [8] 7, ac_i (0), ac_ild 1, ac_ias, ac_ald 0, ac_gr [8] 7, ac_i (1), ac_ild 2, ac_ias, ac_ald 0, ac_gr [8] 7, ac_i (2), ac_ild 3, ac_ias, ac_ald 0, ac_gr [8] 7, ac_i (3), ac_ild 4, ac_ias, ac_ald 0, ac_gr [8] 0, ac_gr [5] 6, ac_ald 0, ac_gr [8] 7, ac_ald 0, ac_gr [8] 8, ac_cv n_X0_workedOut 2 [0], ac_i (999), ac_cs n_X8_held 2, ac_ri]] : List (List pm_Ac)).getD b []
def P_X8_held (b : Nat) : List pm_Ac := ([[ac_i (0), ac_ild 0, ac_ild 1, ac_m2 (fun x y => if y < x then y else x), ac_m2 (fun x y => if x < y then y else x), ac_ri]] : List (List pm_Ac)).getD b []
def P_X8_isIn (b : Nat) : List pm_Ac := ([[ac_ild 0, ac_ild 1, ac_if2 (fun x y => decide (x < y)) 1, ac_ild 0, ac_ild 2, ac_if2 (fun x y => decide (y < x)) 1, ac_i (1), ac_go 2],
  [ac_i (0), ac_go 2],
  [ac_rz (fun v => v &&& 1)]] : List (List pm_Ac)).getD b []
def P_X8_greatestCommon (b : Nat) : List pm_Ac := ([[ac_lld 0, ac_lst 4, ac_lld 2, ac_lst 6, ac_i (0), ac_ist 8, ac_go 1],
  [ac_ild 8, ac_i (100), ac_if2 (fun x y => decide (y ≤ x)) 2, ac_lld 6, ac_l (0), ac_lcmp, ac_if0 (fun x => decide (x = 0)) 2, ac_lld 4, ac_lld 6, ac_ldv (fun x y => x - x / y * y), ac_lst 9, ac_lld 6, ac_lst 4, ac_lld 9, ac_lst 6, ac_inc 8 (1), ac_go 1],
  [ac_lld 4, ac_rl]] : List (List pm_Ac)).getD b []
def P_X9_finding (b : Nat) : List pm_Ac := ([[ac_ald 0, ac_gr [9] 3, ac_i (-1000000000), ac_ild 1, ac_bin (fun x y => x - y), ac_dup2, ac_ia, ac_i (1), ac_bin (fun x y => x + y), ac_ias, ac_ild 1, ac_ri]] : List (List pm_Ac)).getD b []
def P_X9_isIn (b : Nat) : List pm_Ac := ([[ac_ild 0, ac_ild 1, ac_if2 (fun x y => decide (x < y)) 1, ac_ild 0, ac_ild 2, ac_if2 (fun x y => decide (y < x)) 1, ac_i (1), ac_go 2],
  [ac_i (0), ac_go 2],
  [ac_rz (fun v => v &&& 1)]] : List (List pm_Ac)).getD b []
def P_X9_held (b : Nat) : List pm_Ac := ([[ac_ild 1, ac_ild 2, ac_ild 0, ac_m2 (fun x y => if y < x then y else x), ac_m2 (fun x y => if x < y then y else x), ac_ri]] : List (List pm_Ac)).getD b []
def P_X9_copy (b : Nat) : List pm_Ac := ([[ac_i (0), ac_ist 2, ac_go 1],
  [ac_ild 2, ac_i (440), ac_if2 (fun x y => decide (y ≤ x)) 2, ac_ald 1, ac_ild 2, ac_ald 0, ac_ild 2, ac_ia, ac_ias, ac_inc 2 (1), ac_go 1],
  [ac_rv]] : List (List pm_Ac)).getD b []
def P_X9_become (b : Nat) : List pm_Ac := ([[ac_ald 0, ac_gr [9] 0, ac_ild 1, ac_ia, ac_ist 3, ac_ald 0, ac_gr [9] 0, ac_ild 1, ac_ild 2, ac_ias, ac_ild 3, ac_ri]] : List (List pm_Ac)).getD b []
def P_X9_is (b : Nat) : List pm_Ac := ([[ac_ild 1, ac_i (0), ac_ald 0, ac_gr [9] 0, ac_ild 2, ac_ia, ac_i (1), ac_bin (fun x y => x - y), ac_cs n_X9_isIn 3, ac_rz (fun v => v &&& 1)]] : List (List pm_Ac)).getD b []
def P_X9_isMile (b : Nat) : List pm_Ac := ([[ac_ild 0, ac_i (0), ac_i (23), ac_cs n_X9_isIn 3, ac_rz (fun v => v &&& 1)]] : List (List pm_Ac)).getD b []
def P_X9_mileOf (b : Nat) : List pm_Ac := ([[ac_ald 0, ac_gr [9] 0, ac_i (8), ac_i (5), ac_ild 1, ac_bin (fun x y => x * y), ac_bin (fun x y => x + y), ac_ild 2, ac_bin (fun x y => x + y), ac_ia, ac_ri]] : List (List pm_Ac)).getD b []
def P_X9_miles (b : Nat) : List pm_Ac := ([[ac_ild 1, ac_i (1), ac_i (24), ac_cs n_X9_isIn 3, ac_if0 (fun x => decide (x = 0)) 1, ac_ald 0, ac_i (0), ac_ild 1, ac_cv n_X9_become 2 [9], ac_go 2],
  [ac_ald 0, ac_i (-1000000001), ac_cv n_X9_finding 1 [9], ac_go 2],
  [ac_ri]] : List (List pm_Ac)).getD b []
def P_X9_mile (b : Nat) : List pm_Ac := ([[ac_ild 1, ac_cs n_X9_isMile 1, ac_ist 4, ac_ild 2, ac_sw [(0, 1), (1, 4), (2, 7), (3, 10)] 13],
  [ac_ild 4, ac_if0 (fun x => decide (x = 0)) 2, ac_ild 3, ac_i (-99), ac_i (99), ac_cs n_X9_isIn 3, ac_if0 (fun x => decide (x = 0)) 2, ac_i (1), ac_go 3],
  [ac_i (0), ac_go 3],
  [ac_ist 4, ac_go 14],
  [ac_ild 4, ac_if0 (fun x => decide (x = 0)) 5, ac_ild 3, ac_i (0), ac_i (9), ac_cs n_X9_isIn 3, ac_if0 (fun x => decide (x = 0)) 5, ac_i (1), ac_go 6],
  [ac_i (0), ac_go 6],
  [ac_ist 4, ac_go 14],
  [ac_ild 4, ac_if0 (fun x => decide (x = 0)) 8, ac_ild 3, ac_i (0), ac_i (99), ac_cs n_X9_isIn 3, ac_if0 (fun x => decide (x = 0)) 8, ac_i (1), ac_go 9],
  [ac_i (0), ac_go 9],
  [ac_ist 4, ac_go 14],
  [ac_ild 4, ac_if0 (fun x => decide (x = 0)) 11, ac_ild 3, ac_i (0), ac_i (1), ac_cs n_X9_isIn 3, ac_if0 (fun x => decide (x = 0)) 11, ac_i (1), ac_go 12],
  [ac_i (0), ac_go 12],
  [ac_ist 4, ac_go 14],
  [ac_i (0), ac_ist 4, ac_go 14],
  [ac_ild 4, ac_if0 (fun x => decide (x = 0)) 15, ac_ald 0, ac_i (8), ac_i (5), ac_ild 1, ac_bin (fun x y => x * y), ac_bin (fun x y => x + y), ac_ild 2, ac_bin (fun x y => x + y), ac_ild 3, ac_cv n_X9_become 2 [9], ac_go 16],
  [ac_ald 0, ac_i (-1000000001), ac_cv n_X9_finding 1 [9], ac_go 16],
  [ac_ri]] : List (List pm_Ac)).getD b []
def P_X9_stone (b : Nat) : List pm_Ac := ([[ac_ild 1, ac_i (-9999), ac_i (9999), ac_cs n_X9_isIn 3, ac_if0 (fun x => decide (x = 0)) 1, ac_ild 2, ac_i (0), ac_i (99999), ac_cs n_X9_isIn 3, ac_if0 (fun x => decide (¬ x = 0)) 2, ac_go 1],
  [ac_ald 0, ac_i (-1000000001), ac_cv n_X9_finding 1 [9], ac_ri],
  [ac_ald 0, ac_gr [9] 0, ac_i (6), ac_ild 1, ac_ias, ac_ald 0, ac_gr [9] 0, ac_i (7), ac_ild 2, ac_ias, ac_i (1), ac_ri]] : List (List pm_Ac)).getD b []
def P_X9_slipOf (b : Nat) : List pm_Ac := ([[ac_ald 0, ac_gr [9] 0, ac_i (128), ac_i (5), ac_ild 1, ac_bin (fun x y => x * y), ac_bin (fun x y => x + y), ac_ild 2, ac_bin (fun x y => x + y), ac_ia, ac_ri]] : List (List pm_Ac)).getD b []
def P_X9_slip (b : Nat) : List pm_Ac := ([[ac_ild 1, ac_i (0), ac_i (6), ac_cs n_X9_isIn 3, ac_if0 (fun x => decide (x = 0)) 1, ac_ild 2, ac_if0 (fun x => decide (x < 0)) 1, ac_ild 2, ac_i (100), ac_dv (fun x y => x / y), ac_cs n_X9_isMile 1, ac_if0 (fun x => decide (x = 0)) 1, ac_ild 2, ac_i (100), ac_dv (fun x y => x - x / y * y), ac_cs n_X9_isMile 1, ac_if0 (fun x => decide (x = 0)) 1, ac_ild 2, ac_i (100), ac_dv (fun x y => x - x / y * y), ac_ild 2, ac_i (100), ac_dv (fun x y => x / y), ac_if2 (fun x y => decide (x < y)) 1, ac_ild 3, ac_i (-99), ac_i (99), ac_cs n_X9_isIn 3, ac_if0 (fun x => decide (¬ x = 0)) 2, ac_go 1],
  [ac_ald 0, ac_i (-1000000001), ac_cv n_X9_finding 1 [9], ac_ri],
  [ac_ald 0, ac_gr [9] 0, ac_i (1), ac_ia, ac_ist 4, ac_ild 4, ac_i (8), ac_if2 (fun x y => decide (¬ x = y)) 3, ac_ald 0, ac_i (-1000000004), ac_cv n_X9_finding 1 [9], ac_ri],
  [ac_i (128), ac_i (5), ac_ild 4, ac_bin (fun x y => x * y), ac_bin (fun x y => x + y), ac_ist 5, ac_ald 0, ac_gr [9] 0, ac_ild 5, ac_i (0), ac_bin (fun x y => x + y), ac_ild 1, ac_ias, ac_ald 0, ac_gr [9] 0, ac_ild 5, ac_i (1), ac_bin (fun x y => x + y), ac_ild 2, ac_i (100), ac_dv (fun x y => x / y), ac_ias, ac_ald 0, ac_gr [9] 0, ac_ild 5, ac_i (2), ac_bin (fun x y => x + y), ac_ild 2, ac_i (100), ac_dv (fun x y => x - x / y * y), ac_ias, ac_ald 0, ac_gr [9] 0, ac_ild 5, ac_i (3), ac_bin (fun x y => x + y), ac_ild 3, ac_ias, ac_ald 0, ac_gr [9] 0, ac_ild 5, ac_i (4), ac_bin (fun x y => x + y), ac_i (1), ac_ias, ac_ald 0, ac_gr [9] 0, ac_i (1), ac_dup2, ac_ia, ac_i (1), ac_bin (fun x y => x + y), ac_ias, ac_ild 4, ac_ri]] : List (List pm_Ac)).getD b []
def P_X9_slipIs (b : Nat) : List pm_Ac := ([[ac_ald 0, ac_ild 1, ac_i (1), ac_cv n_X9_is 2 [9], ac_if0 (fun x => decide (x = 0)) 1, ac_ild 2, ac_i (0), ac_i (4), ac_cs n_X9_isIn 3, ac_if0 (fun x => decide (x = 0)) 1, ac_ald 0, ac_ild 1, ac_ild 2, ac_cv n_X9_slipOf 2 [9], ac_go 2],
  [ac_ald 0, ac_i (-1000000001), ac_cv n_X9_finding 1 [9], ac_go 2],
  [ac_ri]] : List (List pm_Ac)).getD b []
def P_X9_above (b : Nat) : List pm_Ac := ([[ac_ild 0, ac_if0 (fun x => decide (¬ x = 0)) 1, ac_i (-1), ac_go 5],
  [ac_ild 0, ac_i (3), ac_if2 (fun x y => decide (¬ x = y)) 2, ac_i (2), ac_go 5],
  [ac_ild 0, ac_i (4), ac_if2 (fun x y => decide (¬ x = y)) 3, ac_i (1), ac_go 5],
  [ac_ild 0, ac_i (6), ac_if2 (fun x y => decide (¬ x = y)) 4, ac_i (5), ac_go 5],
  [ac_i (0), ac_go 5],
  [ac_ri]] : List (List pm_Ac)).getD b []
def P_X9_as (b : Nat) : List pm_Ac := ([[ac_ald 0, ac_ild 1, ac_i (1), ac_cv n_X9_is 2 [9], ac_if0 (fun x => decide (x = 0)) 1, ac_ild 2, ac_i (0), ac_i (6), ac_cs n_X9_isIn 3, ac_if0 (fun x => decide (¬ x = 0)) 2, ac_go 1],
  [ac_ald 0, ac_i (-1000000001), ac_cv n_X9_finding 1 [9], ac_ri],
  [ac_ald 0, ac_ild 1, ac_i (0), ac_cv n_X9_slipOf 2 [9], ac_ist 3, ac_go 3],
  [ac_ild 3, ac_if0 (fun x => decide (x < 0)) 4, ac_ild 3, ac_ild 2, ac_if2 (fun x y => decide (x = y)) 4, ac_ild 3, ac_cs n_X9_above 1, ac_ist 3, ac_go 3],
  [ac_ild 3, ac_if0 (fun x => decide (0 ≤ x)) 5, ac_ald 0, ac_i (-1000000005), ac_cv n_X9_finding 1 [9], ac_go 6],
  [ac_ald 0, ac_ild 1, ac_i (3), ac_cv n_X9_slipOf 2 [9], ac_go 6],
  [ac_ri]] : List (List pm_Ac)).getD b []
def P_X9_turn (b : Nat) : List pm_Ac := ([[ac_ald 0, ac_ild 1, ac_i (1), ac_cv n_X9_is 2 [9], ac_if0 (fun x => decide (x = 0)) 1, ac_ild 2, ac_i (0), ac_i (1), ac_cs n_X9_isIn 3, ac_if0 (fun x => decide (x = 0)) 1, ac_ald 0, ac_i (128), ac_i (5), ac_ild 1, ac_bin (fun x y => x * y), ac_bin (fun x y => x + y), ac_i (4), ac_bin (fun x y => x + y), ac_ild 2, ac_cv n_X9_become 2 [9], ac_go 2],
  [ac_ald 0, ac_i (-1000000001), ac_cv n_X9_finding 1 [9], ac_go 2],
  [ac_ri]] : List (List pm_Ac)).getD b []
def P_X9_doesAt (b : Nat) : List pm_Ac := ([[ac_ild 2, ac_ald 0, ac_ild 1, ac_i (1), ac_cv n_X9_slipOf 2 [9], ac_ald 0, ac_ild 1, ac_i (2), ac_cv n_X9_slipOf 2 [9], ac_cs n_X9_isIn 3, ac_if0 (fun x => decide (¬ x = 0)) 1, ac_i (0), ac_ri],
  [ac_ald 0, ac_ild 1, ac_i (3), ac_cv n_X9_slipOf 2 [9], ac_ist 4, ac_ild 2, ac_ald 0, ac_ild 1, ac_i (1), ac_cv n_X9_slipOf 2 [9], ac_if2 (fun x y => decide (¬ x = y)) 2, ac_i (1), ac_go 3],
  [ac_i (0), ac_go 3],
  [ac_ist 5, ac_ald 0, ac_ild 2, ac_i (2), ac_cv n_X9_mileOf 2 [9], ac_if0 (fun x => decide (x ≤ 0)) 4, ac_i (1), ac_go 5],
  [ac_i (0), ac_go 5],
  [ac_ist 6, ac_ild 4, ac_ald 0, ac_ild 2, ac_i (1), ac_cv n_X9_mileOf 2 [9], ac_i (1), ac_bin (fun x y => x + y), ac_bin (fun x y => x * y), ac_ist 7, ac_ald 0, ac_ild 1, ac_i (0), ac_cv n_X9_slipOf 2 [9], ac_sw [(1, 6), (2, 12), (3, 15), (4, 9), (5, 20), (6, 23)] 27],
  [ac_ild 3, ac_if0 (fun x => decide (¬ x = 0)) 7, ac_ild 5, ac_if0 (fun x => decide (x = 0)) 7, ac_ild 4, ac_go 8],
  [ac_i (0), ac_go 8],
  [ac_ri],
  [ac_ild 3, ac_if0 (fun x => decide (¬ x = 0)) 10, ac_ild 4, ac_go 11],
  [ac_i (0), ac_go 11],
  [ac_ri],
  [ac_ild 3, ac_i (2), ac_if2 (fun x y => decide (¬ x = y)) 13, ac_ild 7, ac_go 14],
  [ac_i (0), ac_go 14],
  [ac_ri],
  [ac_ild 3, ac_i (2), ac_if2 (fun x y => decide (¬ x = y)) 18, ac_ild 7, ac_ild 5, ac_if0 (fun x => decide (x = 0)) 16, ac_i (66), ac_go 17],
  [ac_i (0), ac_go 17],
  [ac_bin (fun x y => x + y), ac_go 19],
  [ac_i (0), ac_go 19],
  [ac_ri],
  [ac_ild 3, ac_i (1), ac_if2 (fun x y => decide (¬ x = y)) 21, ac_ild 6, ac_if0 (fun x => decide (x = 0)) 21, ac_ild 4, ac_go 22],
  [ac_i (0), ac_go 22],
  [ac_ri],
  [ac_ild 3, ac_i (2), ac_if2 (fun x y => decide (¬ x = y)) 24, ac_i (2), ac_ild 4, ac_bin (fun x y => x * y), ac_go 26],
  [ac_ild 3, ac_i (1), ac_if2 (fun x y => decide (¬ x = y)) 25, ac_ild 6, ac_if0 (fun x => decide (x = 0)) 25, ac_ild 4, ac_i (2), ac_dv (fun x y => x / y), ac_go 26],
  [ac_i (0), ac_go 26],
  [ac_ri],
  [ac_i (0), ac_ri]] : List (List pm_Ac)).getD b []
def P_X9_does (b : Nat) : List pm_Ac := ([[ac_ald 0, ac_ild 1, ac_i (1), ac_cv n_X9_is 2 [9], ac_if0 (fun x => decide (x = 0)) 1, ac_ild 2, ac_cs n_X9_isMile 1, ac_if0 (fun x => decide (x = 0)) 1, ac_ild 3, ac_i (0), ac_i (2), ac_cs n_X9_isIn 3, ac_if0 (fun x => decide (x = 0)) 1, ac_ald 0, ac_ild 1, ac_ild 2, ac_ild 3, ac_cv n_X9_doesAt 3 [9], ac_go 2],
  [ac_ald 0, ac_i (-1000000001), ac_cv n_X9_finding 1 [9], ac_go 2],
  [ac_ri]] : List (List pm_Ac)).getD b []
def P_X9_allThat (b : Nat) : List pm_Ac := ([[ac_i (0), ac_ist 3, ac_i (0), ac_ist 4, ac_go 1],
  [ac_ild 4, ac_ald 0, ac_gr [9] 0, ac_i (1), ac_ia, ac_if2 (fun x y => decide (y ≤ x)) 4, ac_ild 3, ac_ald 0, ac_ild 4, ac_i (4), ac_cv n_X9_slipOf 2 [9], ac_i (1), ac_if2 (fun x y => decide (¬ x = y)) 2, ac_ald 0, ac_ild 4, ac_ild 1, ac_ild 2, ac_cv n_X9_doesAt 3 [9], ac_go 3],
  [ac_i (0), ac_go 3],
  [ac_bin (fun x y => x + y), ac_ist 3, ac_inc 4 (1), ac_go 1],
  [ac_ild 3, ac_ri]] : List (List pm_Ac)).getD b []
def P_X9_goes (b : Nat) : List pm_Ac := ([[ac_i (0), ac_ist 1, ac_i (0), ac_ist 2, ac_go 1],
  [ac_ild 2, ac_ald 0, ac_gr [9] 0, ac_i (0), ac_ia, ac_if2 (fun x y => decide (y ≤ x)) 4, ac_ald 0, ac_ild 2, ac_i (3), ac_cv n_X9_mileOf 2 [9], ac_i (1), ac_if2 (fun x y => decide (¬ x = y)) 2, ac_i (0), ac_go 3],
  [ac_ild 1, ac_go 3],
  [ac_ald 0, ac_ild 2, ac_i (0), ac_cv n_X9_allThat 2 [9], ac_bin (fun x y => x + y), ac_ist 1, ac_ald 0, ac_gr [9] 6, ac_ild 2, ac_ild 1, ac_ias, ac_ald 0, ac_gr [9] 4, ac_ild 2, ac_i (1), ac_bin (fun x y => x + y), ac_ald 0, ac_gr [9] 4, ac_ild 2, ac_ia, ac_ild 1, ac_bin (fun x y => x + y), ac_ald 0, ac_ild 2, ac_i (0), ac_cv n_X9_mileOf 2 [9], ac_bin (fun x y => x + y), ac_ald 0, ac_ild 2, ac_i (1), ac_cv n_X9_allThat 2 [9], ac_bin (fun x y => x + y), ac_ald 0, ac_ild 2, ac_i (4), ac_cv n_X9_mileOf 2 [9], ac_bin (fun x y => x + y), ac_ias, ac_ald 0, ac_gr [9] 5, ac_ild 2, ac_i (1), ac_bin (fun x y => x + y), ac_ald 0, ac_gr [9] 5, ac_ild 2, ac_ia, ac_i (1760), ac_bin (fun x y => x + y), ac_i (3), ac_ald 0, ac_ild 2, ac_i (1), ac_cv n_X9_mileOf 2 [9], ac_bin (fun x y => x * y), ac_bin (fun x y => x - y), ac_ald 0, ac_ild 2, ac_i (2), ac_cv n_X9_allThat 2 [9], ac_bin (fun x y => x - y), ac_ias, ac_inc 2 (1), ac_go 1],
  [ac_rv]] : List (List pm_Ac)).getD b []
def P_X9_missIn (b : Nat) : List pm_Ac := ([[ac_ald 0, ac_gr [9] 0, ac_i (0), ac_ia, ac_ist 2, ac_ald 0, ac_gr [9] 4, ac_ild 2, ac_ia, ac_ald 0, ac_gr [9] 0, ac_i (6), ac_ia, ac_bin (fun x y => x - y), ac_ist 3, ac_ald 0, ac_gr [9] 5, ac_ild 2, ac_ia, ac_ald 0, ac_gr [9] 0, ac_i (7), ac_ia, ac_bin (fun x y => x - y), ac_ist 4, ac_ild 1, ac_if0 (fun x => decide (¬ x = 0)) 1, ac_ild 3, ac_go 3],
  [ac_ild 1, ac_i (1), ac_if2 (fun x y => decide (¬ x = y)) 2, ac_ild 4, ac_go 3],
  [ac_ild 3, ac_m1 (fun x => if 0 ≤ x then x else 0 - x), ac_ild 4, ac_m1 (fun x => if 0 ≤ x then x else 0 - x), ac_bin (fun x y => x + y), ac_go 3],
  [ac_ri]] : List (List pm_Ac)).getD b []
def P_X9_mileIs (b : Nat) : List pm_Ac := ([[ac_ald 0, ac_ild 1, ac_i (0), ac_cv n_X9_is 2 [9], ac_if0 (fun x => decide (x = 0)) 1, ac_ild 2, ac_i (0), ac_i (8), ac_cs n_X9_isIn 3, ac_if0 (fun x => decide (¬ x = 0)) 2, ac_go 1],
  [ac_ald 0, ac_i (-1000000001), ac_cv n_X9_finding 1 [9], ac_ri],
  [ac_ald 0, ac_cv n_X9_goes 0 [9], ac_ild 2, ac_sw [(5, 3), (6, 4), (7, 5), (8, 6)] 7],
  [ac_ald 0, ac_ild 1, ac_cv n_X9_hoursOf 1 [9], ac_ri],
  [ac_ald 0, ac_gr [9] 6, ac_ild 1, ac_ia, ac_ri],
  [ac_ald 0, ac_ild 1, ac_i (1), ac_cv n_X9_allThat 2 [9], ac_ri],
  [ac_ald 0, ac_ild 1, ac_i (2), ac_cv n_X9_allThat 2 [9], ac_ri],
  [ac_ald 0, ac_ild 1, ac_ild 2, ac_cv n_X9_mileOf 2 [9], ac_ri]] : List (List pm_Ac)).getD b []
def P_X9_feed (b : Nat) : List pm_Ac := ([[ac_ild 3, ac_i (1), ac_i (8), ac_cs n_X9_isIn 3, ac_if0 (fun x => decide (¬ x = 0)) 1, ac_ald 0, ac_i (-1000000001), ac_cv n_X9_finding 1 [9], ac_ri],
  [ac_ald 0, ac_gr [9] 0, ac_i (3), ac_ia, ac_ild 3, ac_bin (fun x y => x + y), ac_i (60), ac_if2 (fun x y => decide (x ≤ y)) 2, ac_ald 0, ac_i (-1000000004), ac_cv n_X9_finding 1 [9], ac_ri],
  [ac_i (0), ac_ist 4, ac_go 3],
  [ac_ild 4, ac_ild 3, ac_if2 (fun x y => decide (y ≤ x)) 4, ac_ald 0, ac_gr [9] 0, ac_i (232), ac_ald 0, ac_gr [9] 0, ac_i (3), ac_ia, ac_bin (fun x y => x + y), ac_lld 1, ac_i (8), ac_ild 4, ac_bin (fun x y => x * y), ac_lsh (fun x y => x >>> (y.toInt64 &&& 63)), ac_l (255), ac_lbin (fun x y => x &&& y), ac_l2i, ac_ias, ac_ald 0, ac_gr [9] 0, ac_i (3), ac_dup2, ac_ia, ac_i (1), ac_bin (fun x y => x + y), ac_ias, ac_inc 4 (1), ac_go 3],
  [ac_ald 0, ac_gr [9] 0, ac_i (3), ac_ia, ac_ri]] : List (List pm_Ac)).getD b []
def P_X9_here (b : Nat) : List pm_Ac := ([[ac_ald 0, ac_gi [9] 11, ac_if0 (fun x => decide (¬ x = 0)) 1, ac_ald 0, ac_gi [9] 8, ac_ald 0, ac_gr [9] 0, ac_i (3), ac_ia, ac_if2 (fun x y => decide (y ≤ x)) 1, ac_ald 0, ac_gr [9] 0, ac_i (232), ac_ald 0, ac_gi [9] 8, ac_bin (fun x y => x + y), ac_ia, ac_go 2],
  [ac_i (-1), ac_go 2],
  [ac_ri]] : List (List pm_Ac)).getD b []
def P_X9_takes (b : Nat) : List pm_Ac := ([[ac_ald 0, ac_cv n_X9_here 0 [9], ac_ild 1, ac_if2 (fun x y => decide (¬ x = y)) 1, ac_i (1), ac_go 2],
  [ac_i (0), ac_go 2],
  [ac_ist 2, ac_ald 0, ac_dup, ac_gi [9] 8, ac_ild 2, ac_if0 (fun x => decide (x = 0)) 3, ac_i (1), ac_go 4],
  [ac_i (0), ac_go 4],
  [ac_bin (fun x y => x + y), ac_pi [9] 8, ac_ild 2, ac_rz (fun v => v &&& 1)]] : List (List pm_Ac)).getD b []
def P_X9_codes (b : Nat) : List pm_Ac := ([[ac_ald 0, ac_gi [9] 11, ac_if0 (fun x => decide (¬ x = 0)) 1, ac_ald 0, ac_gr [9] 12, ac_ald 0, ac_gi [9] 13, ac_ild 1, ac_ias, ac_ald 0, ac_dup, ac_gi [9] 13, ac_i (1), ac_bin (fun x y => x + y), ac_pi [9] 13, ac_go 1],
  [ac_rv]] : List (List pm_Ac)).getD b []
def P_X9_either (b : Nat) : List pm_Ac := ([[ac_ald 0, ac_cv n_X9_both 0 [9], ac_go 1],
  [ac_ald 0, ac_i (124), ac_cv n_X9_takes 1 [9], ac_if0 (fun x => decide (x = 0)) 2, ac_ald 0, ac_cv n_X9_both 0 [9], ac_ald 0, ac_i (20000), ac_cv n_X9_codes 1 [9], ac_go 1],
  [ac_rv]] : List (List pm_Ac)).getD b []
def P_X9_both (b : Nat) : List pm_Ac := ([[ac_ald 0, ac_cv n_X9_compared 0 [9], ac_go 1],
  [ac_ald 0, ac_i (38), ac_cv n_X9_takes 1 [9], ac_if0 (fun x => decide (x = 0)) 2, ac_ald 0, ac_cv n_X9_compared 0 [9], ac_ald 0, ac_i (20001), ac_cv n_X9_codes 1 [9], ac_go 1],
  [ac_rv]] : List (List pm_Ac)).getD b []
def P_X9_compared (b : Nat) : List pm_Ac := ([[ac_ald 0, ac_cv n_X9_sum 0 [9], ac_ald 0, ac_i (60), ac_cv n_X9_takes 1 [9], ac_if0 (fun x => decide (x = 0)) 1, ac_i (20002), ac_go 4],
  [ac_ald 0, ac_i (61), ac_cv n_X9_takes 1 [9], ac_if0 (fun x => decide (x = 0)) 2, ac_i (20003), ac_go 4],
  [ac_ald 0, ac_i (62), ac_cv n_X9_takes 1 [9], ac_if0 (fun x => decide (x = 0)) 3, ac_i (20004), ac_go 4],
  [ac_i (0), ac_go 4],
  [ac_ist 1, ac_ild 1, ac_if0 (fun x => decide (x ≤ 0)) 5, ac_ald 0, ac_cv n_X9_sum 0 [9], ac_ald 0, ac_ild 1, ac_cv n_X9_codes 1 [9], ac_go 5],
  [ac_rv]] : List (List pm_Ac)).getD b []
def P_X9_sum (b : Nat) : List pm_Ac := ([[ac_ald 0, ac_cv n_X9_product 0 [9], ac_ald 0, ac_i (43), ac_cv n_X9_takes 1 [9], ac_if0 (fun x => decide (x = 0)) 1, ac_i (20005), ac_go 3],
  [ac_ald 0, ac_i (45), ac_cv n_X9_takes 1 [9], ac_if0 (fun x => decide (x = 0)) 2, ac_i (20006), ac_go 3],
  [ac_i (0), ac_go 3],
  [ac_ist 1, ac_go 4],
  [ac_ild 1, ac_if0 (fun x => decide (x ≤ 0)) 8, ac_ald 0, ac_cv n_X9_product 0 [9], ac_ald 0, ac_ild 1, ac_cv n_X9_codes 1 [9], ac_ald 0, ac_i (43), ac_cv n_X9_takes 1 [9], ac_if0 (fun x => decide (x = 0)) 5, ac_i (20005), ac_go 7],
  [ac_ald 0, ac_i (45), ac_cv n_X9_takes 1 [9], ac_if0 (fun x => decide (x = 0)) 6, ac_i (20006), ac_go 7],
  [ac_i (0), ac_go 7],
  [ac_ist 1, ac_go 4],
  [ac_rv]] : List (List pm_Ac)).getD b []
def P_X9_product (b : Nat) : List pm_Ac := ([[ac_ald 0, ac_cv n_X9_one 0 [9], ac_ald 0, ac_i (42), ac_cv n_X9_takes 1 [9], ac_if0 (fun x => decide (x = 0)) 1, ac_i (20007), ac_go 4],
  [ac_ald 0, ac_i (47), ac_cv n_X9_takes 1 [9], ac_if0 (fun x => decide (x = 0)) 2, ac_i (20008), ac_go 4],
  [ac_ald 0, ac_i (37), ac_cv n_X9_takes 1 [9], ac_if0 (fun x => decide (x = 0)) 3, ac_i (20009), ac_go 4],
  [ac_i (0), ac_go 4],
  [ac_ist 1, ac_go 5],
  [ac_ild 1, ac_if0 (fun x => decide (x ≤ 0)) 10, ac_ald 0, ac_cv n_X9_one 0 [9], ac_ald 0, ac_ild 1, ac_cv n_X9_codes 1 [9], ac_ald 0, ac_i (42), ac_cv n_X9_takes 1 [9], ac_if0 (fun x => decide (x = 0)) 6, ac_i (20007), ac_go 9],
  [ac_ald 0, ac_i (47), ac_cv n_X9_takes 1 [9], ac_if0 (fun x => decide (x = 0)) 7, ac_i (20008), ac_go 9],
  [ac_ald 0, ac_i (37), ac_cv n_X9_takes 1 [9], ac_if0 (fun x => decide (x = 0)) 8, ac_i (20009), ac_go 9],
  [ac_i (0), ac_go 9],
  [ac_ist 1, ac_go 5],
  [ac_rv]] : List (List pm_Ac)).getD b []
def P_X9_nameOf (b : Nat) : List pm_Ac := ([[ac_i (-1), ac_ist 2, ac_i (0), ac_ist 3, ac_go 1],
  [ac_ild 3, ac_ald 0, ac_gr [9] 7, ac_ald 0, ac_gi [9] 10, ac_aa, ac_ct n_J0_length_8abf5 0, ac_if2 (fun x y => decide (y ≤ x)) 4, ac_ald 0, ac_gr [9] 7, ac_ald 0, ac_gi [9] 10, ac_aa, ac_ild 3, ac_ct n_J0_charAt_5068e 1, ac_ild 1, ac_if2 (fun x y => decide (¬ x = y)) 2, ac_ild 3, ac_go 3],
  [ac_ild 2, ac_go 3],
  [ac_ist 2, ac_inc 3 (1), ac_go 1],
  [ac_ild 2, ac_ri]] : List (List pm_Ac)).getD b []
def P_X9_one (b : Nat) : List pm_Ac := ([[ac_ald 0, ac_cv n_X9_here 0 [9], ac_ist 1, ac_ild 1, ac_i (33), ac_if2 (fun x y => decide (x = y)) 1, ac_ild 1, ac_i (40), ac_if2 (fun x y => decide (¬ x = y)) 8, ac_go 1],
  [ac_ald 0, ac_ald 0, ac_gi [9] 9, ac_i (5), ac_if2 (fun x y => decide (¬ x = y)) 2, ac_i (1), ac_go 3],
  [ac_i (0), ac_go 3],
  [ac_pz [9] 11, ac_ald 0, ac_gi [9] 11, ac_if0 (fun x => decide (¬ x = 0)) 17, ac_ald 0, ac_dup, ac_gi [9] 9, ac_i (1), ac_bin (fun x y => x + y), ac_pi [9] 9, ac_ald 0, ac_dup, ac_gi [9] 8, ac_i (1), ac_bin (fun x y => x + y), ac_pi [9] 8, ac_ild 1, ac_i (33), ac_if2 (fun x y => decide (¬ x = y)) 4, ac_ald 0, ac_cv n_X9_one 0 [9], ac_ald 0, ac_i (20010), ac_cv n_X9_codes 1 [9], ac_go 7],
  [ac_ald 0, ac_cv n_X9_either 0 [9], ac_ald 0, ac_ald 0, ac_i (41), ac_cv n_X9_takes 1 [9], ac_if0 (fun x => decide (¬ x = 0)) 5, ac_i (1), ac_go 6],
  [ac_i (0), ac_go 6],
  [ac_pz [9] 11, ac_go 7],
  [ac_ald 0, ac_dup, ac_gi [9] 9, ac_i (1), ac_bin (fun x y => x - y), ac_pi [9] 9, ac_go 17],
  [ac_ild 1, ac_i (48), ac_i (57), ac_cs n_X9_isIn 3, ac_if0 (fun x => decide (x = 0)) 11, ac_i (0), ac_ist 2, ac_i (0), ac_ist 3, ac_go 9],
  [ac_ild 3, ac_i (4), ac_if2 (fun x y => decide (y ≤ x)) 10, ac_ald 0, ac_cv n_X9_here 0 [9], ac_i (48), ac_i (57), ac_cs n_X9_isIn 3, ac_if0 (fun x => decide (x = 0)) 10, ac_i (10), ac_ild 2, ac_bin (fun x y => x * y), ac_ald 0, ac_cv n_X9_here 0 [9], ac_bin (fun x y => x + y), ac_i (48), ac_bin (fun x y => x - y), ac_ist 2, ac_ald 0, ac_dup, ac_gi [9] 8, ac_i (1), ac_bin (fun x y => x + y), ac_pi [9] 8, ac_inc 3 (1), ac_go 9],
  [ac_ald 0, ac_ild 2, ac_cv n_X9_codes 1 [9], ac_go 17],
  [ac_ild 1, ac_if0 (fun x => decide (0 ≤ x)) 12, ac_i (-1), ac_go 13],
  [ac_ald 0, ac_ild 1, ac_cv n_X9_nameOf 1 [9], ac_go 13],
  [ac_ist 2, ac_ald 0, ac_ald 0, ac_gi [9] 11, ac_if0 (fun x => decide (¬ x = 0)) 14, ac_ild 2, ac_if0 (fun x => decide (0 ≤ x)) 15, ac_go 14],
  [ac_i (1), ac_go 16],
  [ac_i (0), ac_go 16],
  [ac_pz [9] 11, ac_ald 0, ac_gi [9] 11, ac_if0 (fun x => decide (¬ x = 0)) 17, ac_ald 0, ac_i (10000), ac_ild 2, ac_bin (fun x y => x + y), ac_cv n_X9_codes 1 [9], ac_ald 0, ac_dup, ac_gi [9] 8, ac_i (1), ac_bin (fun x y => x + y), ac_pi [9] 8, ac_go 17],
  [ac_rv]] : List (List pm_Ac)).getD b []
def P_X9_text (b : Nat) : List pm_Ac := ([[ac_ild 1, ac_i (0), ac_i (1), ac_cs n_X9_isIn 3, ac_if0 (fun x => decide (¬ x = 0)) 1, ac_ald 0, ac_i (-1000000001), ac_cv n_X9_finding 1 [9], ac_ri],
  [ac_ald 0, ac_ild 1, ac_pi [9] 10, ac_ald 0, ac_i (0), ac_pi [9] 8, ac_ald 0, ac_i (0), ac_pi [9] 9, ac_ald 0, ac_i (0), ac_pz [9] 11, ac_ald 0, ac_i (0), ac_pi [9] 13, ac_ald 0, ac_cv n_X9_either 0 [9], ac_ald 0, ac_ald 0, ac_gi [9] 11, ac_if0 (fun x => decide (¬ x = 0)) 2, ac_ald 0, ac_gi [9] 8, ac_ald 0, ac_gr [9] 0, ac_i (3), ac_ia, ac_if2 (fun x y => decide (y ≤ x)) 3, ac_go 2],
  [ac_i (1), ac_go 4],
  [ac_i (0), ac_go 4],
  [ac_pz [9] 11, ac_ald 0, ac_gr [9] 0, ac_i (3), ac_i (0), ac_ias, ac_ald 0, ac_gi [9] 11, ac_if0 (fun x => decide (x = 0)) 5, ac_i (-10), ac_ald 0, ac_gi [9] 8, ac_bin (fun x y => x - y), ac_ri],
  [ac_ald 0, ac_gr [9] 0, ac_i (316), ac_i (62), ac_ald 0, ac_gi [9] 10, ac_bin (fun x y => x * y), ac_bin (fun x y => x + y), ac_ald 0, ac_gi [9] 13, ac_ias, ac_i (0), ac_ist 2, ac_go 6],
  [ac_ild 2, ac_ald 0, ac_gi [9] 13, ac_if2 (fun x y => decide (y ≤ x)) 7, ac_ald 0, ac_gr [9] 0, ac_i (316), ac_i (62), ac_ald 0, ac_gi [9] 10, ac_bin (fun x y => x * y), ac_bin (fun x y => x + y), ac_i (1), ac_bin (fun x y => x + y), ac_ild 2, ac_bin (fun x y => x + y), ac_ald 0, ac_gr [9] 12, ac_ild 2, ac_ia, ac_ias, ac_inc 2 (1), ac_go 6],
  [ac_i (1), ac_ri]] : List (List pm_Ac)).getD b []
def P_X9_untell (b : Nat) : List pm_Ac := ([[ac_ild 1, ac_i (0), ac_i (1), ac_cs n_X9_isIn 3, ac_if0 (fun x => decide (x = 0)) 2, ac_ald 0, ac_i (316), ac_i (62), ac_ild 1, ac_bin (fun x y => x * y), ac_bin (fun x y => x + y), ac_i (0), ac_cv n_X9_become 2 [9], ac_if0 (fun x => decide (x ≤ 0)) 1, ac_i (1), ac_go 3],
  [ac_i (0), ac_go 3],
  [ac_ald 0, ac_i (-1000000001), ac_cv n_X9_finding 1 [9], ac_go 3],
  [ac_ri]] : List (List pm_Ac)).getD b []
def P_X9_done (b : Nat) : List pm_Ac := ([[ac_ild 0, ac_sw [(20000, 1), (20001, 5), (20002, 8), (20003, 11), (20004, 14), (20005, 17), (20006, 18), (20007, 19), (20008, 20)] 23],
  [ac_ild 1, ac_if0 (fun x => decide (¬ x = 0)) 2, ac_ild 2, ac_if0 (fun x => decide (x = 0)) 3, ac_go 2],
  [ac_i (1), ac_go 4],
  [ac_i (0), ac_go 4],
  [ac_ri],
  [ac_ild 1, ac_if0 (fun x => decide (x = 0)) 6, ac_ild 2, ac_if0 (fun x => decide (x = 0)) 6, ac_i (1), ac_go 7],
  [ac_i (0), ac_go 7],
  [ac_ri],
  [ac_ild 1, ac_ild 2, ac_if2 (fun x y => decide (y ≤ x)) 9, ac_i (1), ac_go 10],
  [ac_i (0), ac_go 10],
  [ac_ri],
  [ac_ild 1, ac_ild 2, ac_if2 (fun x y => decide (¬ x = y)) 12, ac_i (1), ac_go 13],
  [ac_i (0), ac_go 13],
  [ac_ri],
  [ac_ild 1, ac_ild 2, ac_if2 (fun x y => decide (x ≤ y)) 15, ac_i (1), ac_go 16],
  [ac_i (0), ac_go 16],
  [ac_ri],
  [ac_ild 1, ac_ild 2, ac_bin (fun x y => x + y), ac_ri],
  [ac_ild 1, ac_ild 2, ac_bin (fun x y => x - y), ac_ri],
  [ac_ild 1, ac_ild 2, ac_bin (fun x y => x * y), ac_ri],
  [ac_ild 2, ac_if0 (fun x => decide (¬ x = 0)) 21, ac_i (0), ac_go 22],
  [ac_ild 1, ac_ild 2, ac_dv (fun x y => x / y), ac_go 22],
  [ac_ri],
  [ac_ild 2, ac_if0 (fun x => decide (¬ x = 0)) 24, ac_i (0), ac_go 25],
  [ac_ild 1, ac_ild 2, ac_dv (fun x y => x - x / y * y), ac_go 25],
  [ac_ri]] : List (List pm_Ac)).getD b []
def P_X9_worked (b : Nat) : List pm_Ac := ([[ac_i (0), ac_ist 2, ac_ild 1, ac_ist 3, ac_go 1],
  [ac_ild 3, ac_ild 1, ac_ald 0, ac_gr [9] 0, ac_ild 1, ac_i (1), ac_bin (fun x y => x - y), ac_ia, ac_bin (fun x y => x + y), ac_if2 (fun x y => decide (y ≤ x)) 9, ac_ald 0, ac_gr [9] 0, ac_ild 3, ac_ia, ac_ist 4, ac_ild 4, ac_i (20000), ac_if2 (fun x y => decide (y ≤ x)) 4, ac_ald 0, ac_gr [9] 15, ac_ild 2, ac_ild 4, ac_i (10000), ac_if2 (fun x y => decide (y ≤ x)) 2, ac_ild 4, ac_go 3],
  [ac_ald 0, ac_gr [9] 14, ac_ild 4, ac_i (10000), ac_bin (fun x y => x - y), ac_ia, ac_go 3],
  [ac_ias, ac_inc 2 (1), ac_go 8],
  [ac_ild 4, ac_i (20010), ac_if2 (fun x y => decide (¬ x = y)) 7, ac_ald 0, ac_gr [9] 15, ac_ild 2, ac_i (1), ac_bin (fun x y => x - y), ac_ald 0, ac_gr [9] 15, ac_ild 2, ac_i (1), ac_bin (fun x y => x - y), ac_ia, ac_if0 (fun x => decide (¬ x = 0)) 5, ac_i (1), ac_go 6],
  [ac_i (0), ac_go 6],
  [ac_ias, ac_go 8],
  [ac_inc 2 (-1), ac_ald 0, ac_gr [9] 15, ac_ild 2, ac_i (1), ac_bin (fun x y => x - y), ac_ild 4, ac_ald 0, ac_gr [9] 15, ac_ild 2, ac_i (1), ac_bin (fun x y => x - y), ac_ia, ac_ald 0, ac_gr [9] 15, ac_ild 2, ac_ia, ac_cs n_X9_done 3, ac_ias, ac_go 8],
  [ac_inc 3 (1), ac_go 1],
  [ac_ald 0, ac_gr [9] 15, ac_i (0), ac_ia, ac_ri]] : List (List pm_Ac)).getD b []
def P_X9_hasText (b : Nat) : List pm_Ac := ([[ac_ald 0, ac_gr [9] 0, ac_i (316), ac_i (62), ac_ild 1, ac_bin (fun x y => x * y), ac_bin (fun x y => x + y), ac_ia, ac_if0 (fun x => decide (x ≤ 0)) 1, ac_i (1), ac_go 2],
  [ac_i (0), ac_go 2],
  [ac_rz (fun v => v &&& 1)]] : List (List pm_Ac)).getD b []
def P_X9_given (b : Nat) : List pm_Ac := ([[ac_ald 0, ac_gr [9] 14, ac_i (0), ac_ild 2, ac_ias, ac_ald 0, ac_gr [9] 14, ac_i (1), ac_ild 3, ac_ias, ac_ald 0, ac_gr [9] 14, ac_i (2), ac_ild 4, ac_ias, ac_ald 0, ac_gr [9] 14, ac_i (3), ac_ild 5, ac_ias, ac_ald 0, ac_gr [9] 14, ac_i (4), ac_ild 6, ac_ias, ac_ald 0, ac_i (316), ac_i (62), ac_ild 1, ac_bin (fun x y => x * y), ac_bin (fun x y => x + y), ac_i (1), ac_bin (fun x y => x + y), ac_cv n_X9_worked 1 [9], ac_ri]] : List (List pm_Ac)).getD b []
def P_X9_treesAt (b : Nat) : List pm_Ac := ([[ac_i (0), ac_ist 2, ac_i (0), ac_ist 3, ac_go 1],
  [ac_ild 3, ac_ald 0, ac_gr [9] 0, ac_i (2), ac_ia, ac_if2 (fun x y => decide (y ≤ x)) 4, ac_ild 2, ac_ald 0, ac_ild 3, ac_i (0), ac_cv n_X9_treeOf 2 [9], ac_ild 1, ac_if2 (fun x y => decide (¬ x = y)) 2, ac_i (1), ac_go 3],
  [ac_i (0), ac_go 3],
  [ac_bin (fun x y => x + y), ac_ist 2, ac_inc 3 (1), ac_go 1],
  [ac_ild 2, ac_ri]] : List (List pm_Ac)).getD b []
def P_X9_movingOf (b : Nat) : List pm_Ac := ([[ac_ald 0, ac_gr [9] 0, ac_i (0), ac_ia, ac_ist 2, ac_ald 0, ac_i (0), ac_cv n_X9_hasText 1 [9], ac_if0 (fun x => decide (x = 0)) 1, ac_ald 0, ac_i (0), ac_ild 1, ac_ild 2, ac_ald 0, ac_i (0), ac_cv n_X9_missIn 1 [9], ac_ald 0, ac_i (1), ac_cv n_X9_missIn 1 [9], ac_ald 0, ac_ild 1, ac_cv n_X9_treesAt 1 [9], ac_cv n_X9_given 6 [9], ac_go 2],
  [ac_i (100), ac_ild 1, ac_bin (fun x y => x * y), ac_ild 2, ac_dv (fun x y => x / y), ac_go 2],
  [ac_i (0), ac_i (100), ac_cs n_X9_held 3, ac_ri]] : List (List pm_Ac)).getD b []
def P_X9_hoursOf (b : Nat) : List pm_Ac := ([[ac_ald 0, ac_ild 1, ac_i (1), ac_cv n_X9_mileOf 2 [9], ac_ist 2, ac_ald 0, ac_ild 1, ac_i (2), ac_cv n_X9_mileOf 2 [9], ac_ist 3, ac_ald 0, ac_ild 1, ac_i (3), ac_cv n_X9_mileOf 2 [9], ac_ist 4, ac_ald 0, ac_i (1), ac_cv n_X9_hasText 1 [9], ac_if0 (fun x => decide (x = 0)) 1, ac_ald 0, ac_i (1), ac_ild 1, ac_ild 2, ac_ild 3, ac_ild 4, ac_i (0), ac_cv n_X9_given 6 [9], ac_go 2],
  [ac_i (8), ac_ild 2, ac_bin (fun x y => x + y), ac_ild 3, ac_i (9), ac_dv (fun x y => x / y), ac_bin (fun x y => x + y), ac_i (3), ac_ild 4, ac_bin (fun x y => x * y), ac_bin (fun x y => x + y), ac_go 2],
  [ac_i (0), ac_i (999), ac_cs n_X9_held 3, ac_ri]] : List (List pm_Ac)).getD b []
def P_X9_post (b : Nat) : List pm_Ac := ([[ac_ild 1, ac_i (0), ac_ald 0, ac_gr [9] 0, ac_i (0), ac_ia, ac_cs n_X9_isIn 3, ac_if0 (fun x => decide (x = 0)) 1, ac_ild 2, ac_i (0), ac_i (5), ac_cs n_X9_isIn 3, ac_if0 (fun x => decide (¬ x = 0)) 2, ac_go 1],
  [ac_ald 0, ac_i (-1000000001), ac_cv n_X9_finding 1 [9], ac_ri],
  [ac_ald 0, ac_cv n_X9_goes 0 [9], ac_ald 0, ac_ild 1, ac_cv n_X9_movingOf 1 [9], ac_ist 3, ac_ild 2, ac_sw [(0, 3), (1, 4), (2, 5), (3, 6), (4, 7)] 8],
  [ac_ald 0, ac_gr [9] 4, ac_ild 1, ac_ia, ac_ri],
  [ac_ald 0, ac_gr [9] 5, ac_ild 1, ac_ia, ac_ri],
  [ac_ald 0, ac_gr [9] 4, ac_ild 1, ac_ia, ac_ald 0, ac_i (0), ac_cv n_X9_missIn 1 [9], ac_ild 3, ac_bin (fun x y => x * y), ac_i (100), ac_dv (fun x y => x / y), ac_bin (fun x y => x - y), ac_ri],
  [ac_ald 0, ac_gr [9] 5, ac_ild 1, ac_ia, ac_ald 0, ac_i (1), ac_cv n_X9_missIn 1 [9], ac_ild 3, ac_bin (fun x y => x * y), ac_i (100), ac_dv (fun x y => x / y), ac_bin (fun x y => x - y), ac_ri],
  [ac_ild 3, ac_ri],
  [ac_ald 0, ac_ild 1, ac_cv n_X9_treesAt 1 [9], ac_ri]] : List (List pm_Ac)).getD b []
def P_X9_miss (b : Nat) : List pm_Ac := ([[ac_ild 1, ac_i (0), ac_i (2), ac_cs n_X9_isIn 3, ac_if0 (fun x => decide (¬ x = 0)) 1, ac_ald 0, ac_i (-1000000001), ac_cv n_X9_finding 1 [9], ac_ri],
  [ac_ald 0, ac_cv n_X9_goes 0 [9], ac_ald 0, ac_ild 1, ac_cv n_X9_missIn 1 [9], ac_ri]] : List (List pm_Ac)).getD b []
def P_X9_wronged (b : Nat) : List pm_Ac := ([[ac_ild 1, ac_i (1), ac_i (9999), ac_cs n_X9_isIn 3, ac_if0 (fun x => decide (¬ x = 0)) 1, ac_ald 0, ac_i (-1000000001), ac_cv n_X9_finding 1 [9], ac_ri],
  [ac_ald 0, ac_cv n_X9_goes 0 [9], ac_i (0), ac_ist 2, ac_i (0), ac_ist 3, ac_i (0), ac_ist 4, ac_go 2],
  [ac_ild 4, ac_ald 0, ac_gr [9] 0, ac_i (0), ac_ia, ac_if2 (fun x y => decide (y < x)) 8, ac_ald 0, ac_i (0), ac_cv n_X9_missIn 1 [9], ac_ald 0, ac_ild 4, ac_cv n_X9_movingOf 1 [9], ac_bin (fun x y => x * y), ac_i (100), ac_dv (fun x y => x / y), ac_m1 (fun x => if 0 ≤ x then x else 0 - x), ac_ild 1, ac_if2 (fun x y => decide (x < y)) 3, ac_i (1), ac_go 4],
  [ac_i (0), ac_go 4],
  [ac_ist 5, ac_ild 2, ac_ild 4, ac_if0 (fun x => decide (x ≤ 0)) 6, ac_ild 3, ac_if0 (fun x => decide (¬ x = 0)) 5, ac_ild 5, ac_if0 (fun x => decide (x = 0)) 6, ac_go 5],
  [ac_i (1), ac_ild 4, ac_i (1), ac_bin (fun x y => x - y), ac_bin (fun x y => x <<< (y &&& 31)), ac_go 7],
  [ac_i (0), ac_go 7],
  [ac_bin (fun x y => x ||| y), ac_ist 2, ac_ild 5, ac_ist 3, ac_inc 4 (1), ac_go 2],
  [ac_ild 2, ac_ri]] : List (List pm_Ac)).getD b []
def P_X9_which (b : Nat) : List pm_Ac := ([[ac_ild 1, ac_i (0), ac_i (1), ac_cs n_X9_isIn 3, ac_if0 (fun x => decide (¬ x = 0)) 1, ac_ald 0, ac_i (-1000000001), ac_cv n_X9_finding 1 [9], ac_ri],
  [ac_i (-1), ac_ist 2, ac_i (0), ac_ist 3, ac_i (0), ac_ist 4, ac_go 2],
  [ac_ild 4, ac_ald 0, ac_gr [9] 0, ac_i (1), ac_ia, ac_if2 (fun x y => decide (y ≤ x)) 5, ac_ald 0, ac_ild 4, ac_i (4), ac_cv n_X9_slipOf 2 [9], ac_i (1), ac_if2 (fun x y => decide (¬ x = y)) 4, ac_ald 0, ac_gr [9] 0, ac_i (128), ac_i (5), ac_ild 4, ac_bin (fun x y => x * y), ac_bin (fun x y => x + y), ac_i (4), ac_bin (fun x y => x + y), ac_i (0), ac_ias, ac_ald 0, ac_cv n_X9_goes 0 [9], ac_ald 0, ac_gr [9] 0, ac_i (128), ac_i (5), ac_ild 4, ac_bin (fun x y => x * y), ac_bin (fun x y => x + y), ac_i (4), ac_bin (fun x y => x + y), ac_i (1), ac_ias, ac_ild 2, ac_if0 (fun x => decide (x < 0)) 3, ac_ald 0, ac_i (2), ac_cv n_X9_missIn 1 [9], ac_ild 3, ac_if2 (fun x y => decide (y ≤ x)) 4, ac_go 3],
  [ac_ild 4, ac_ist 2, ac_ald 0, ac_i (2), ac_cv n_X9_missIn 1 [9], ac_ist 3, ac_go 4],
  [ac_inc 4 (1), ac_go 2],
  [ac_ild 2, ac_if0 (fun x => decide (0 ≤ x)) 6, ac_ald 0, ac_i (-1000000002), ac_cv n_X9_finding 1 [9], ac_go 8],
  [ac_ild 1, ac_if0 (fun x => decide (¬ x = 0)) 7, ac_ild 2, ac_go 8],
  [ac_ild 3, ac_go 8],
  [ac_ri]] : List (List pm_Ac)).getD b []
def P_X9_offBy (b : Nat) : List pm_Ac := ([[ac_i (0), ac_ist 2, ac_go 1],
  [ac_ild 2, ac_i (24), ac_if2 (fun x y => decide (y ≤ x)) 2, ac_ald 0, ac_gr [9] 16, ac_ild 2, ac_ald 0, ac_i (8), ac_i (5), ac_ild 2, ac_bin (fun x y => x * y), ac_bin (fun x y => x + y), ac_i (3), ac_bin (fun x y => x + y), ac_ild 1, ac_ild 2, ac_bin (fun x y => x >>> (y &&& 31)), ac_i (1), ac_bin (fun x y => x &&& y), ac_cv n_X9_become 2 [9], ac_ias, ac_inc 2 (1), ac_go 1],
  [ac_ald 0, ac_cv n_X9_goes 0 [9], ac_i (0), ac_ist 2, ac_go 3],
  [ac_ild 2, ac_i (24), ac_if2 (fun x y => decide (y ≤ x)) 4, ac_ald 0, ac_gr [9] 0, ac_i (8), ac_i (5), ac_ild 2, ac_bin (fun x y => x * y), ac_bin (fun x y => x + y), ac_i (3), ac_bin (fun x y => x + y), ac_ald 0, ac_gr [9] 16, ac_ild 2, ac_ia, ac_ias, ac_inc 2 (1), ac_go 3],
  [ac_ald 0, ac_i (0), ac_cv n_X9_missIn 1 [9], ac_m1 (fun x => if 0 ≤ x then x else 0 - x), ac_ri]] : List (List pm_Ac)).getD b []
def P_X9_checks (b : Nat) : List pm_Ac := ([[ac_ild 1, ac_i (1), ac_i (2), ac_cs n_X9_isIn 3, ac_if0 (fun x => decide (x = 0)) 1, ac_ild 2, ac_i (0), ac_i (1), ac_cs n_X9_isIn 3, ac_if0 (fun x => decide (¬ x = 0)) 2, ac_go 1],
  [ac_ald 0, ac_i (-1000000001), ac_cv n_X9_finding 1 [9], ac_ri],
  [ac_ald 0, ac_gr [9] 0, ac_i (0), ac_ia, ac_ist 3, ac_ild 3, ac_ild 1, ac_if2 (fun x y => decide (y ≤ x)) 3, ac_ald 0, ac_i (-1000000002), ac_cv n_X9_finding 1 [9], ac_ri],
  [ac_i (0), ac_ist 4, ac_i (0), ac_ist 5, ac_i (0), ac_ist 6, ac_go 4],
  [ac_ild 6, ac_ild 3, ac_if2 (fun x y => decide (y ≤ x)) 13, ac_i (0), ac_ist 7, ac_go 5],
  [ac_ild 7, ac_ild 1, ac_i (1), ac_if2 (fun x y => decide (¬ x = y)) 6, ac_i (1), ac_go 7],
  [ac_ild 6, ac_go 7],
  [ac_if2 (fun x y => decide (y ≤ x)) 12, ac_ild 1, ac_i (1), ac_if2 (fun x y => decide (¬ x = y)) 8, ac_i (1), ac_ild 6, ac_bin (fun x y => x <<< (y &&& 31)), ac_go 9],
  [ac_i (1), ac_ild 6, ac_bin (fun x y => x <<< (y &&& 31)), ac_i (1), ac_ild 7, ac_bin (fun x y => x <<< (y &&& 31)), ac_bin (fun x y => x ||| y), ac_go 9],
  [ac_ist 8, ac_ald 0, ac_ild 8, ac_cv n_X9_offBy 1 [9], ac_ist 9, ac_ild 4, ac_if0 (fun x => decide (x = 0)) 10, ac_ild 9, ac_ild 5, ac_if2 (fun x y => decide (y ≤ x)) 11, ac_go 10],
  [ac_ild 8, ac_ist 4, ac_ild 9, ac_ist 5, ac_go 11],
  [ac_inc 7 (1), ac_go 5],
  [ac_inc 6 (1), ac_go 4],
  [ac_ild 2, ac_if0 (fun x => decide (¬ x = 0)) 14, ac_ild 4, ac_go 15],
  [ac_ild 5, ac_go 15],
  [ac_ri]] : List (List pm_Ac)).getD b []
def P_X9_hours (b : Nat) : List pm_Ac := ([[ac_i (0), ac_ist 1, ac_i (0), ac_ist 2, ac_go 1],
  [ac_ild 2, ac_ald 0, ac_gr [9] 0, ac_i (0), ac_ia, ac_if2 (fun x y => decide (y ≤ x)) 2, ac_ild 1, ac_ald 0, ac_ild 2, ac_cv n_X9_hoursOf 1 [9], ac_bin (fun x y => x + y), ac_ist 1, ac_inc 2 (1), ac_go 1],
  [ac_ild 1, ac_ri]] : List (List pm_Ac)).getD b []
def P_X9_within (b : Nat) : List pm_Ac := ([[ac_ild 1, ac_i (0), ac_i (99999), ac_cs n_X9_isIn 3, ac_if0 (fun x => decide (¬ x = 0)) 1, ac_ald 0, ac_i (-1000000001), ac_cv n_X9_finding 1 [9], ac_ri],
  [ac_i (0), ac_ist 2, ac_i (0), ac_ist 3, ac_go 2],
  [ac_ild 2, ac_ald 0, ac_gr [9] 0, ac_i (0), ac_ia, ac_if2 (fun x y => decide (y ≤ x)) 3, ac_ild 3, ac_ald 0, ac_ild 2, ac_cv n_X9_hoursOf 1 [9], ac_bin (fun x y => x + y), ac_ild 1, ac_if2 (fun x y => decide (y < x)) 3, ac_ild 3, ac_ald 0, ac_ild 2, ac_cv n_X9_hoursOf 1 [9], ac_bin (fun x y => x + y), ac_ist 3, ac_inc 2 (1), ac_go 2],
  [ac_ild 2, ac_ri]] : List (List pm_Ac)).getD b []
def P_X9_leaning (b : Nat) : List pm_Ac := ([[ac_ald 0, ac_cv n_X9_goes 0 [9], ac_i (0), ac_ist 1, ac_i (1), ac_ist 2, ac_go 1],
  [ac_ild 2, ac_ald 0, ac_gr [9] 0, ac_i (0), ac_ia, ac_if2 (fun x y => decide (y ≤ x)) 4, ac_ald 0, ac_gr [9] 6, ac_ild 2, ac_ia, ac_m1 (fun x => if 0 ≤ x then x else 0 - x), ac_ald 0, ac_gr [9] 6, ac_ild 1, ac_ia, ac_m1 (fun x => if 0 ≤ x then x else 0 - x), ac_if2 (fun x y => decide (x ≤ y)) 2, ac_ild 2, ac_go 3],
  [ac_ild 1, ac_go 3],
  [ac_ist 1, ac_inc 2 (1), ac_go 1],
  [ac_ild 1, ac_ri]] : List (List pm_Ac)).getD b []
def P_X9_divisor (b : Nat) : List pm_Ac := ([[ac_lld 2, ac_l (0), ac_lcmp, ac_if0 (fun x => decide (¬ x = 0)) 1, ac_lld 0, ac_go 2],
  [ac_lld 2, ac_lld 0, ac_lld 2, ac_ldv (fun x y => x - x / y * y), ac_cs n_X9_divisor 2, ac_go 2],
  [ac_rl]] : List (List pm_Ac)).getD b []
def P_X9_findStraight (b : Nat) : List pm_Ac := ([[ac_ald 0, ac_cv n_X9_goes 0 [9], ac_ald 0, ac_l (0), ac_pl [9] 17, ac_ald 0, ac_l (0), ac_pl [9] 18, ac_i (1), ac_ist 1, ac_go 1],
  [ac_ild 1, ac_ald 0, ac_gr [9] 0, ac_i (0), ac_ia, ac_if2 (fun x y => decide (y < x)) 2, ac_ald 0, ac_dup, ac_gl [9] 17, ac_ild 1, ac_i2l, ac_ald 0, ac_gr [9] 4, ac_ild 1, ac_ia, ac_i2l, ac_lbin (fun x y => x * y), ac_lbin (fun x y => x + y), ac_pl [9] 17, ac_ald 0, ac_dup, ac_gl [9] 18, ac_ild 1, ac_i2l, ac_ild 1, ac_i2l, ac_lbin (fun x y => x * y), ac_lbin (fun x y => x + y), ac_pl [9] 18, ac_inc 1 (1), ac_go 1],
  [ac_ald 0, ac_gl [9] 18, ac_ald 0, ac_gl [9] 17, ac_ml (fun x => if 0 < x then x else -x), ac_cs n_X9_divisor 2, ac_lst 1, ac_ald 0, ac_dup, ac_gl [9] 17, ac_lld 1, ac_ldv (fun x y => x / y), ac_pl [9] 17, ac_ald 0, ac_dup, ac_gl [9] 18, ac_lld 1, ac_ldv (fun x y => x / y), ac_pl [9] 18, ac_rv]] : List (List pm_Ac)).getD b []
def P_X9_straight (b : Nat) : List pm_Ac := ([[ac_ild 1, ac_i (0), ac_i (1), ac_cs n_X9_isIn 3, ac_if0 (fun x => decide (¬ x = 0)) 1, ac_ald 0, ac_i (-1000000001), ac_cv n_X9_finding 1 [9], ac_i2l, ac_rl],
  [ac_ald 0, ac_cv n_X9_findStraight 0 [9], ac_ild 1, ac_if0 (fun x => decide (¬ x = 0)) 2, ac_ald 0, ac_gl [9] 17, ac_go 3],
  [ac_ald 0, ac_gl [9] 18, ac_go 3],
  [ac_rl]] : List (List pm_Ac)).getD b []
def P_X9_offIt (b : Nat) : List pm_Ac := ([[ac_ald 0, ac_cv n_X9_findStraight 0 [9], ac_i (1), ac_ist 1, ac_l (-1), ac_lst 2, ac_i (1), ac_ist 4, ac_go 1],
  [ac_ild 4, ac_ald 0, ac_gr [9] 0, ac_i (0), ac_ia, ac_if2 (fun x y => decide (y < x)) 3, ac_ald 0, ac_gr [9] 4, ac_ild 4, ac_ia, ac_i2l, ac_ald 0, ac_gl [9] 18, ac_lbin (fun x y => x * y), ac_ald 0, ac_gl [9] 17, ac_ild 4, ac_i2l, ac_lbin (fun x y => x * y), ac_lbin (fun x y => x - y), ac_ml (fun x => if 0 < x then x else -x), ac_lst 5, ac_lld 5, ac_lld 2, ac_lcmp, ac_if0 (fun x => decide (x ≤ 0)) 2, ac_ild 4, ac_ist 1, ac_lld 5, ac_lst 2, ac_go 2],
  [ac_inc 4 (1), ac_go 1],
  [ac_ild 1, ac_ri]] : List (List pm_Ac)).getD b []
def P_X9_nearest (b : Nat) : List pm_Ac := ([[ac_ild 1, ac_i (-99999), ac_i (99999), ac_cs n_X9_isIn 3, ac_if0 (fun x => decide (x = 0)) 1, ac_ild 2, ac_i (0), ac_i (99999), ac_cs n_X9_isIn 3, ac_if0 (fun x => decide (¬ x = 0)) 2, ac_go 1],
  [ac_ald 0, ac_i (-1000000001), ac_cv n_X9_finding 1 [9], ac_ri],
  [ac_ald 0, ac_cv n_X9_goes 0 [9], ac_i (0), ac_ist 3, ac_i (-1), ac_ist 4, ac_i (0), ac_ist 5, ac_go 3],
  [ac_ild 5, ac_ald 0, ac_gr [9] 0, ac_i (0), ac_ia, ac_if2 (fun x y => decide (y < x)) 6, ac_ald 0, ac_gr [9] 4, ac_ild 5, ac_ia, ac_ild 1, ac_bin (fun x y => x - y), ac_m1 (fun x => if 0 ≤ x then x else 0 - x), ac_ald 0, ac_gr [9] 5, ac_ild 5, ac_ia, ac_ild 2, ac_bin (fun x y => x - y), ac_m1 (fun x => if 0 ≤ x then x else 0 - x), ac_bin (fun x y => x + y), ac_ist 6, ac_ild 4, ac_if0 (fun x => decide (x < 0)) 4, ac_ild 6, ac_ild 4, ac_if2 (fun x y => decide (y ≤ x)) 5, ac_go 4],
  [ac_ild 5, ac_ist 3, ac_ild 6, ac_ist 4, ac_go 5],
  [ac_inc 5 (1), ac_go 3],
  [ac_ild 3, ac_ri]] : List (List pm_Ac)).getD b []
def P_X9_crosses (b : Nat) : List pm_Ac := ([[ac_ald 0, ac_cv n_X9_goes 0 [9], ac_i (0), ac_ist 1, ac_i (0), ac_ist 2, ac_go 1],
  [ac_ild 2, ac_ald 0, ac_gr [9] 0, ac_i (0), ac_ia, ac_if2 (fun x y => decide (y ≤ x)) 6, ac_ild 1, ac_ald 0, ac_gr [9] 4, ac_ild 2, ac_ia, ac_if0 (fun x => decide (0 ≤ x)) 2, ac_ald 0, ac_gr [9] 4, ac_ild 2, ac_i (1), ac_bin (fun x y => x + y), ac_ia, ac_if0 (fun x => decide (0 < x)) 3, ac_go 2],
  [ac_ald 0, ac_gr [9] 4, ac_ild 2, ac_ia, ac_if0 (fun x => decide (x ≤ 0)) 4, ac_ald 0, ac_gr [9] 4, ac_ild 2, ac_i (1), ac_bin (fun x y => x + y), ac_ia, ac_if0 (fun x => decide (0 ≤ x)) 4, ac_go 3],
  [ac_i (1), ac_go 5],
  [ac_i (0), ac_go 5],
  [ac_bin (fun x y => x + y), ac_ist 1, ac_inc 2 (1), ac_go 1],
  [ac_ild 1, ac_ri]] : List (List pm_Ac)).getD b []
def P_X9_treeOf (b : Nat) : List pm_Ac := ([[ac_ald 0, ac_gr [9] 0, ac_i (168), ac_i (4), ac_ild 1, ac_bin (fun x y => x * y), ac_bin (fun x y => x + y), ac_ild 2, ac_bin (fun x y => x + y), ac_ia, ac_ri]] : List (List pm_Ac)).getD b []
def P_X9_tree (b : Nat) : List pm_Ac := ([[ac_ild 3, ac_i (1000), ac_dv (fun x y => x / y), ac_i (100), ac_bin (fun x y => x - y), ac_ist 4, ac_ild 3, ac_i (1000), ac_dv (fun x y => x - x / y * y), ac_i (100), ac_bin (fun x y => x - y), ac_ist 5, ac_ild 1, ac_i (1), ac_i (24), ac_cs n_X9_isIn 3, ac_if0 (fun x => decide (x = 0)) 1, ac_ild 2, ac_i (0), ac_i (5), ac_cs n_X9_isIn 3, ac_if0 (fun x => decide (x = 0)) 1, ac_ild 3, ac_if0 (fun x => decide (x < 0)) 1, ac_ild 4, ac_i (-99), ac_i (99), ac_cs n_X9_isIn 3, ac_if0 (fun x => decide (x = 0)) 1, ac_ild 5, ac_i (-99), ac_i (99), ac_cs n_X9_isIn 3, ac_if0 (fun x => decide (¬ x = 0)) 2, ac_go 1],
  [ac_ald 0, ac_i (-1000000001), ac_cv n_X9_finding 1 [9], ac_ri],
  [ac_ald 0, ac_gr [9] 0, ac_i (2), ac_ia, ac_ist 6, ac_ild 6, ac_i (16), ac_if2 (fun x y => decide (¬ x = y)) 3, ac_ald 0, ac_i (-1000000004), ac_cv n_X9_finding 1 [9], ac_ri],
  [ac_ald 0, ac_gr [9] 0, ac_i (168), ac_i (4), ac_ild 6, ac_bin (fun x y => x * y), ac_bin (fun x y => x + y), ac_i (0), ac_bin (fun x y => x + y), ac_ild 1, ac_ias, ac_ald 0, ac_gr [9] 0, ac_i (168), ac_i (4), ac_ild 6, ac_bin (fun x y => x * y), ac_bin (fun x y => x + y), ac_i (1), ac_bin (fun x y => x + y), ac_ild 2, ac_ias, ac_ald 0, ac_gr [9] 0, ac_i (168), ac_i (4), ac_ild 6, ac_bin (fun x y => x * y), ac_bin (fun x y => x + y), ac_i (2), ac_bin (fun x y => x + y), ac_ild 4, ac_ias, ac_ald 0, ac_gr [9] 0, ac_i (168), ac_i (4), ac_ild 6, ac_bin (fun x y => x * y), ac_bin (fun x y => x + y), ac_i (3), ac_bin (fun x y => x + y), ac_ild 5, ac_ias, ac_ald 0, ac_gr [9] 0, ac_i (2), ac_dup2, ac_ia, ac_i (1), ac_bin (fun x y => x + y), ac_ias, ac_ild 6, ac_ri]] : List (List pm_Ac)).getD b []
def P_X9_treeIs (b : Nat) : List pm_Ac := ([[ac_ald 0, ac_ild 1, ac_i (2), ac_cv n_X9_is 2 [9], ac_if0 (fun x => decide (x = 0)) 1, ac_ild 2, ac_i (0), ac_i (5), ac_cs n_X9_isIn 3, ac_if0 (fun x => decide (¬ x = 0)) 2, ac_go 1],
  [ac_ald 0, ac_i (-1000000001), ac_cv n_X9_finding 1 [9], ac_ri],
  [ac_ild 2, ac_i (4), ac_if2 (fun x y => decide (y ≤ x)) 3, ac_ald 0, ac_ild 1, ac_ild 2, ac_cv n_X9_treeOf 2 [9], ac_ri],
  [ac_ald 0, ac_ild 1, ac_i (0), ac_cv n_X9_treeOf 2 [9], ac_ist 3, ac_ild 3, ac_ald 0, ac_gr [9] 0, ac_i (0), ac_ia, ac_if2 (fun x y => decide (x ≤ y)) 4, ac_ald 0, ac_i (-1000000002), ac_cv n_X9_finding 1 [9], ac_ri],
  [ac_ald 0, ac_cv n_X9_goes 0 [9], ac_ild 2, ac_i (4), ac_if2 (fun x y => decide (¬ x = y)) 5, ac_ald 0, ac_gr [9] 4, ac_ild 3, ac_ia, ac_ald 0, ac_ild 1, ac_i (2), ac_cv n_X9_treeOf 2 [9], ac_bin (fun x y => x + y), ac_go 6],
  [ac_ald 0, ac_gr [9] 5, ac_ild 3, ac_ia, ac_ald 0, ac_ild 1, ac_i (3), ac_cv n_X9_treeOf 2 [9], ac_bin (fun x y => x + y), ac_go 6],
  [ac_ri]] : List (List pm_Ac)).getD b []
def P_X9_dig (b : Nat) : List pm_Ac := ([[ac_ald 0, ac_ild 1, ac_i (2), ac_cv n_X9_is 2 [9], ac_if0 (fun x => decide (x = 0)) 1, ac_ild 4, ac_i (0), ac_i (1), ac_cs n_X9_isIn 3, ac_if0 (fun x => decide (¬ x = 0)) 2, ac_go 1],
  [ac_ald 0, ac_i (-1000000001), ac_cv n_X9_finding 1 [9], ac_ri],
  [ac_ild 4, ac_if0 (fun x => decide (¬ x = 0)) 3, ac_ild 2, ac_ald 0, ac_ild 1, ac_i (2), ac_cv n_X9_treeOf 2 [9], ac_bin (fun x y => x - y), ac_go 4],
  [ac_ild 3, ac_ald 0, ac_ild 1, ac_i (3), ac_cv n_X9_treeOf 2 [9], ac_bin (fun x y => x - y), ac_go 4],
  [ac_ri]] : List (List pm_Ac)).getD b []
def P_X9_sorts (b : Nat) : List pm_Ac := ([[ac_ild 1, ac_i (0), ac_i (5), ac_cs n_X9_isIn 3, ac_if0 (fun x => decide (¬ x = 0)) 1, ac_ald 0, ac_i (-1000000001), ac_cv n_X9_finding 1 [9], ac_ri],
  [ac_i (0), ac_ist 2, ac_i (0), ac_ist 3, ac_go 2],
  [ac_ild 3, ac_ald 0, ac_gr [9] 0, ac_i (2), ac_ia, ac_if2 (fun x y => decide (y ≤ x)) 5, ac_ild 2, ac_ald 0, ac_ild 3, ac_i (1), ac_cv n_X9_treeOf 2 [9], ac_ild 1, ac_if2 (fun x y => decide (¬ x = y)) 3, ac_i (1), ac_go 4],
  [ac_i (0), ac_go 4],
  [ac_bin (fun x y => x + y), ac_ist 2, ac_inc 3 (1), ac_go 2],
  [ac_ild 2, ac_ri]] : List (List pm_Ac)).getD b []
def P_X9_drawn (b : Nat) : List pm_Ac := ([[ac_ald 0, ac_gr [9] 0, ac_i (5), ac_ald 0, ac_gr [9] 0, ac_i (5), ac_ia, ac_i (1103515245), ac_bin (fun x y => x * y), ac_i (12345), ac_bin (fun x y => x + y), ac_ias, ac_ald 0, ac_gr [9] 0, ac_i (5), ac_ia, ac_i (8), ac_bin (fun x y => (x.toUInt32 >>> (y.toUInt32 &&& Int32.toUInt32 31)).toInt32), ac_ild 1, ac_dv (fun x y => x - x / y * y), ac_ri]] : List (List pm_Ac)).getD b []
def P_X9_waver (b : Nat) : List pm_Ac := ([[ac_ild 1, ac_cs n_X9_isMile 1, ac_if0 (fun x => decide (x = 0)) 1, ac_ild 2, ac_i (1), ac_i (24), ac_cs n_X9_isIn 3, ac_if0 (fun x => decide (x = 0)) 1, ac_ild 3, ac_i (0), ac_i (99), ac_cs n_X9_isIn 3, ac_if0 (fun x => decide (¬ x = 0)) 2, ac_go 1],
  [ac_ald 0, ac_i (-1000000001), ac_cv n_X9_finding 1 [9], ac_ri],
  [ac_ild 1, ac_ist 4, ac_go 3],
  [ac_ild 4, ac_ild 1, ac_ild 2, ac_bin (fun x y => x + y), ac_if2 (fun x y => decide (y ≤ x)) 4, ac_ild 4, ac_i (24), ac_if2 (fun x y => decide (y ≤ x)) 4, ac_ald 0, ac_gr [9] 0, ac_i (8), ac_i (5), ac_ild 4, ac_bin (fun x y => x * y), ac_bin (fun x y => x + y), ac_i (4), ac_bin (fun x y => x + y), ac_ald 0, ac_i (2), ac_ild 3, ac_bin (fun x y => x * y), ac_i (1), ac_bin (fun x y => x + y), ac_cv n_X9_drawn 1 [9], ac_ild 3, ac_bin (fun x y => x - y), ac_ias, ac_inc 4 (1), ac_go 3],
  [ac_ald 0, ac_cv n_X9_goes 0 [9], ac_ald 0, ac_i (0), ac_cv n_X9_missIn 1 [9], ac_ri]] : List (List pm_Ac)).getD b []
def P_X9_still (b : Nat) : List pm_Ac := ([[ac_i (0), ac_ist 1, ac_i (0), ac_ist 2, ac_go 1],
  [ac_ild 2, ac_i (24), ac_if2 (fun x y => decide (y ≤ x)) 4, ac_ild 1, ac_ald 0, ac_i (8), ac_i (5), ac_ild 2, ac_bin (fun x y => x * y), ac_bin (fun x y => x + y), ac_i (4), ac_bin (fun x y => x + y), ac_i (0), ac_cv n_X9_become 2 [9], ac_if0 (fun x => decide (¬ x = 0)) 2, ac_i (0), ac_go 3],
  [ac_i (1), ac_go 3],
  [ac_bin (fun x y => x + y), ac_ist 1, ac_inc 2 (1), ac_go 1],
  [ac_ild 1, ac_ri]] : List (List pm_Ac)).getD b []
def P_X9_seed (b : Nat) : List pm_Ac := ([[ac_ald 0, ac_i (5), ac_ild 1, ac_cv n_X9_become 2 [9], ac_ri]] : List (List pm_Ac)).getD b []
def P_X9_began (b : Nat) : List pm_Ac := ([[ac_ald 0, ac_gi [9] 20, ac_i (30), ac_if2 (fun x y => decide (y ≤ x)) 1, ac_ald 0, ac_gr [9] 19, ac_ald 0, ac_gi [9] 20, ac_ild 1, ac_ias, ac_ald 0, ac_dup, ac_gi [9] 20, ac_i (1), ac_bin (fun x y => x + y), ac_pi [9] 20, ac_go 1],
  [ac_rv]] : List (List pm_Ac)).getD b []
def P_X9_hasOwn (b : Nat) : List pm_Ac := ([[ac_ild 0, ac_sw [(0, 1), (1, 2), (2, 6), (3, 9), (4, 2), (5, 13)] 16],
  [ac_i (1), ac_rz (fun v => v &&& 1)],
  [ac_ild 1, ac_if0 (fun x => decide (x = 0)) 3, ac_ild 1, ac_i (3), ac_if2 (fun x y => decide (¬ x = y)) 4, ac_go 3],
  [ac_i (1), ac_go 5],
  [ac_i (0), ac_go 5],
  [ac_rz (fun v => v &&& 1)],
  [ac_ild 1, ac_i (1), ac_if2 (fun x y => decide (¬ x = y)) 7, ac_i (1), ac_go 8],
  [ac_i (0), ac_go 8],
  [ac_rz (fun v => v &&& 1)],
  [ac_ild 1, ac_i (1), ac_if2 (fun x y => decide (x = y)) 10, ac_ild 1, ac_i (2), ac_if2 (fun x y => decide (¬ x = y)) 11, ac_go 10],
  [ac_i (1), ac_go 12],
  [ac_i (0), ac_go 12],
  [ac_rz (fun v => v &&& 1)],
  [ac_ild 1, ac_i (2), ac_if2 (fun x y => decide (¬ x = y)) 14, ac_i (1), ac_go 15],
  [ac_i (0), ac_go 15],
  [ac_rz (fun v => v &&& 1)],
  [ac_ild 1, ac_if0 (fun x => decide (x = 0)) 17, ac_ild 1, ac_i (2), ac_if2 (fun x y => decide (¬ x = y)) 18, ac_go 17],
  [ac_i (1), ac_go 19],
  [ac_i (0), ac_go 19],
  [ac_rz (fun v => v &&& 1)]] : List (List pm_Ac)).getD b []
def P_X9_voiced (b : Nat) : List pm_Ac := ([[ac_ald 0, ac_ald 0, ac_ald 0, ac_gi [9] 21, ac_i (0), ac_cv n_X9_slipOf 2 [9], ac_ild 1, ac_ild 2, ac_cv n_X9_bodyFrom 3 [9], ac_ri]] : List (List pm_Ac)).getD b []
def P_X9_bodyFrom (b : Nat) : List pm_Ac := ([[ac_ild 1, ac_ist 4, ac_go 1],
  [ac_ild 4, ac_ild 2, ac_cs n_X9_hasOwn 2, ac_if0 (fun x => decide (¬ x = 0)) 2, ac_ild 4, ac_cs n_X9_above 1, ac_ist 4, ac_go 1],
  [ac_ald 0, ac_gi [9] 22, ac_if0 (fun x => decide (x = 0)) 3, ac_i (0), ac_go 4],
  [ac_ald 0, ac_ild 4, ac_ild 2, ac_ild 3, ac_cv n_X9_body 3 [9], ac_go 4],
  [ac_ri]] : List (List pm_Ac)).getD b []
def P_X9_body (b : Nat) : List pm_Ac := ([[ac_ald 0, ac_ald 0, ac_gi [9] 21, ac_i (3), ac_cv n_X9_slipOf 2 [9], ac_ist 4, ac_i (4), ac_ild 1, ac_bin (fun x y => x * y), ac_ild 2, ac_bin (fun x y => x + y), ac_sw [(0, 1), (1, 2), (2, 3), (3, 4), (4, 9), (5, 18), (6, 18), (7, 10), (8, 18), (9, 11), (10, 18), (11, 18), (12, 18), (13, 13), (14, 12), (15, 18), (16, 14), (17, 18), (18, 18), (19, 15), (20, 18), (21, 18), (22, 16), (23, 18), (24, 18), (25, 18), (26, 17)] 18],
  [ac_ald 0, ac_i (10), ac_cv n_X9_began 1 [9], ac_ild 3, ac_ald 0, ac_gi [9] 21, ac_bin (fun x y => x + y), ac_ri],
  [ac_ald 0, ac_i (11), ac_cv n_X9_began 1 [9], ac_ald 0, ac_i (0), ac_ild 3, ac_cv n_X9_voiced 2 [9], ac_i (2), ac_bin (fun x y => x * y), ac_ri],
  [ac_ald 0, ac_i (12), ac_cv n_X9_began 1 [9], ac_ald 0, ac_i (1), ac_ild 3, ac_cv n_X9_voiced 2 [9], ac_ild 4, ac_bin (fun x y => x - y), ac_ri],
  [ac_ald 0, ac_i (13), ac_cv n_X9_began 1 [9], ac_ald 0, ac_ild 4, ac_ald 0, ac_gi [9] 21, ac_if2 (fun x y => decide (¬ x = y)) 5, ac_i (1), ac_go 6],
  [ac_i (0), ac_go 6],
  [ac_pz [9] 22, ac_ald 0, ac_gi [9] 22, ac_if0 (fun x => decide (x = 0)) 7, ac_i (0), ac_go 8],
  [ac_ild 3, ac_ild 4, ac_ald 0, ac_gi [9] 21, ac_bin (fun x y => x - y), ac_dv (fun x y => x / y), ac_go 8],
  [ac_ri],
  [ac_ald 0, ac_i (20), ac_cv n_X9_began 1 [9], ac_ald 0, ac_i (0), ac_i (0), ac_ild 3, ac_cv n_X9_bodyFrom 3 [9], ac_i (4), ac_bin (fun x y => x - y), ac_ri],
  [ac_ald 0, ac_i (21), ac_cv n_X9_began 1 [9], ac_ald 0, ac_i (0), ac_i (3), ac_ild 3, ac_cv n_X9_bodyFrom 3 [9], ac_ist 5, ac_ild 5, ac_ald 0, ac_i (1), ac_i (1), ac_cv n_X9_voiced 2 [9], ac_bin (fun x y => x + y), ac_ri],
  [ac_ald 0, ac_i (30), ac_cv n_X9_began 1 [9], ac_ald 0, ac_i (0), ac_i (1), ac_ild 3, ac_cv n_X9_bodyFrom 3 [9], ac_un (fun x => -x), ac_ri],
  [ac_ald 0, ac_i (40), ac_cv n_X9_began 1 [9], ac_ald 0, ac_i (2), ac_i (2), ac_ild 3, ac_i (2), ac_dv (fun x y => x / y), ac_cv n_X9_bodyFrom 3 [9], ac_ri],
  [ac_ald 0, ac_i (41), ac_cv n_X9_began 1 [9], ac_ald 0, ac_i (2), ac_i (1), ac_ild 3, ac_cv n_X9_bodyFrom 3 [9], ac_ald 0, ac_gi [9] 21, ac_bin (fun x y => x + y), ac_ri],
  [ac_ald 0, ac_i (50), ac_cv n_X9_began 1 [9], ac_ald 0, ac_i (1), ac_i (0), ac_ild 3, ac_cv n_X9_bodyFrom 3 [9], ac_i (3), ac_bin (fun x y => x * y), ac_ri],
  [ac_ald 0, ac_i (51), ac_cv n_X9_began 1 [9], ac_ald 0, ac_i (1), ac_i (3), ac_ild 3, ac_cv n_X9_bodyFrom 3 [9], ac_ist 5, ac_ild 5, ac_ald 0, ac_i (2), ac_i (0), ac_cv n_X9_voiced 2 [9], ac_bin (fun x y => x - y), ac_ri],
  [ac_ald 0, ac_i (60), ac_cv n_X9_began 1 [9], ac_ald 0, ac_i (0), ac_i (2), ac_ild 3, ac_cv n_X9_bodyFrom 3 [9], ac_ild 4, ac_bin (fun x y => x ^^^ y), ac_ri],
  [ac_ald 0, ac_i (70), ac_cv n_X9_began 1 [9], ac_ald 0, ac_i (5), ac_i (2), ac_ild 3, ac_i (1), ac_bin (fun x y => x + y), ac_cv n_X9_bodyFrom 3 [9], ac_ri],
  [ac_ald 0, ac_i (71), ac_cv n_X9_began 1 [9], ac_i (6), ac_ri]] : List (List pm_Ac)).getD b []
def P_X9_voice (b : Nat) : List pm_Ac := ([[ac_ald 0, ac_ild 1, ac_i (1), ac_cv n_X9_is 2 [9], ac_if0 (fun x => decide (x = 0)) 1, ac_ild 2, ac_i (0), ac_i (3), ac_cs n_X9_isIn 3, ac_if0 (fun x => decide (¬ x = 0)) 2, ac_go 1],
  [ac_ald 0, ac_i (-1000000001), ac_cv n_X9_finding 1 [9], ac_ri],
  [ac_ald 0, ac_i (0), ac_pi [9] 20, ac_ald 0, ac_ild 1, ac_pi [9] 21, ac_ald 0, ac_i (0), ac_pz [9] 22, ac_ald 0, ac_ild 2, ac_ild 3, ac_cv n_X9_voiced 2 [9], ac_ist 4, ac_ald 0, ac_gi [9] 22, ac_if0 (fun x => decide (x = 0)) 3, ac_ald 0, ac_i (-1000000006), ac_cv n_X9_finding 1 [9], ac_go 4],
  [ac_ild 4, ac_go 4],
  [ac_ri]] : List (List pm_Ac)).getD b []
def P_X9_body_ (b : Nat) : List pm_Ac := ([[ac_ild 1, ac_i (0), ac_ald 0, ac_gi [9] 20, ac_i (1), ac_bin (fun x y => x - y), ac_cs n_X9_isIn 3, ac_if0 (fun x => decide (x = 0)) 1, ac_ald 0, ac_gr [9] 19, ac_ild 1, ac_ia, ac_go 2],
  [ac_ald 0, ac_i (-1000000002), ac_cv n_X9_finding 1 [9], ac_go 2],
  [ac_ri]] : List (List pm_Ac)).getD b []
def P_X9_isSheet (b : Nat) : List pm_Ac := ([[ac_ild 0, ac_i (0), ac_i (3), ac_cs n_X9_isIn 3, ac_rz (fun v => v &&& 1)]] : List (List pm_Ac)).getD b []
def P_X9_sheet (b : Nat) : List pm_Ac := ([[ac_ild 1, ac_cs n_X9_isSheet 1, ac_if0 (fun x => decide (x = 0)) 1, ac_ild 2, ac_if0 (fun x => decide (x = 0)) 2, ac_ild 2, ac_i (8), ac_if2 (fun x y => decide (x = y)) 2, ac_ild 2, ac_i (16), ac_if2 (fun x y => decide (x = y)) 2, ac_ild 2, ac_i (32), ac_if2 (fun x y => decide (x = y)) 2, ac_go 1],
  [ac_ald 0, ac_i (-1000000001), ac_cv n_X9_finding 1 [9], ac_ri],
  [ac_ild 2, ac_if0 (fun x => decide (x = 0)) 3, ac_ild 3, ac_if0 (fun x => decide (0 ≤ x)) 3, ac_ald 0, ac_i (-1000000003), ac_cv n_X9_finding 1 [9], ac_ri],
  [ac_ild 2, ac_if0 (fun x => decide (x = 0)) 4, ac_ild 3, ac_i (24), ac_if2 (fun x y => decide (x ≤ y)) 4, ac_ald 0, ac_i (-1000000001), ac_cv n_X9_finding 1 [9], ac_ri],
  [ac_ald 0, ac_gr [9] 23, ac_ild 1, ac_ild 2, ac_ias, ac_ald 0, ac_gr [9] 24, ac_ild 1, ac_ild 2, ac_if0 (fun x => decide (¬ x = 0)) 5, ac_i (0), ac_go 6],
  [ac_ild 3, ac_go 6],
  [ac_ias, ac_i (0), ac_ist 4, ac_go 7],
  [ac_ild 4, ac_i (24), ac_if2 (fun x y => decide (y ≤ x)) 8, ac_ald 0, ac_gr [9] 25, ac_i (24), ac_ild 1, ac_bin (fun x y => x * y), ac_ild 4, ac_bin (fun x y => x + y), ac_i (0), ac_ias, ac_inc 4 (1), ac_go 7],
  [ac_i (1), ac_ri]] : List (List pm_Ac)).getD b []
def P_X9_put (b : Nat) : List pm_Ac := ([[ac_ild 1, ac_cs n_X9_isSheet 1, ac_if0 (fun x => decide (¬ x = 0)) 1, ac_ald 0, ac_i (-1000000001), ac_cv n_X9_finding 1 [9], ac_ri],
  [ac_ald 0, ac_gr [9] 23, ac_ild 1, ac_ia, ac_if0 (fun x => decide (¬ x = 0)) 2, ac_ald 0, ac_i (-1000000002), ac_cv n_X9_finding 1 [9], ac_ri],
  [ac_ild 2, ac_i (0), ac_ald 0, ac_gr [9] 24, ac_ild 1, ac_ia, ac_i (1), ac_bin (fun x y => x - y), ac_cs n_X9_isIn 3, ac_if0 (fun x => decide (¬ x = 0)) 3, ac_ald 0, ac_i (-1000000001), ac_cv n_X9_finding 1 [9], ac_ri],
  [ac_ald 0, ac_gr [9] 25, ac_i (24), ac_ild 1, ac_bin (fun x y => x * y), ac_ild 2, ac_bin (fun x y => x + y), ac_ald 0, ac_gr [9] 23, ac_ild 1, ac_ia, ac_i (8), ac_if2 (fun x y => decide (¬ x = y)) 4, ac_ild 3, ac_un (fun x => x.toInt8.toInt32), ac_go 6],
  [ac_ald 0, ac_gr [9] 23, ac_ild 1, ac_ia, ac_i (16), ac_if2 (fun x y => decide (¬ x = y)) 5, ac_ild 3, ac_un (fun x => x.toInt16.toInt32), ac_go 6],
  [ac_ild 3, ac_go 6],
  [ac_ias, ac_i (1), ac_ri]] : List (List pm_Ac)).getD b []
def P_X9_move (b : Nat) : List pm_Ac := ([[ac_ild 1, ac_cs n_X9_isSheet 1, ac_if0 (fun x => decide (x = 0)) 1, ac_ild 3, ac_cs n_X9_isSheet 1, ac_if0 (fun x => decide (¬ x = 0)) 2, ac_go 1],
  [ac_ald 0, ac_i (-1000000001), ac_cv n_X9_finding 1 [9], ac_ri],
  [ac_ald 0, ac_gr [9] 23, ac_ild 1, ac_ia, ac_if0 (fun x => decide (x = 0)) 3, ac_ald 0, ac_gr [9] 23, ac_ild 3, ac_ia, ac_if0 (fun x => decide (¬ x = 0)) 4, ac_go 3],
  [ac_ald 0, ac_i (-1000000002), ac_cv n_X9_finding 1 [9], ac_ri],
  [ac_ald 0, ac_gr [9] 23, ac_ild 1, ac_ia, ac_ald 0, ac_gr [9] 23, ac_ild 3, ac_ia, ac_if2 (fun x y => decide (x = y)) 5, ac_ald 0, ac_i (-1000000005), ac_cv n_X9_finding 1 [9], ac_ri],
  [ac_ild 5, ac_if0 (fun x => decide (x < 0)) 6, ac_ild 2, ac_if0 (fun x => decide (x < 0)) 6, ac_ild 4, ac_if0 (fun x => decide (x < 0)) 6, ac_ild 2, ac_i2l, ac_ild 5, ac_i2l, ac_lbin (fun x y => x + y), ac_ald 0, ac_gr [9] 24, ac_ild 1, ac_ia, ac_i2l, ac_lcmp, ac_if0 (fun x => decide (0 < x)) 6, ac_ild 4, ac_i2l, ac_ild 5, ac_i2l, ac_lbin (fun x y => x + y), ac_ald 0, ac_gr [9] 24, ac_ild 3, ac_ia, ac_i2l, ac_lcmp, ac_if0 (fun x => decide (x ≤ 0)) 7, ac_go 6],
  [ac_ald 0, ac_i (-1000000001), ac_cv n_X9_finding 1 [9], ac_ri],
  [ac_i (0), ac_ist 6, ac_go 8],
  [ac_ild 6, ac_ild 5, ac_if2 (fun x y => decide (y ≤ x)) 9, ac_ald 0, ac_gr [9] 26, ac_ild 6, ac_ald 0, ac_gr [9] 25, ac_i (24), ac_ild 1, ac_bin (fun x y => x * y), ac_ild 2, ac_bin (fun x y => x + y), ac_ild 6, ac_bin (fun x y => x + y), ac_ia, ac_ias, ac_inc 6 (1), ac_go 8],
  [ac_i (0), ac_ist 6, ac_go 10],
  [ac_ild 6, ac_ild 5, ac_if2 (fun x y => decide (y ≤ x)) 11, ac_ald 0, ac_gr [9] 25, ac_i (24), ac_ild 3, ac_bin (fun x y => x * y), ac_ild 4, ac_bin (fun x y => x + y), ac_ild 6, ac_bin (fun x y => x + y), ac_ald 0, ac_gr [9] 26, ac_ild 6, ac_ia, ac_ias, ac_inc 6 (1), ac_go 10],
  [ac_ild 5, ac_ri]] : List (List pm_Ac)).getD b []
def P_X9_judge (b : Nat) : List pm_Ac := ([[ac_ild 1, ac_cs n_X9_isSheet 1, ac_if0 (fun x => decide (x = 0)) 1, ac_ild 2, ac_i (0), ac_i (9999), ac_cs n_X9_isIn 3, ac_if0 (fun x => decide (¬ x = 0)) 2, ac_go 1],
  [ac_ald 0, ac_i (-1000000001), ac_cv n_X9_finding 1 [9], ac_ri],
  [ac_ald 0, ac_gr [9] 23, ac_ild 1, ac_ia, ac_if0 (fun x => decide (¬ x = 0)) 3, ac_ald 0, ac_i (-1000000002), ac_cv n_X9_finding 1 [9], ac_ri],
  [ac_ald 0, ac_cv n_X9_goes 0 [9], ac_i (0), ac_ist 3, ac_go 4],
  [ac_ild 3, ac_ald 0, ac_gr [9] 24, ac_ild 1, ac_ia, ac_if2 (fun x y => decide (y ≤ x)) 7, ac_ild 3, ac_ald 0, ac_gr [9] 0, ac_i (0), ac_ia, ac_if2 (fun x y => decide (y ≤ x)) 5, ac_ald 0, ac_gr [9] 25, ac_i (24), ac_ild 1, ac_bin (fun x y => x * y), ac_ild 3, ac_bin (fun x y => x + y), ac_ia, ac_i2l, ac_ald 0, ac_gr [9] 4, ac_ild 3, ac_i (1), ac_bin (fun x y => x + y), ac_ia, ac_i2l, ac_lbin (fun x y => x - y), ac_ml (fun x => if 0 < x then x else -x), ac_ild 2, ac_i2l, ac_lcmp, ac_if0 (fun x => decide (x ≤ 0)) 6, ac_go 5],
  [ac_ild 3, ac_i (1), ac_bin (fun x y => x + y), ac_ri],
  [ac_inc 3 (1), ac_go 4],
  [ac_i (0), ac_ri]] : List (List pm_Ac)).getD b []
def P_X9_even (b : Nat) : List pm_Ac := ([[ac_ild 1, ac_cs n_X9_isSheet 1, ac_if0 (fun x => decide (x = 0)) 1, ac_ild 2, ac_i (0), ac_i (1), ac_cs n_X9_isIn 3, ac_if0 (fun x => decide (¬ x = 0)) 2, ac_go 1],
  [ac_ald 0, ac_i (-1000000001), ac_cv n_X9_finding 1 [9], ac_ri],
  [ac_ald 0, ac_gr [9] 23, ac_ild 1, ac_ia, ac_if0 (fun x => decide (¬ x = 0)) 3, ac_ald 0, ac_i (-1000000002), ac_cv n_X9_finding 1 [9], ac_ri],
  [ac_i (0), ac_ist 3, ac_i (0), ac_ist 4, ac_i (0), ac_ist 5, ac_i (0), ac_ist 6, ac_i (0), ac_ist 7, ac_go 4],
  [ac_ild 7, ac_ald 0, ac_gr [9] 24, ac_ild 1, ac_ia, ac_if2 (fun x y => decide (y ≤ x)) 13, ac_ild 6, ac_ist 8, ac_ald 0, ac_gr [9] 25, ac_i (24), ac_ild 1, ac_bin (fun x y => x * y), ac_ild 7, ac_bin (fun x y => x + y), ac_ia, ac_ild 7, ac_if0 (fun x => decide (¬ x = 0)) 5, ac_i (0), ac_go 6],
  [ac_ald 0, ac_gr [9] 25, ac_i (24), ac_ild 1, ac_bin (fun x y => x * y), ac_ild 7, ac_bin (fun x y => x + y), ac_i (1), ac_bin (fun x y => x - y), ac_ia, ac_go 6],
  [ac_bin (fun x y => x - y), ac_ist 6, ac_ild 7, ac_if0 (fun x => decide (x ≤ 0)) 7, ac_ild 6, ac_ild 8, ac_if2 (fun x y => decide (¬ x = y)) 7, ac_i (1), ac_go 8],
  [ac_i (0), ac_go 8],
  [ac_ist 9, ac_ild 3, ac_ild 9, ac_if0 (fun x => decide (x = 0)) 9, ac_i (1), ac_go 10],
  [ac_i (0), ac_go 10],
  [ac_bin (fun x y => x + y), ac_ist 3, ac_ild 9, ac_if0 (fun x => decide (x = 0)) 11, ac_ild 4, ac_i (1), ac_bin (fun x y => x + y), ac_go 12],
  [ac_i (0), ac_go 12],
  [ac_ist 4, ac_ild 5, ac_ild 4, ac_m2 (fun x y => if x < y then y else x), ac_ist 5, ac_inc 7 (1), ac_go 4],
  [ac_ild 2, ac_if0 (fun x => decide (¬ x = 0)) 14, ac_ild 3, ac_go 16],
  [ac_ild 5, ac_i (3), ac_if2 (fun x y => decide (x < y)) 15, ac_i (1), ac_go 16],
  [ac_i (0), ac_go 16],
  [ac_ri]] : List (List pm_Ac)).getD b []
def P_X9_image (b : Nat) : List pm_Ac := ([[ac_ald 0, ac_gr [9] 0, ac_ald 0, ac_gr [9] 1, ac_cs n_X9_copy 2, ac_ald 0, ac_dup, ac_gi [9] 2, ac_i (1), ac_bin (fun x y => x + y), ac_pi [9] 2, ac_ald 0, ac_gi [9] 2, ac_ri]] : List (List pm_Ac)).getD b []
def P_X9_restore (b : Nat) : List pm_Ac := ([[ac_ald 0, ac_gi [9] 2, ac_if0 (fun x => decide (¬ x = 0)) 1, ac_ald 0, ac_i (-1000000002), ac_cv n_X9_finding 1 [9], ac_ri],
  [ac_ald 0, ac_gr [9] 1, ac_ald 0, ac_gr [9] 0, ac_cs n_X9_copy 2, ac_ald 0, ac_gr [9] 0, ac_i (0), ac_ia, ac_ri]] : List (List pm_Ac)).getD b []
def P_X9_tell (b : Nat) : List pm_Ac := ([[ac_ald 0, ac_gr [9] 0, ac_i (4), ac_ia, ac_i (24), ac_if2 (fun x y => decide (¬ x = y)) 1, ac_ald 0, ac_i (-1000000004), ac_cv n_X9_finding 1 [9], ac_ri],
  [ac_ald 0, ac_gr [9] 0, ac_i (292), ac_ald 0, ac_gr [9] 0, ac_i (4), ac_ia, ac_bin (fun x y => x + y), ac_ild 1, ac_ias, ac_ald 0, ac_gr [9] 0, ac_i (4), ac_dup2, ac_ia, ac_i (1), ac_bin (fun x y => x + y), ac_ias, ac_ald 0, ac_gr [9] 0, ac_i (4), ac_ia, ac_ri]] : List (List pm_Ac)).getD b []
def P_X9_check (b : Nat) : List pm_Ac := ([[ac_ald 0, ac_gr [9] 0, ac_i (4), ac_ia, ac_ist 1, ac_ald 0, ac_gr [9] 0, ac_i (4), ac_i (0), ac_ias, ac_ald 0, ac_cv n_X9_goes 0 [9], ac_i (0), ac_ist 2, ac_go 1],
  [ac_ild 2, ac_ild 1, ac_if2 (fun x y => decide (y ≤ x)) 2, ac_ild 2, ac_ald 0, ac_gr [9] 0, ac_i (0), ac_ia, ac_if2 (fun x y => decide (y ≤ x)) 2, ac_ald 0, ac_gr [9] 0, ac_i (292), ac_ild 2, ac_bin (fun x y => x + y), ac_ia, ac_ald 0, ac_gr [9] 4, ac_ild 2, ac_i (1), ac_bin (fun x y => x + y), ac_ia, ac_if2 (fun x y => decide (¬ x = y)) 2, ac_inc 2 (1), ac_go 1],
  [ac_ild 2, ac_ild 1, ac_if2 (fun x y => decide (¬ x = y)) 3, ac_ild 2, ac_ald 0, ac_gr [9] 0, ac_i (0), ac_ia, ac_if2 (fun x y => decide (¬ x = y)) 3, ac_i (0), ac_go 4],
  [ac_i (1), ac_ild 2, ac_bin (fun x y => x + y), ac_go 4],
  [ac_ri]] : List (List pm_Ac)).getD b []
def P_X9_count (b : Nat) : List pm_Ac := ([[ac_i (0), ac_ist 2, ac_ild 1, ac_sw [(0, 1), (1, 1), (2, 1), (3, 2), (4, 5), (5, 6), (6, 7), (7, 8)] 9],
  [ac_ald 0, ac_gr [9] 0, ac_ild 1, ac_ia, ac_ri],
  [ac_i (0), ac_ist 3, ac_go 3],
  [ac_ild 3, ac_ald 0, ac_gr [9] 0, ac_i (0), ac_ia, ac_if2 (fun x y => decide (y ≤ x)) 4, ac_ild 2, ac_ald 0, ac_ild 3, ac_i (3), ac_cv n_X9_mileOf 2 [9], ac_bin (fun x y => x + y), ac_ist 2, ac_inc 3 (1), ac_go 3],
  [ac_ild 2, ac_ri],
  [ac_ald 0, ac_gr [9] 0, ac_i (3), ac_ia, ac_ri],
  [ac_ald 0, ac_gr [9] 0, ac_i (4), ac_ia, ac_ri],
  [ac_ald 0, ac_gi [9] 20, ac_ri],
  [ac_ald 0, ac_gr [9] 0, ac_i (5), ac_ia, ac_ri],
  [ac_ald 0, ac_i (-1000000001), ac_cv n_X9_finding 1 [9], ac_ri]] : List (List pm_Ac)).getD b []
def P_X9_told (b : Nat) : List pm_Ac := ([[ac_ild 1, ac_i (1), ac_i (6), ac_cs n_X9_isIn 3, ac_if0 (fun x => decide (x = 0)) 1, ac_ald 0, ac_gr [9] 3, ac_ild 1, ac_ia, ac_go 2],
  [ac_ald 0, ac_i (-1000000001), ac_cv n_X9_finding 1 [9], ac_go 2],
  [ac_ri]] : List (List pm_Ac)).getD b []
def P_J0_length_8abf5 (b : Nat) : List pm_Ac := ([[ac_ald 0, ac_tv, ac_lb, ac_ald 0, ac_ct n_J0_coder_7d493 0, ac_bin (fun x y => x >>> (y &&& 31)), ac_ri]] : List (List pm_Ac)).getD b []
def P_J0_charAt_5068e (b : Nat) : List pm_Ac := ([[ac_ald 0, ac_ct n_J0_isLatin1_aae02 0, ac_if0 (fun x => decide (x = 0)) 1, ac_ald 0, ac_tv, ac_ild 1, ac_cs n_J1_charAt_3b067 2, ac_rz (fun v => v.toUInt32.toUInt16.toUInt32.toInt32)],
  [ac_ald 0, ac_tv, ac_ild 1, ac_no]] : List (List pm_Ac)).getD b []
def P_J0_indexOf_0f7a4 (b : Nat) : List pm_Ac := ([[ac_ald 0, ac_ild 1, ac_i (0), ac_ct n_J0_indexOf_7cf53 2, ac_ri]] : List (List pm_Ac)).getD b []
def P_J0_indexOf_7cf53 (b : Nat) : List pm_Ac := ([[ac_ald 0, ac_ct n_J0_isLatin1_aae02 0, ac_if0 (fun x => decide (x = 0)) 1, ac_ald 0, ac_tv, ac_ild 1, ac_ild 2, ac_ald 0, ac_ct n_J0_length_8abf5 0, ac_cs n_J1_indexOf_4cfef 4, ac_go 2],
  [ac_ald 0, ac_tv, ac_ild 1, ac_ild 2, ac_ald 0, ac_ct n_J0_length_8abf5 0, ac_no],
  [ac_ri]] : List (List pm_Ac)).getD b []
def P_J0_coder_7d493 (b : Nat) : List pm_Ac := ([[ac_i 1, ac_if0 (fun x => decide (x = 0)) 1, ac_ald 0, ac_tc, ac_go 2],
  [ac_i (1), ac_go 2],
  [ac_rz (fun v => v.toInt8.toInt32)]] : List (List pm_Ac)).getD b []
def P_J0_isLatin1_aae02 (b : Nat) : List pm_Ac := ([[ac_i 1, ac_if0 (fun x => decide (x = 0)) 1, ac_ald 0, ac_tc, ac_if0 (fun x => decide (¬ x = 0)) 1, ac_i (1), ac_go 2],
  [ac_i (0), ac_go 2],
  [ac_rz (fun v => v &&& 1)]] : List (List pm_Ac)).getD b []
def P_J0_checkIndex_df160 (fb : Bool) (b : Nat) : List pm_Ac := ([[ac_ild 0, ac_ild 1, ac_v (pm_fv fb), ac_cs n_J3_checkIndex_8e157 3, ac_pop, ac_rv]] : List (List pm_Ac)).getD b []
def P_J1_charAt_3b067 (b : Nat) : List pm_Ac := ([[ac_ild 1, ac_ald 0, ac_lb, ac_cs n_J0_checkIndex_df160 2, ac_ald 0, ac_ild 1, ac_ba, ac_i (255), ac_bin (fun x y => x &&& y), ac_un (fun x => (x.toUInt32 % 65536).toInt32), ac_rz (fun v => v.toUInt32.toUInt16.toUInt32.toInt32)]] : List (List pm_Ac)).getD b []
def P_J1_canEncode_9a6ad (b : Nat) : List pm_Ac := ([[ac_ild 0, ac_if0 (fun x => decide (x < 0)) 1, ac_ild 0, ac_i (255), ac_if2 (fun x y => decide (y < x)) 1, ac_i (1), ac_go 2],
  [ac_i (0), ac_go 2],
  [ac_rz (fun v => v &&& 1)]] : List (List pm_Ac)).getD b []
def P_J1_indexOf_4cfef (b : Nat) : List pm_Ac := ([[ac_ild 1, ac_cs n_J1_canEncode_9a6ad 1, ac_if0 (fun x => decide (¬ x = 0)) 1, ac_i (-1), ac_ri],
  [ac_ild 2, ac_i (0), ac_m2 (fun x y => if x < y then y else x), ac_ist 2, ac_ild 3, ac_ald 0, ac_lb, ac_m2 (fun x y => if y < x then y else x), ac_ist 3, ac_ild 2, ac_ild 3, ac_if2 (fun x y => decide (x < y)) 2, ac_i (-1), ac_ri],
  [ac_ald 0, ac_ild 1, ac_ild 2, ac_ild 3, ac_cs n_J1_indexOfChar_4cfef 4, ac_ri]] : List (List pm_Ac)).getD b []
def P_J1_indexOfChar_4cfef (b : Nat) : List pm_Ac := ([[ac_ild 1, ac_un (fun x => x.toInt8.toInt32), ac_ist 4, ac_ild 2, ac_ist 5, ac_go 1],
  [ac_ild 5, ac_ild 3, ac_if2 (fun x y => decide (y ≤ x)) 3, ac_ald 0, ac_ild 5, ac_ba, ac_ild 4, ac_if2 (fun x y => decide (¬ x = y)) 2, ac_ild 5, ac_ri],
  [ac_inc 5 (1), ac_go 1],
  [ac_i (-1), ac_ri]] : List (List pm_Ac)).getD b []
def P_J3_checkIndex_8e157 (b : Nat) : List pm_Ac := ([[ac_ild 0, ac_if0 (fun x => decide (x < 0)) 1, ac_ild 0, ac_ild 1, ac_if2 (fun x y => decide (x < y)) 2, ac_go 1],
  [ac_ald 2, ac_ild 0, ac_ild 1, ac_no],
  [ac_ild 0, ac_ri]] : List (List pm_Ac)).getD b []
def pgT0 (fb : Bool) : List (Nat → List pm_Ac) := [P_X0_isTold, P_X0_clear, P_X0_add, P_X0_take, P_X0_workedOut, P_X0_named, P_X0_joined, P_X0_truth, P_X1_faultOf, P_X1_readT, P_X1_readA, P_X1_readB, P_X1_readS, P_X1_readP, P_X1_readQ, P_X1_readNumber, P_X1_nameOf, P_X1_next, P_X1_isNext, P_X1_isDigit]
def mtT0 : List (MethodName × ByteArray × Nat × Option FieldType) := [(yX0_isTold, cX0_isTold, 1, (.some FieldType.boolean)), (yX0_clear, cX0_clear, 1, (.none : Option FieldType)), (yX0_add, cX0_add, 2, (.none : Option FieldType)), (yX0_take, cX0_take, 2, (.none : Option FieldType)), (yX0_workedOut, cX0_workedOut, 6, (.some FieldType.int)), (yX0_named, cX0_named, 2, (.some FieldType.int)), (yX0_joined, cX0_joined, 3, (.some FieldType.int)), (yX0_truth, cX0_truth, 1, (.some FieldType.int)), (yX1_faultOf, cX1_faultOf, 3, (.some FieldType.int)), (yX1_readT, cX1_readT, 2, (.none : Option FieldType)), (yX1_readA, cX1_readA, 2, (.none : Option FieldType)), (yX1_readB, cX1_readB, 2, (.none : Option FieldType)), (yX1_readS, cX1_readS, 3, (.none : Option FieldType)), (yX1_readP, cX1_readP, 3, (.none : Option FieldType)), (yX1_readQ, cX1_readQ, 2, (.none : Option FieldType)), (yX1_readNumber, cX1_readNumber, 3, (.none : Option FieldType)), (yX1_nameOf, cX1_nameOf, 2, (.some FieldType.int)), (yX1_next, cX1_next, 1, (.some FieldType.int)), (yX1_isNext, cX1_isNext, 2, (.some FieldType.boolean)), (yX1_isDigit, cX1_isDigit, 1, (.some FieldType.boolean))]
def pgT1 (fb : Bool) : List (Nat → List pm_Ac) := [P_X2_isMissing, P_X2_lay, P_X2_stand, P_X2_number, P_X2_write, P_X2_lowest, P_X2_step, P_X2_isEven, P_X2_evenSteps, P_X2_longestEvenRow, P_X3_isOf, P_X3_leansAt, P_X3_pushesAt, P_X3_shortensAt, P_X3_isFirst, P_X3_spans, P_X3_above, P_X4_speak, P_X4_isParted, P_X4_sound]
def mtT1 : List (MethodName × ByteArray × Nat × Option FieldType) := [(yX2_isMissing, cX2_isMissing, 1, (.some FieldType.boolean)), (yX2_lay, cX2_lay, 4, (.none : Option FieldType)), (yX2_stand, cX2_stand, 3, (.some FieldType.boolean)), (yX2_number, cX2_number, 2, (.some FieldType.int)), (yX2_write, cX2_write, 3, (.none : Option FieldType)), (yX2_lowest, cX2_lowest, 2, (.some FieldType.int)), (yX2_step, cX2_step, 2, (.some FieldType.int)), (yX2_isEven, cX2_isEven, 2, (.some FieldType.boolean)), (yX2_evenSteps, cX2_evenSteps, 3, (.some FieldType.int)), (yX2_longestEvenRow, cX2_longestEvenRow, 4, (.some FieldType.int)), (yX3_isOf, cX3_isOf, 5, (.some FieldType.boolean)), (yX3_leansAt, cX3_leansAt, 4, (.some FieldType.int)), (yX3_pushesAt, cX3_pushesAt, 4, (.some FieldType.int)), (yX3_shortensAt, cX3_shortensAt, 5, (.some FieldType.int)), (yX3_isFirst, cX3_isFirst, 3, (.some FieldType.boolean)), (yX3_spans, cX3_spans, 3, (.some FieldType.boolean)), (yX3_above, cX3_above, 1, (.some FieldType.int)), (yX4_speak, cX4_speak, 5, (.some FieldType.int)), (yX4_isParted, cX4_isParted, 1, (.some FieldType.boolean)), (yX4_sound, cX4_sound, 7, (.some FieldType.int))]
def pgT2 (fb : Bool) : List (Nat → List pm_Ac) := [P_X4_workedOut, P_X4_mended, P_X4_bodyOf, P_X5_draw, P_X5_take, P_X6_used, P_X6_use, P_X6_has, P_X6_isFull, P_X6_add, P_X6_at, P_X6_set, P_X6_howMany, P_X6_take, P_X6_holds, P_X7_go, P_X7_addUpSlips, P_X7_sideOf, P_X7_alongOf, P_X7_headingIn]
def mtT2 : List (MethodName × ByteArray × Nat × Option FieldType) := [(yX4_workedOut, cX4_workedOut, 5, (.some FieldType.int)), (yX4_mended, cX4_mended, 3, (.some FieldType.int)), (yX4_bodyOf, cX4_bodyOf, 3, (.some FieldType.int)), (yX5_draw, cX5_draw, 1, (.some FieldType.int)), (yX5_take, cX5_take, 2, (.none : Option FieldType)), (yX6_used, cX6_used, 1, (.some FieldType.int)), (yX6_use, cX6_use, 2, (.none : Option FieldType)), (yX6_has, cX6_has, 2, (.some FieldType.boolean)), (yX6_isFull, cX6_isFull, 1, (.some FieldType.boolean)), (yX6_add, cX6_add, 3, (.some FieldType.int)), (yX6_at, cX6_at, 3, (.some FieldType.int)), (yX6_set, cX6_set, 4, (.none : Option FieldType)), (yX6_howMany, cX6_howMany, 5, (.some FieldType.int)), (yX6_take, cX6_take, 3, (.none : Option FieldType)), (yX6_holds, cX6_holds, 3, (.some FieldType.boolean)), (yX7_go, cX7_go, 5, (.none : Option FieldType)), (yX7_addUpSlips, cX7_addUpSlips, 7, (.none : Option FieldType)), (yX7_sideOf, cX7_sideOf, 2, (.some FieldType.int)), (yX7_alongOf, cX7_alongOf, 2, (.some FieldType.int)), (yX7_headingIn, cX7_headingIn, 2, (.some FieldType.int))]
def pgT3 (fb : Bool) : List (Nat → List pm_Ac) := [P_X7_pushesIn, P_X7_shortensIn, P_X7_missSide, P_X7_missAlong, P_X7_wholeMiss, P_X7_distanceOf, P_X7_offWithChecks, P_X7_bestCheck, P_X7_bestPairOfChecks, P_X7_sumOfSides, P_X7_sumOfSquares, P_X7_offStraight, P_X8_miles, P_X8_mile, P_X8_mileIs, P_X8_stone, P_X8_slip, P_X8_slipIs, P_X8_as, P_X8_turn]
def mtT3 : List (MethodName × ByteArray × Nat × Option FieldType) := [(yX7_pushesIn, cX7_pushesIn, 2, (.some FieldType.int)), (yX7_shortensIn, cX7_shortensIn, 2, (.some FieldType.int)), (yX7_missSide, cX7_missSide, 1, (.some FieldType.int)), (yX7_missAlong, cX7_missAlong, 1, (.some FieldType.int)), (yX7_wholeMiss, cX7_wholeMiss, 1, (.some FieldType.int)), (yX7_distanceOf, cX7_distanceOf, 4, (.some FieldType.int)), (yX7_offWithChecks, cX7_offWithChecks, 5, (.some FieldType.int)), (yX7_bestCheck, cX7_bestCheck, 5, (.some FieldType.int)), (yX7_bestPairOfChecks, cX7_bestPairOfChecks, 7, (.some FieldType.int)), (yX7_sumOfSides, cX7_sumOfSides, 4, (.some FieldType.long)), (yX7_sumOfSquares, cX7_sumOfSquares, 4, (.some FieldType.long)), (yX7_offStraight, cX7_offStraight, 2, (.some FieldType.long)), (yX8_miles, cX8_miles, 3, (.some FieldType.int)), (yX8_mile, cX8_mile, 5, (.some FieldType.int)), (yX8_mileIs, cX8_mileIs, 3, (.some FieldType.int)), (yX8_stone, cX8_stone, 3, (.some FieldType.int)), (yX8_slip, cX8_slip, 7, (.some FieldType.int)), (yX8_slipIs, cX8_slipIs, 3, (.some FieldType.int)), (yX8_as, cX8_as, 3, (.some FieldType.int)), (yX8_turn, cX8_turn, 4, (.some FieldType.int))]
def pgT4 (fb : Bool) : List (Nat → List pm_Ac) := [P_X8_does, P_X8_feed, P_X8_text, P_X8_untell, P_X8_post, P_X8_miss, P_X8_wronged, P_X8_which, P_X8_checks, P_X8_hours, P_X8_within, P_X8_leaning, P_X8_straight, P_X8_offIt, P_X8_nearest, P_X8_crosses, P_X8_tree, P_X8_treeIs, P_X8_dig, P_X8_sorts]
def mtT4 : List (MethodName × ByteArray × Nat × Option FieldType) := [(yX8_does, cX8_does, 4, (.some FieldType.int)), (yX8_feed, cX8_feed, 5, (.some FieldType.int)), (yX8_text, cX8_text, 3, (.some FieldType.int)), (yX8_untell, cX8_untell, 3, (.some FieldType.int)), (yX8_post, cX8_post, 3, (.some FieldType.int)), (yX8_miss, cX8_miss, 2, (.some FieldType.int)), (yX8_wronged, cX8_wronged, 6, (.some FieldType.int)), (yX8_which, cX8_which, 6, (.some FieldType.int)), (yX8_checks, cX8_checks, 4, (.some FieldType.int)), (yX8_hours, cX8_hours, 3, (.some FieldType.int)), (yX8_within, cX8_within, 4, (.some FieldType.int)), (yX8_leaning, cX8_leaning, 3, (.some FieldType.int)), (yX8_straight, cX8_straight, 10, (.some FieldType.long)), (yX8_offIt, cX8_offIt, 3, (.some FieldType.int)), (yX8_nearest, cX8_nearest, 5, (.some FieldType.int)), (yX8_crosses, cX8_crosses, 5, (.some FieldType.int)), (yX8_tree, cX8_tree, 7, (.some FieldType.int)), (yX8_treeIs, cX8_treeIs, 4, (.some FieldType.int)), (yX8_dig, cX8_dig, 5, (.some FieldType.int)), (yX8_sorts, cX8_sorts, 2, (.some FieldType.int))]
def pgT5 (fb : Bool) : List (Nat → List pm_Ac) := [P_X8_waver, P_X8_still, P_X8_seed, P_X8_voice, P_X8_body, P_X8_sheet, P_X8_put, P_X8_move, P_X8_judge, P_X8_even, P_X8_image, P_X8_restore, P_X8_tell, P_X8_check, P_X8_count, P_X8_told, P_X8_fail, P_X8_lawOf, P_X8_sheetOf, P_X8_movingOf]
def mtT5 : List (MethodName × ByteArray × Nat × Option FieldType) := [(yX8_waver, cX8_waver, 5, (.some FieldType.int)), (yX8_still, cX8_still, 3, (.some FieldType.int)), (yX8_seed, cX8_seed, 3, (.some FieldType.int)), (yX8_voice, cX8_voice, 5, (.some FieldType.int)), (yX8_body, cX8_body, 2, (.some FieldType.int)), (yX8_sheet, cX8_sheet, 5, (.some FieldType.int)), (yX8_put, cX8_put, 5, (.some FieldType.int)), (yX8_move, cX8_move, 8, (.some FieldType.int)), (yX8_judge, cX8_judge, 6, (.some FieldType.int)), (yX8_even, cX8_even, 4, (.some FieldType.int)), (yX8_image, cX8_image, 1, (.some FieldType.int)), (yX8_restore, cX8_restore, 1, (.some FieldType.int)), (yX8_tell, cX8_tell, 2, (.some FieldType.int)), (yX8_check, cX8_check, 4, (.some FieldType.int)), (yX8_count, cX8_count, 2, (.some FieldType.int)), (yX8_told, cX8_told, 2, (.some FieldType.int)), (yX8_fail, cX8_fail, 2, (.some FieldType.int)), (yX8_lawOf, cX8_lawOf, 2, (.some (FieldType.object "NeedleLine$Law"))), (yX8_sheetOf, cX8_sheetOf, 2, (.some (FieldType.object "NeedleLine$Sheet"))), (yX8_movingOf, cX8_movingOf, 3, (.some FieldType.int))]
def pgT6 (fb : Bool) : List (Nat → List pm_Ac) := [P_X8_movedBy, P_X8_isMovedBy, P_X8_hoursOf, P_X8_held, P_X8_isIn, P_X8_greatestCommon, P_X9_finding, P_X9_isIn, P_X9_held, P_X9_copy, P_X9_become, P_X9_is, P_X9_isMile, P_X9_mileOf, P_X9_miles, P_X9_mile, P_X9_stone, P_X9_slipOf, P_X9_slip, P_X9_slipIs]
def mtT6 : List (MethodName × ByteArray × Nat × Option FieldType) := [(yX8_movedBy, cX8_movedBy, 3, (.some FieldType.int)), (yX8_isMovedBy, cX8_isMovedBy, 3, (.some FieldType.boolean)), (yX8_hoursOf, cX8_hoursOf, 5, (.some FieldType.int)), (yX8_held, cX8_held, 2, (.some FieldType.int)), (yX8_isIn, cX8_isIn, 3, (.some FieldType.boolean)), (yX8_greatestCommon, cX8_greatestCommon, 11, (.some FieldType.long)), (yX9_finding, cX9_finding, 2, (.some FieldType.int)), (yX9_isIn, cX9_isIn, 3, (.some FieldType.boolean)), (yX9_held, cX9_held, 3, (.some FieldType.int)), (yX9_copy, cX9_copy, 3, (.none : Option FieldType)), (yX9_become, cX9_become, 4, (.some FieldType.int)), (yX9_is, cX9_is, 3, (.some FieldType.boolean)), (yX9_isMile, cX9_isMile, 1, (.some FieldType.boolean)), (yX9_mileOf, cX9_mileOf, 3, (.some FieldType.int)), (yX9_miles, cX9_miles, 2, (.some FieldType.int)), (yX9_mile, cX9_mile, 5, (.some FieldType.int)), (yX9_stone, cX9_stone, 3, (.some FieldType.int)), (yX9_slipOf, cX9_slipOf, 3, (.some FieldType.int)), (yX9_slip, cX9_slip, 6, (.some FieldType.int)), (yX9_slipIs, cX9_slipIs, 3, (.some FieldType.int))]
def pgT7 (fb : Bool) : List (Nat → List pm_Ac) := [P_X9_above, P_X9_as, P_X9_turn, P_X9_doesAt, P_X9_does, P_X9_allThat, P_X9_goes, P_X9_missIn, P_X9_mileIs, P_X9_feed, P_X9_here, P_X9_takes, P_X9_codes, P_X9_either, P_X9_both, P_X9_compared, P_X9_sum, P_X9_product, P_X9_nameOf, P_X9_one]
def mtT7 : List (MethodName × ByteArray × Nat × Option FieldType) := [(yX9_above, cX9_above, 1, (.some FieldType.int)), (yX9_as, cX9_as, 4, (.some FieldType.int)), (yX9_turn, cX9_turn, 3, (.some FieldType.int)), (yX9_doesAt, cX9_doesAt, 8, (.some FieldType.int)), (yX9_does, cX9_does, 4, (.some FieldType.int)), (yX9_allThat, cX9_allThat, 5, (.some FieldType.int)), (yX9_goes, cX9_goes, 3, (.none : Option FieldType)), (yX9_missIn, cX9_missIn, 5, (.some FieldType.int)), (yX9_mileIs, cX9_mileIs, 3, (.some FieldType.int)), (yX9_feed, cX9_feed, 5, (.some FieldType.int)), (yX9_here, cX9_here, 1, (.some FieldType.int)), (yX9_takes, cX9_takes, 3, (.some FieldType.boolean)), (yX9_codes, cX9_codes, 2, (.none : Option FieldType)), (yX9_either, cX9_either, 1, (.none : Option FieldType)), (yX9_both, cX9_both, 1, (.none : Option FieldType)), (yX9_compared, cX9_compared, 2, (.none : Option FieldType)), (yX9_sum, cX9_sum, 2, (.none : Option FieldType)), (yX9_product, cX9_product, 2, (.none : Option FieldType)), (yX9_nameOf, cX9_nameOf, 4, (.some FieldType.int)), (yX9_one, cX9_one, 4, (.none : Option FieldType))]
def pgT8 (fb : Bool) : List (Nat → List pm_Ac) := [P_X9_text, P_X9_untell, P_X9_done, P_X9_worked, P_X9_hasText, P_X9_given, P_X9_treesAt, P_X9_movingOf, P_X9_hoursOf, P_X9_post, P_X9_miss, P_X9_wronged, P_X9_which, P_X9_offBy, P_X9_checks, P_X9_hours, P_X9_within, P_X9_leaning, P_X9_divisor, P_X9_findStraight]
def mtT8 : List (MethodName × ByteArray × Nat × Option FieldType) := [(yX9_text, cX9_text, 3, (.some FieldType.int)), (yX9_untell, cX9_untell, 2, (.some FieldType.int)), (yX9_done, cX9_done, 3, (.some FieldType.int)), (yX9_worked, cX9_worked, 5, (.some FieldType.int)), (yX9_hasText, cX9_hasText, 2, (.some FieldType.boolean)), (yX9_given, cX9_given, 7, (.some FieldType.int)), (yX9_treesAt, cX9_treesAt, 4, (.some FieldType.int)), (yX9_movingOf, cX9_movingOf, 3, (.some FieldType.int)), (yX9_hoursOf, cX9_hoursOf, 5, (.some FieldType.int)), (yX9_post, cX9_post, 4, (.some FieldType.int)), (yX9_miss, cX9_miss, 2, (.some FieldType.int)), (yX9_wronged, cX9_wronged, 6, (.some FieldType.int)), (yX9_which, cX9_which, 5, (.some FieldType.int)), (yX9_offBy, cX9_offBy, 3, (.some FieldType.int)), (yX9_checks, cX9_checks, 10, (.some FieldType.int)), (yX9_hours, cX9_hours, 3, (.some FieldType.int)), (yX9_within, cX9_within, 4, (.some FieldType.int)), (yX9_leaning, cX9_leaning, 3, (.some FieldType.int)), (yX9_divisor, cX9_divisor, 4, (.some FieldType.long)), (yX9_findStraight, cX9_findStraight, 3, (.none : Option FieldType))]
def pgT9 (fb : Bool) : List (Nat → List pm_Ac) := [P_X9_straight, P_X9_offIt, P_X9_nearest, P_X9_crosses, P_X9_treeOf, P_X9_tree, P_X9_treeIs, P_X9_dig, P_X9_sorts, P_X9_drawn, P_X9_waver, P_X9_still, P_X9_seed, P_X9_began, P_X9_hasOwn, P_X9_voiced, P_X9_bodyFrom, P_X9_body, P_X9_voice, P_X9_body_]
def mtT9 : List (MethodName × ByteArray × Nat × Option FieldType) := [(yX9_straight, cX9_straight, 2, (.some FieldType.long)), (yX9_offIt, cX9_offIt, 7, (.some FieldType.int)), (yX9_nearest, cX9_nearest, 7, (.some FieldType.int)), (yX9_crosses, cX9_crosses, 3, (.some FieldType.int)), (yX9_treeOf, cX9_treeOf, 3, (.some FieldType.int)), (yX9_tree, cX9_tree, 7, (.some FieldType.int)), (yX9_treeIs, cX9_treeIs, 4, (.some FieldType.int)), (yX9_dig, cX9_dig, 5, (.some FieldType.int)), (yX9_sorts, cX9_sorts, 4, (.some FieldType.int)), (yX9_drawn, cX9_drawn, 2, (.some FieldType.int)), (yX9_waver, cX9_waver, 5, (.some FieldType.int)), (yX9_still, cX9_still, 3, (.some FieldType.int)), (yX9_seed, cX9_seed, 2, (.some FieldType.int)), (yX9_began, cX9_began, 2, (.none : Option FieldType)), (yX9_hasOwn, cX9_hasOwn, 2, (.some FieldType.boolean)), (yX9_voiced, cX9_voiced, 3, (.some FieldType.int)), (yX9_bodyFrom, cX9_bodyFrom, 5, (.some FieldType.int)), (yX9_body, cX9_body, 6, (.some FieldType.int)), (yX9_voice, cX9_voice, 5, (.some FieldType.int)), (yX9_body_, cX9_body_, 2, (.some FieldType.int))]
def pgT10 (fb : Bool) : List (Nat → List pm_Ac) := [P_X9_isSheet, P_X9_sheet, P_X9_put, P_X9_move, P_X9_judge, P_X9_even, P_X9_image, P_X9_restore, P_X9_tell, P_X9_check, P_X9_count, P_X9_told, P_J0_length_8abf5, P_J0_charAt_5068e, P_J0_indexOf_0f7a4, P_J0_indexOf_7cf53, P_J0_coder_7d493, P_J0_isLatin1_aae02, P_J0_checkIndex_df160 fb, P_J1_charAt_3b067]
def mtT10 : List (MethodName × ByteArray × Nat × Option FieldType) := [(yX9_isSheet, cX9_isSheet, 1, (.some FieldType.boolean)), (yX9_sheet, cX9_sheet, 5, (.some FieldType.int)), (yX9_put, cX9_put, 4, (.some FieldType.int)), (yX9_move, cX9_move, 7, (.some FieldType.int)), (yX9_judge, cX9_judge, 4, (.some FieldType.int)), (yX9_even, cX9_even, 10, (.some FieldType.int)), (yX9_image, cX9_image, 1, (.some FieldType.int)), (yX9_restore, cX9_restore, 1, (.some FieldType.int)), (yX9_tell, cX9_tell, 2, (.some FieldType.int)), (yX9_check, cX9_check, 3, (.some FieldType.int)), (yX9_count, cX9_count, 4, (.some FieldType.int)), (yX9_told, cX9_told, 2, (.some FieldType.int)), (yJ0_length_8abf5, cJ0_length_8abf5, 1, (.some FieldType.int)), (yJ0_charAt_5068e, cJ0_charAt_5068e, 2, (.some FieldType.char)), (yJ0_indexOf_0f7a4, cJ0_indexOf_0f7a4, 2, (.some FieldType.int)), (yJ0_indexOf_7cf53, cJ0_indexOf_7cf53, 3, (.some FieldType.int)), (yJ0_coder_7d493, cJ0_coder_7d493, 1, (.some FieldType.byte)), (yJ0_isLatin1_aae02, cJ0_isLatin1_aae02, 1, (.some FieldType.boolean)), (yJ0_checkIndex_df160, cJ0_checkIndex_df160, 2, (.none : Option FieldType)), (yJ1_charAt_3b067, cJ1_charAt_3b067, 2, (.some FieldType.char))]
def pgT11 (fb : Bool) : List (Nat → List pm_Ac) := [P_J1_canEncode_9a6ad, P_J1_indexOf_4cfef, P_J1_indexOfChar_4cfef, P_J3_checkIndex_8e157]
def mtT11 : List (MethodName × ByteArray × Nat × Option FieldType) := [(yJ1_canEncode_9a6ad, cJ1_canEncode_9a6ad, 1, (.some FieldType.boolean)), (yJ1_indexOf_4cfef, cJ1_indexOf_4cfef, 4, (.some FieldType.int)), (yJ1_indexOfChar_4cfef, cJ1_indexOfChar_4cfef, 6, (.some FieldType.int)), (yJ3_checkIndex_8e157, cJ3_checkIndex_8e157, 3, (.some FieldType.int))]
def pgAll (fb : Bool) : List (Nat → List pm_Ac) := pgT0 fb ++ (pgT1 fb ++ (pgT2 fb ++ (pgT3 fb ++ (pgT4 fb ++ (pgT5 fb ++ (pgT6 fb ++ (pgT7 fb ++ (pgT8 fb ++ (pgT9 fb ++ (pgT10 fb ++ (pgT11 fb)))))))))))
def pm_pg (fb : Bool) (y : Nat) : Nat → List pm_Ac := (pgAll fb).getD y (fun _ => [])
def mtAll : List (MethodName × ByteArray × Nat × Option FieldType) := mtT0 ++ (mtT1 ++ (mtT2 ++ (mtT3 ++ (mtT4 ++ (mtT5 ++ (mtT6 ++ (mtT7 ++ (mtT8 ++ (mtT9 ++ (mtT10 ++ (mtT11)))))))))))
def pm_mt (y : Nat) : MethodName × ByteArray × Nat × Option FieldType := mtAll.getD y (yX0_truth, cX0_truth, 1, none)
theorem pg_X0_isTold (fb : Bool) : pm_pg fb n_X0_isTold = P_X0_isTold := rfl
theorem mt_X0_isTold : pm_mt n_X0_isTold = (yX0_isTold, cX0_isTold, 1, (.some FieldType.boolean)) := rfl
theorem pg_X0_clear (fb : Bool) : pm_pg fb n_X0_clear = P_X0_clear := rfl
theorem mt_X0_clear : pm_mt n_X0_clear = (yX0_clear, cX0_clear, 1, (.none : Option FieldType)) := rfl
theorem pg_X0_add (fb : Bool) : pm_pg fb n_X0_add = P_X0_add := rfl
theorem mt_X0_add : pm_mt n_X0_add = (yX0_add, cX0_add, 2, (.none : Option FieldType)) := rfl
theorem pg_X0_take (fb : Bool) : pm_pg fb n_X0_take = P_X0_take := rfl
theorem mt_X0_take : pm_mt n_X0_take = (yX0_take, cX0_take, 2, (.none : Option FieldType)) := rfl
theorem pg_X0_workedOut (fb : Bool) : pm_pg fb n_X0_workedOut = P_X0_workedOut := rfl
theorem mt_X0_workedOut : pm_mt n_X0_workedOut = (yX0_workedOut, cX0_workedOut, 6, (.some FieldType.int)) := rfl
theorem pg_X0_named (fb : Bool) : pm_pg fb n_X0_named = P_X0_named := rfl
theorem mt_X0_named : pm_mt n_X0_named = (yX0_named, cX0_named, 2, (.some FieldType.int)) := rfl
theorem pg_X0_joined (fb : Bool) : pm_pg fb n_X0_joined = P_X0_joined := rfl
theorem mt_X0_joined : pm_mt n_X0_joined = (yX0_joined, cX0_joined, 3, (.some FieldType.int)) := rfl
theorem pg_X0_truth (fb : Bool) : pm_pg fb n_X0_truth = P_X0_truth := rfl
theorem mt_X0_truth : pm_mt n_X0_truth = (yX0_truth, cX0_truth, 1, (.some FieldType.int)) := rfl
theorem pg_X1_faultOf (fb : Bool) : pm_pg fb n_X1_faultOf = P_X1_faultOf := rfl
theorem mt_X1_faultOf : pm_mt n_X1_faultOf = (yX1_faultOf, cX1_faultOf, 3, (.some FieldType.int)) := rfl
theorem pg_X1_readT (fb : Bool) : pm_pg fb n_X1_readT = P_X1_readT := rfl
theorem mt_X1_readT : pm_mt n_X1_readT = (yX1_readT, cX1_readT, 2, (.none : Option FieldType)) := rfl
theorem pg_X1_readA (fb : Bool) : pm_pg fb n_X1_readA = P_X1_readA := rfl
theorem mt_X1_readA : pm_mt n_X1_readA = (yX1_readA, cX1_readA, 2, (.none : Option FieldType)) := rfl
theorem pg_X1_readB (fb : Bool) : pm_pg fb n_X1_readB = P_X1_readB := rfl
theorem mt_X1_readB : pm_mt n_X1_readB = (yX1_readB, cX1_readB, 2, (.none : Option FieldType)) := rfl
theorem pg_X1_readS (fb : Bool) : pm_pg fb n_X1_readS = P_X1_readS := rfl
theorem mt_X1_readS : pm_mt n_X1_readS = (yX1_readS, cX1_readS, 3, (.none : Option FieldType)) := rfl
theorem pg_X1_readP (fb : Bool) : pm_pg fb n_X1_readP = P_X1_readP := rfl
theorem mt_X1_readP : pm_mt n_X1_readP = (yX1_readP, cX1_readP, 3, (.none : Option FieldType)) := rfl
theorem pg_X1_readQ (fb : Bool) : pm_pg fb n_X1_readQ = P_X1_readQ := rfl
theorem mt_X1_readQ : pm_mt n_X1_readQ = (yX1_readQ, cX1_readQ, 2, (.none : Option FieldType)) := rfl
theorem pg_X1_readNumber (fb : Bool) : pm_pg fb n_X1_readNumber = P_X1_readNumber := rfl
theorem mt_X1_readNumber : pm_mt n_X1_readNumber = (yX1_readNumber, cX1_readNumber, 3, (.none : Option FieldType)) := rfl
theorem pg_X1_nameOf (fb : Bool) : pm_pg fb n_X1_nameOf = P_X1_nameOf := rfl
theorem mt_X1_nameOf : pm_mt n_X1_nameOf = (yX1_nameOf, cX1_nameOf, 2, (.some FieldType.int)) := rfl
theorem pg_X1_next (fb : Bool) : pm_pg fb n_X1_next = P_X1_next := rfl
theorem mt_X1_next : pm_mt n_X1_next = (yX1_next, cX1_next, 1, (.some FieldType.int)) := rfl
theorem pg_X1_isNext (fb : Bool) : pm_pg fb n_X1_isNext = P_X1_isNext := rfl
theorem mt_X1_isNext : pm_mt n_X1_isNext = (yX1_isNext, cX1_isNext, 2, (.some FieldType.boolean)) := rfl
theorem pg_X1_isDigit (fb : Bool) : pm_pg fb n_X1_isDigit = P_X1_isDigit := rfl
theorem mt_X1_isDigit : pm_mt n_X1_isDigit = (yX1_isDigit, cX1_isDigit, 1, (.some FieldType.boolean)) := rfl
theorem pg_X2_isMissing (fb : Bool) : pm_pg fb n_X2_isMissing = P_X2_isMissing := rfl
theorem mt_X2_isMissing : pm_mt n_X2_isMissing = (yX2_isMissing, cX2_isMissing, 1, (.some FieldType.boolean)) := rfl
theorem pg_X2_lay (fb : Bool) : pm_pg fb n_X2_lay = P_X2_lay := rfl
theorem mt_X2_lay : pm_mt n_X2_lay = (yX2_lay, cX2_lay, 4, (.none : Option FieldType)) := rfl
theorem pg_X2_stand (fb : Bool) : pm_pg fb n_X2_stand = P_X2_stand := rfl
theorem mt_X2_stand : pm_mt n_X2_stand = (yX2_stand, cX2_stand, 3, (.some FieldType.boolean)) := rfl
theorem pg_X2_number (fb : Bool) : pm_pg fb n_X2_number = P_X2_number := rfl
theorem mt_X2_number : pm_mt n_X2_number = (yX2_number, cX2_number, 2, (.some FieldType.int)) := rfl
theorem pg_X2_write (fb : Bool) : pm_pg fb n_X2_write = P_X2_write := rfl
theorem mt_X2_write : pm_mt n_X2_write = (yX2_write, cX2_write, 3, (.none : Option FieldType)) := rfl
theorem pg_X2_lowest (fb : Bool) : pm_pg fb n_X2_lowest = P_X2_lowest := rfl
theorem mt_X2_lowest : pm_mt n_X2_lowest = (yX2_lowest, cX2_lowest, 2, (.some FieldType.int)) := rfl
theorem pg_X2_step (fb : Bool) : pm_pg fb n_X2_step = P_X2_step := rfl
theorem mt_X2_step : pm_mt n_X2_step = (yX2_step, cX2_step, 2, (.some FieldType.int)) := rfl
theorem pg_X2_isEven (fb : Bool) : pm_pg fb n_X2_isEven = P_X2_isEven := rfl
theorem mt_X2_isEven : pm_mt n_X2_isEven = (yX2_isEven, cX2_isEven, 2, (.some FieldType.boolean)) := rfl
theorem pg_X2_evenSteps (fb : Bool) : pm_pg fb n_X2_evenSteps = P_X2_evenSteps := rfl
theorem mt_X2_evenSteps : pm_mt n_X2_evenSteps = (yX2_evenSteps, cX2_evenSteps, 3, (.some FieldType.int)) := rfl
theorem pg_X2_longestEvenRow (fb : Bool) : pm_pg fb n_X2_longestEvenRow = P_X2_longestEvenRow := rfl
theorem mt_X2_longestEvenRow : pm_mt n_X2_longestEvenRow = (yX2_longestEvenRow, cX2_longestEvenRow, 4, (.some FieldType.int)) := rfl
theorem pg_X3_isOf (fb : Bool) : pm_pg fb n_X3_isOf = P_X3_isOf := rfl
theorem mt_X3_isOf : pm_mt n_X3_isOf = (yX3_isOf, cX3_isOf, 5, (.some FieldType.boolean)) := rfl
theorem pg_X3_leansAt (fb : Bool) : pm_pg fb n_X3_leansAt = P_X3_leansAt := rfl
theorem mt_X3_leansAt : pm_mt n_X3_leansAt = (yX3_leansAt, cX3_leansAt, 4, (.some FieldType.int)) := rfl
theorem pg_X3_pushesAt (fb : Bool) : pm_pg fb n_X3_pushesAt = P_X3_pushesAt := rfl
theorem mt_X3_pushesAt : pm_mt n_X3_pushesAt = (yX3_pushesAt, cX3_pushesAt, 4, (.some FieldType.int)) := rfl
theorem pg_X3_shortensAt (fb : Bool) : pm_pg fb n_X3_shortensAt = P_X3_shortensAt := rfl
theorem mt_X3_shortensAt : pm_mt n_X3_shortensAt = (yX3_shortensAt, cX3_shortensAt, 5, (.some FieldType.int)) := rfl
theorem pg_X3_isFirst (fb : Bool) : pm_pg fb n_X3_isFirst = P_X3_isFirst := rfl
theorem mt_X3_isFirst : pm_mt n_X3_isFirst = (yX3_isFirst, cX3_isFirst, 3, (.some FieldType.boolean)) := rfl
theorem pg_X3_spans (fb : Bool) : pm_pg fb n_X3_spans = P_X3_spans := rfl
theorem mt_X3_spans : pm_mt n_X3_spans = (yX3_spans, cX3_spans, 3, (.some FieldType.boolean)) := rfl
theorem pg_X3_above (fb : Bool) : pm_pg fb n_X3_above = P_X3_above := rfl
theorem mt_X3_above : pm_mt n_X3_above = (yX3_above, cX3_above, 1, (.some FieldType.int)) := rfl
theorem pg_X4_speak (fb : Bool) : pm_pg fb n_X4_speak = P_X4_speak := rfl
theorem mt_X4_speak : pm_mt n_X4_speak = (yX4_speak, cX4_speak, 5, (.some FieldType.int)) := rfl
theorem pg_X4_isParted (fb : Bool) : pm_pg fb n_X4_isParted = P_X4_isParted := rfl
theorem mt_X4_isParted : pm_mt n_X4_isParted = (yX4_isParted, cX4_isParted, 1, (.some FieldType.boolean)) := rfl
theorem pg_X4_sound (fb : Bool) : pm_pg fb n_X4_sound = P_X4_sound := rfl
theorem mt_X4_sound : pm_mt n_X4_sound = (yX4_sound, cX4_sound, 7, (.some FieldType.int)) := rfl
theorem pg_X4_workedOut (fb : Bool) : pm_pg fb n_X4_workedOut = P_X4_workedOut := rfl
theorem mt_X4_workedOut : pm_mt n_X4_workedOut = (yX4_workedOut, cX4_workedOut, 5, (.some FieldType.int)) := rfl
theorem pg_X4_mended (fb : Bool) : pm_pg fb n_X4_mended = P_X4_mended := rfl
theorem mt_X4_mended : pm_mt n_X4_mended = (yX4_mended, cX4_mended, 3, (.some FieldType.int)) := rfl
theorem pg_X4_bodyOf (fb : Bool) : pm_pg fb n_X4_bodyOf = P_X4_bodyOf := rfl
theorem mt_X4_bodyOf : pm_mt n_X4_bodyOf = (yX4_bodyOf, cX4_bodyOf, 3, (.some FieldType.int)) := rfl
theorem pg_X5_draw (fb : Bool) : pm_pg fb n_X5_draw = P_X5_draw := rfl
theorem mt_X5_draw : pm_mt n_X5_draw = (yX5_draw, cX5_draw, 1, (.some FieldType.int)) := rfl
theorem pg_X5_take (fb : Bool) : pm_pg fb n_X5_take = P_X5_take := rfl
theorem mt_X5_take : pm_mt n_X5_take = (yX5_take, cX5_take, 2, (.none : Option FieldType)) := rfl
theorem pg_X6_used (fb : Bool) : pm_pg fb n_X6_used = P_X6_used := rfl
theorem mt_X6_used : pm_mt n_X6_used = (yX6_used, cX6_used, 1, (.some FieldType.int)) := rfl
theorem pg_X6_use (fb : Bool) : pm_pg fb n_X6_use = P_X6_use := rfl
theorem mt_X6_use : pm_mt n_X6_use = (yX6_use, cX6_use, 2, (.none : Option FieldType)) := rfl
theorem pg_X6_has (fb : Bool) : pm_pg fb n_X6_has = P_X6_has := rfl
theorem mt_X6_has : pm_mt n_X6_has = (yX6_has, cX6_has, 2, (.some FieldType.boolean)) := rfl
theorem pg_X6_isFull (fb : Bool) : pm_pg fb n_X6_isFull = P_X6_isFull := rfl
theorem mt_X6_isFull : pm_mt n_X6_isFull = (yX6_isFull, cX6_isFull, 1, (.some FieldType.boolean)) := rfl
theorem pg_X6_add (fb : Bool) : pm_pg fb n_X6_add = P_X6_add := rfl
theorem mt_X6_add : pm_mt n_X6_add = (yX6_add, cX6_add, 3, (.some FieldType.int)) := rfl
theorem pg_X6_at (fb : Bool) : pm_pg fb n_X6_at = P_X6_at := rfl
theorem mt_X6_at : pm_mt n_X6_at = (yX6_at, cX6_at, 3, (.some FieldType.int)) := rfl
theorem pg_X6_set (fb : Bool) : pm_pg fb n_X6_set = P_X6_set := rfl
theorem mt_X6_set : pm_mt n_X6_set = (yX6_set, cX6_set, 4, (.none : Option FieldType)) := rfl
theorem pg_X6_howMany (fb : Bool) : pm_pg fb n_X6_howMany = P_X6_howMany := rfl
theorem mt_X6_howMany : pm_mt n_X6_howMany = (yX6_howMany, cX6_howMany, 5, (.some FieldType.int)) := rfl
theorem pg_X6_take (fb : Bool) : pm_pg fb n_X6_take = P_X6_take := rfl
theorem mt_X6_take : pm_mt n_X6_take = (yX6_take, cX6_take, 3, (.none : Option FieldType)) := rfl
theorem pg_X6_holds (fb : Bool) : pm_pg fb n_X6_holds = P_X6_holds := rfl
theorem mt_X6_holds : pm_mt n_X6_holds = (yX6_holds, cX6_holds, 3, (.some FieldType.boolean)) := rfl
theorem pg_X7_go (fb : Bool) : pm_pg fb n_X7_go = P_X7_go := rfl
theorem mt_X7_go : pm_mt n_X7_go = (yX7_go, cX7_go, 5, (.none : Option FieldType)) := rfl
theorem pg_X7_addUpSlips (fb : Bool) : pm_pg fb n_X7_addUpSlips = P_X7_addUpSlips := rfl
theorem mt_X7_addUpSlips : pm_mt n_X7_addUpSlips = (yX7_addUpSlips, cX7_addUpSlips, 7, (.none : Option FieldType)) := rfl
theorem pg_X7_sideOf (fb : Bool) : pm_pg fb n_X7_sideOf = P_X7_sideOf := rfl
theorem mt_X7_sideOf : pm_mt n_X7_sideOf = (yX7_sideOf, cX7_sideOf, 2, (.some FieldType.int)) := rfl
theorem pg_X7_alongOf (fb : Bool) : pm_pg fb n_X7_alongOf = P_X7_alongOf := rfl
theorem mt_X7_alongOf : pm_mt n_X7_alongOf = (yX7_alongOf, cX7_alongOf, 2, (.some FieldType.int)) := rfl
theorem pg_X7_headingIn (fb : Bool) : pm_pg fb n_X7_headingIn = P_X7_headingIn := rfl
theorem mt_X7_headingIn : pm_mt n_X7_headingIn = (yX7_headingIn, cX7_headingIn, 2, (.some FieldType.int)) := rfl
theorem pg_X7_pushesIn (fb : Bool) : pm_pg fb n_X7_pushesIn = P_X7_pushesIn := rfl
theorem mt_X7_pushesIn : pm_mt n_X7_pushesIn = (yX7_pushesIn, cX7_pushesIn, 2, (.some FieldType.int)) := rfl
theorem pg_X7_shortensIn (fb : Bool) : pm_pg fb n_X7_shortensIn = P_X7_shortensIn := rfl
theorem mt_X7_shortensIn : pm_mt n_X7_shortensIn = (yX7_shortensIn, cX7_shortensIn, 2, (.some FieldType.int)) := rfl
theorem pg_X7_missSide (fb : Bool) : pm_pg fb n_X7_missSide = P_X7_missSide := rfl
theorem mt_X7_missSide : pm_mt n_X7_missSide = (yX7_missSide, cX7_missSide, 1, (.some FieldType.int)) := rfl
theorem pg_X7_missAlong (fb : Bool) : pm_pg fb n_X7_missAlong = P_X7_missAlong := rfl
theorem mt_X7_missAlong : pm_mt n_X7_missAlong = (yX7_missAlong, cX7_missAlong, 1, (.some FieldType.int)) := rfl
theorem pg_X7_wholeMiss (fb : Bool) : pm_pg fb n_X7_wholeMiss = P_X7_wholeMiss := rfl
theorem mt_X7_wholeMiss : pm_mt n_X7_wholeMiss = (yX7_wholeMiss, cX7_wholeMiss, 1, (.some FieldType.int)) := rfl
theorem pg_X7_distanceOf (fb : Bool) : pm_pg fb n_X7_distanceOf = P_X7_distanceOf := rfl
theorem mt_X7_distanceOf : pm_mt n_X7_distanceOf = (yX7_distanceOf, cX7_distanceOf, 4, (.some FieldType.int)) := rfl
theorem pg_X7_offWithChecks (fb : Bool) : pm_pg fb n_X7_offWithChecks = P_X7_offWithChecks := rfl
theorem mt_X7_offWithChecks : pm_mt n_X7_offWithChecks = (yX7_offWithChecks, cX7_offWithChecks, 5, (.some FieldType.int)) := rfl
theorem pg_X7_bestCheck (fb : Bool) : pm_pg fb n_X7_bestCheck = P_X7_bestCheck := rfl
theorem mt_X7_bestCheck : pm_mt n_X7_bestCheck = (yX7_bestCheck, cX7_bestCheck, 5, (.some FieldType.int)) := rfl
theorem pg_X7_bestPairOfChecks (fb : Bool) : pm_pg fb n_X7_bestPairOfChecks = P_X7_bestPairOfChecks := rfl
theorem mt_X7_bestPairOfChecks : pm_mt n_X7_bestPairOfChecks = (yX7_bestPairOfChecks, cX7_bestPairOfChecks, 7, (.some FieldType.int)) := rfl
theorem pg_X7_sumOfSides (fb : Bool) : pm_pg fb n_X7_sumOfSides = P_X7_sumOfSides := rfl
theorem mt_X7_sumOfSides : pm_mt n_X7_sumOfSides = (yX7_sumOfSides, cX7_sumOfSides, 4, (.some FieldType.long)) := rfl
theorem pg_X7_sumOfSquares (fb : Bool) : pm_pg fb n_X7_sumOfSquares = P_X7_sumOfSquares := rfl
theorem mt_X7_sumOfSquares : pm_mt n_X7_sumOfSquares = (yX7_sumOfSquares, cX7_sumOfSquares, 4, (.some FieldType.long)) := rfl
theorem pg_X7_offStraight (fb : Bool) : pm_pg fb n_X7_offStraight = P_X7_offStraight := rfl
theorem mt_X7_offStraight : pm_mt n_X7_offStraight = (yX7_offStraight, cX7_offStraight, 2, (.some FieldType.long)) := rfl
theorem pg_X8_miles (fb : Bool) : pm_pg fb n_X8_miles = P_X8_miles := rfl
theorem mt_X8_miles : pm_mt n_X8_miles = (yX8_miles, cX8_miles, 3, (.some FieldType.int)) := rfl
theorem pg_X8_mile (fb : Bool) : pm_pg fb n_X8_mile = P_X8_mile := rfl
theorem mt_X8_mile : pm_mt n_X8_mile = (yX8_mile, cX8_mile, 5, (.some FieldType.int)) := rfl
theorem pg_X8_mileIs (fb : Bool) : pm_pg fb n_X8_mileIs = P_X8_mileIs := rfl
theorem mt_X8_mileIs : pm_mt n_X8_mileIs = (yX8_mileIs, cX8_mileIs, 3, (.some FieldType.int)) := rfl
theorem pg_X8_stone (fb : Bool) : pm_pg fb n_X8_stone = P_X8_stone := rfl
theorem mt_X8_stone : pm_mt n_X8_stone = (yX8_stone, cX8_stone, 3, (.some FieldType.int)) := rfl
theorem pg_X8_slip (fb : Bool) : pm_pg fb n_X8_slip = P_X8_slip := rfl
theorem mt_X8_slip : pm_mt n_X8_slip = (yX8_slip, cX8_slip, 7, (.some FieldType.int)) := rfl
theorem pg_X8_slipIs (fb : Bool) : pm_pg fb n_X8_slipIs = P_X8_slipIs := rfl
theorem mt_X8_slipIs : pm_mt n_X8_slipIs = (yX8_slipIs, cX8_slipIs, 3, (.some FieldType.int)) := rfl
theorem pg_X8_as (fb : Bool) : pm_pg fb n_X8_as = P_X8_as := rfl
theorem mt_X8_as : pm_mt n_X8_as = (yX8_as, cX8_as, 3, (.some FieldType.int)) := rfl
theorem pg_X8_turn (fb : Bool) : pm_pg fb n_X8_turn = P_X8_turn := rfl
theorem mt_X8_turn : pm_mt n_X8_turn = (yX8_turn, cX8_turn, 4, (.some FieldType.int)) := rfl
theorem pg_X8_does (fb : Bool) : pm_pg fb n_X8_does = P_X8_does := rfl
theorem mt_X8_does : pm_mt n_X8_does = (yX8_does, cX8_does, 4, (.some FieldType.int)) := rfl
theorem pg_X8_feed (fb : Bool) : pm_pg fb n_X8_feed = P_X8_feed := rfl
theorem mt_X8_feed : pm_mt n_X8_feed = (yX8_feed, cX8_feed, 5, (.some FieldType.int)) := rfl
theorem pg_X8_text (fb : Bool) : pm_pg fb n_X8_text = P_X8_text := rfl
theorem mt_X8_text : pm_mt n_X8_text = (yX8_text, cX8_text, 3, (.some FieldType.int)) := rfl
theorem pg_X8_untell (fb : Bool) : pm_pg fb n_X8_untell = P_X8_untell := rfl
theorem mt_X8_untell : pm_mt n_X8_untell = (yX8_untell, cX8_untell, 3, (.some FieldType.int)) := rfl
theorem pg_X8_post (fb : Bool) : pm_pg fb n_X8_post = P_X8_post := rfl
theorem mt_X8_post : pm_mt n_X8_post = (yX8_post, cX8_post, 3, (.some FieldType.int)) := rfl
theorem pg_X8_miss (fb : Bool) : pm_pg fb n_X8_miss = P_X8_miss := rfl
theorem mt_X8_miss : pm_mt n_X8_miss = (yX8_miss, cX8_miss, 2, (.some FieldType.int)) := rfl
theorem pg_X8_wronged (fb : Bool) : pm_pg fb n_X8_wronged = P_X8_wronged := rfl
theorem mt_X8_wronged : pm_mt n_X8_wronged = (yX8_wronged, cX8_wronged, 6, (.some FieldType.int)) := rfl
theorem pg_X8_which (fb : Bool) : pm_pg fb n_X8_which = P_X8_which := rfl
theorem mt_X8_which : pm_mt n_X8_which = (yX8_which, cX8_which, 6, (.some FieldType.int)) := rfl
theorem pg_X8_checks (fb : Bool) : pm_pg fb n_X8_checks = P_X8_checks := rfl
theorem mt_X8_checks : pm_mt n_X8_checks = (yX8_checks, cX8_checks, 4, (.some FieldType.int)) := rfl
theorem pg_X8_hours (fb : Bool) : pm_pg fb n_X8_hours = P_X8_hours := rfl
theorem mt_X8_hours : pm_mt n_X8_hours = (yX8_hours, cX8_hours, 3, (.some FieldType.int)) := rfl
theorem pg_X8_within (fb : Bool) : pm_pg fb n_X8_within = P_X8_within := rfl
theorem mt_X8_within : pm_mt n_X8_within = (yX8_within, cX8_within, 4, (.some FieldType.int)) := rfl
theorem pg_X8_leaning (fb : Bool) : pm_pg fb n_X8_leaning = P_X8_leaning := rfl
theorem mt_X8_leaning : pm_mt n_X8_leaning = (yX8_leaning, cX8_leaning, 3, (.some FieldType.int)) := rfl
theorem pg_X8_straight (fb : Bool) : pm_pg fb n_X8_straight = P_X8_straight := rfl
theorem mt_X8_straight : pm_mt n_X8_straight = (yX8_straight, cX8_straight, 10, (.some FieldType.long)) := rfl
theorem pg_X8_offIt (fb : Bool) : pm_pg fb n_X8_offIt = P_X8_offIt := rfl
theorem mt_X8_offIt : pm_mt n_X8_offIt = (yX8_offIt, cX8_offIt, 3, (.some FieldType.int)) := rfl
theorem pg_X8_nearest (fb : Bool) : pm_pg fb n_X8_nearest = P_X8_nearest := rfl
theorem mt_X8_nearest : pm_mt n_X8_nearest = (yX8_nearest, cX8_nearest, 5, (.some FieldType.int)) := rfl
theorem pg_X8_crosses (fb : Bool) : pm_pg fb n_X8_crosses = P_X8_crosses := rfl
theorem mt_X8_crosses : pm_mt n_X8_crosses = (yX8_crosses, cX8_crosses, 5, (.some FieldType.int)) := rfl
theorem pg_X8_tree (fb : Bool) : pm_pg fb n_X8_tree = P_X8_tree := rfl
theorem mt_X8_tree : pm_mt n_X8_tree = (yX8_tree, cX8_tree, 7, (.some FieldType.int)) := rfl
theorem pg_X8_treeIs (fb : Bool) : pm_pg fb n_X8_treeIs = P_X8_treeIs := rfl
theorem mt_X8_treeIs : pm_mt n_X8_treeIs = (yX8_treeIs, cX8_treeIs, 4, (.some FieldType.int)) := rfl
theorem pg_X8_dig (fb : Bool) : pm_pg fb n_X8_dig = P_X8_dig := rfl
theorem mt_X8_dig : pm_mt n_X8_dig = (yX8_dig, cX8_dig, 5, (.some FieldType.int)) := rfl
theorem pg_X8_sorts (fb : Bool) : pm_pg fb n_X8_sorts = P_X8_sorts := rfl
theorem mt_X8_sorts : pm_mt n_X8_sorts = (yX8_sorts, cX8_sorts, 2, (.some FieldType.int)) := rfl
theorem pg_X8_waver (fb : Bool) : pm_pg fb n_X8_waver = P_X8_waver := rfl
theorem mt_X8_waver : pm_mt n_X8_waver = (yX8_waver, cX8_waver, 5, (.some FieldType.int)) := rfl
theorem pg_X8_still (fb : Bool) : pm_pg fb n_X8_still = P_X8_still := rfl
theorem mt_X8_still : pm_mt n_X8_still = (yX8_still, cX8_still, 3, (.some FieldType.int)) := rfl
theorem pg_X8_seed (fb : Bool) : pm_pg fb n_X8_seed = P_X8_seed := rfl
theorem mt_X8_seed : pm_mt n_X8_seed = (yX8_seed, cX8_seed, 3, (.some FieldType.int)) := rfl
theorem pg_X8_voice (fb : Bool) : pm_pg fb n_X8_voice = P_X8_voice := rfl
theorem mt_X8_voice : pm_mt n_X8_voice = (yX8_voice, cX8_voice, 5, (.some FieldType.int)) := rfl
theorem pg_X8_body (fb : Bool) : pm_pg fb n_X8_body = P_X8_body := rfl
theorem mt_X8_body : pm_mt n_X8_body = (yX8_body, cX8_body, 2, (.some FieldType.int)) := rfl
theorem pg_X8_sheet (fb : Bool) : pm_pg fb n_X8_sheet = P_X8_sheet := rfl
theorem mt_X8_sheet : pm_mt n_X8_sheet = (yX8_sheet, cX8_sheet, 5, (.some FieldType.int)) := rfl
theorem pg_X8_put (fb : Bool) : pm_pg fb n_X8_put = P_X8_put := rfl
theorem mt_X8_put : pm_mt n_X8_put = (yX8_put, cX8_put, 5, (.some FieldType.int)) := rfl
theorem pg_X8_move (fb : Bool) : pm_pg fb n_X8_move = P_X8_move := rfl
theorem mt_X8_move : pm_mt n_X8_move = (yX8_move, cX8_move, 8, (.some FieldType.int)) := rfl
theorem pg_X8_judge (fb : Bool) : pm_pg fb n_X8_judge = P_X8_judge := rfl
theorem mt_X8_judge : pm_mt n_X8_judge = (yX8_judge, cX8_judge, 6, (.some FieldType.int)) := rfl
theorem pg_X8_even (fb : Bool) : pm_pg fb n_X8_even = P_X8_even := rfl
theorem mt_X8_even : pm_mt n_X8_even = (yX8_even, cX8_even, 4, (.some FieldType.int)) := rfl
theorem pg_X8_image (fb : Bool) : pm_pg fb n_X8_image = P_X8_image := rfl
theorem mt_X8_image : pm_mt n_X8_image = (yX8_image, cX8_image, 1, (.some FieldType.int)) := rfl
theorem pg_X8_restore (fb : Bool) : pm_pg fb n_X8_restore = P_X8_restore := rfl
theorem mt_X8_restore : pm_mt n_X8_restore = (yX8_restore, cX8_restore, 1, (.some FieldType.int)) := rfl
theorem pg_X8_tell (fb : Bool) : pm_pg fb n_X8_tell = P_X8_tell := rfl
theorem mt_X8_tell : pm_mt n_X8_tell = (yX8_tell, cX8_tell, 2, (.some FieldType.int)) := rfl
theorem pg_X8_check (fb : Bool) : pm_pg fb n_X8_check = P_X8_check := rfl
theorem mt_X8_check : pm_mt n_X8_check = (yX8_check, cX8_check, 4, (.some FieldType.int)) := rfl
theorem pg_X8_count (fb : Bool) : pm_pg fb n_X8_count = P_X8_count := rfl
theorem mt_X8_count : pm_mt n_X8_count = (yX8_count, cX8_count, 2, (.some FieldType.int)) := rfl
theorem pg_X8_told (fb : Bool) : pm_pg fb n_X8_told = P_X8_told := rfl
theorem mt_X8_told : pm_mt n_X8_told = (yX8_told, cX8_told, 2, (.some FieldType.int)) := rfl
theorem pg_X8_fail (fb : Bool) : pm_pg fb n_X8_fail = P_X8_fail := rfl
theorem mt_X8_fail : pm_mt n_X8_fail = (yX8_fail, cX8_fail, 2, (.some FieldType.int)) := rfl
theorem pg_X8_lawOf (fb : Bool) : pm_pg fb n_X8_lawOf = P_X8_lawOf := rfl
theorem mt_X8_lawOf : pm_mt n_X8_lawOf = (yX8_lawOf, cX8_lawOf, 2, (.some (FieldType.object "NeedleLine$Law"))) := rfl
theorem pg_X8_sheetOf (fb : Bool) : pm_pg fb n_X8_sheetOf = P_X8_sheetOf := rfl
theorem mt_X8_sheetOf : pm_mt n_X8_sheetOf = (yX8_sheetOf, cX8_sheetOf, 2, (.some (FieldType.object "NeedleLine$Sheet"))) := rfl
theorem pg_X8_movingOf (fb : Bool) : pm_pg fb n_X8_movingOf = P_X8_movingOf := rfl
theorem mt_X8_movingOf : pm_mt n_X8_movingOf = (yX8_movingOf, cX8_movingOf, 3, (.some FieldType.int)) := rfl
theorem pg_X8_movedBy (fb : Bool) : pm_pg fb n_X8_movedBy = P_X8_movedBy := rfl
theorem mt_X8_movedBy : pm_mt n_X8_movedBy = (yX8_movedBy, cX8_movedBy, 3, (.some FieldType.int)) := rfl
theorem pg_X8_isMovedBy (fb : Bool) : pm_pg fb n_X8_isMovedBy = P_X8_isMovedBy := rfl
theorem mt_X8_isMovedBy : pm_mt n_X8_isMovedBy = (yX8_isMovedBy, cX8_isMovedBy, 3, (.some FieldType.boolean)) := rfl
theorem pg_X8_hoursOf (fb : Bool) : pm_pg fb n_X8_hoursOf = P_X8_hoursOf := rfl
theorem mt_X8_hoursOf : pm_mt n_X8_hoursOf = (yX8_hoursOf, cX8_hoursOf, 5, (.some FieldType.int)) := rfl
theorem pg_X8_held (fb : Bool) : pm_pg fb n_X8_held = P_X8_held := rfl
theorem mt_X8_held : pm_mt n_X8_held = (yX8_held, cX8_held, 2, (.some FieldType.int)) := rfl
theorem pg_X8_isIn (fb : Bool) : pm_pg fb n_X8_isIn = P_X8_isIn := rfl
theorem mt_X8_isIn : pm_mt n_X8_isIn = (yX8_isIn, cX8_isIn, 3, (.some FieldType.boolean)) := rfl
theorem pg_X8_greatestCommon (fb : Bool) : pm_pg fb n_X8_greatestCommon = P_X8_greatestCommon := rfl
theorem mt_X8_greatestCommon : pm_mt n_X8_greatestCommon = (yX8_greatestCommon, cX8_greatestCommon, 11, (.some FieldType.long)) := rfl
theorem pg_X9_finding (fb : Bool) : pm_pg fb n_X9_finding = P_X9_finding := rfl
theorem mt_X9_finding : pm_mt n_X9_finding = (yX9_finding, cX9_finding, 2, (.some FieldType.int)) := rfl
theorem pg_X9_isIn (fb : Bool) : pm_pg fb n_X9_isIn = P_X9_isIn := rfl
theorem mt_X9_isIn : pm_mt n_X9_isIn = (yX9_isIn, cX9_isIn, 3, (.some FieldType.boolean)) := rfl
theorem pg_X9_held (fb : Bool) : pm_pg fb n_X9_held = P_X9_held := rfl
theorem mt_X9_held : pm_mt n_X9_held = (yX9_held, cX9_held, 3, (.some FieldType.int)) := rfl
theorem pg_X9_copy (fb : Bool) : pm_pg fb n_X9_copy = P_X9_copy := rfl
theorem mt_X9_copy : pm_mt n_X9_copy = (yX9_copy, cX9_copy, 3, (.none : Option FieldType)) := rfl
theorem pg_X9_become (fb : Bool) : pm_pg fb n_X9_become = P_X9_become := rfl
theorem mt_X9_become : pm_mt n_X9_become = (yX9_become, cX9_become, 4, (.some FieldType.int)) := rfl
theorem pg_X9_is (fb : Bool) : pm_pg fb n_X9_is = P_X9_is := rfl
theorem mt_X9_is : pm_mt n_X9_is = (yX9_is, cX9_is, 3, (.some FieldType.boolean)) := rfl
theorem pg_X9_isMile (fb : Bool) : pm_pg fb n_X9_isMile = P_X9_isMile := rfl
theorem mt_X9_isMile : pm_mt n_X9_isMile = (yX9_isMile, cX9_isMile, 1, (.some FieldType.boolean)) := rfl
theorem pg_X9_mileOf (fb : Bool) : pm_pg fb n_X9_mileOf = P_X9_mileOf := rfl
theorem mt_X9_mileOf : pm_mt n_X9_mileOf = (yX9_mileOf, cX9_mileOf, 3, (.some FieldType.int)) := rfl
theorem pg_X9_miles (fb : Bool) : pm_pg fb n_X9_miles = P_X9_miles := rfl
theorem mt_X9_miles : pm_mt n_X9_miles = (yX9_miles, cX9_miles, 2, (.some FieldType.int)) := rfl
theorem pg_X9_mile (fb : Bool) : pm_pg fb n_X9_mile = P_X9_mile := rfl
theorem mt_X9_mile : pm_mt n_X9_mile = (yX9_mile, cX9_mile, 5, (.some FieldType.int)) := rfl
theorem pg_X9_stone (fb : Bool) : pm_pg fb n_X9_stone = P_X9_stone := rfl
theorem mt_X9_stone : pm_mt n_X9_stone = (yX9_stone, cX9_stone, 3, (.some FieldType.int)) := rfl
theorem pg_X9_slipOf (fb : Bool) : pm_pg fb n_X9_slipOf = P_X9_slipOf := rfl
theorem mt_X9_slipOf : pm_mt n_X9_slipOf = (yX9_slipOf, cX9_slipOf, 3, (.some FieldType.int)) := rfl
theorem pg_X9_slip (fb : Bool) : pm_pg fb n_X9_slip = P_X9_slip := rfl
theorem mt_X9_slip : pm_mt n_X9_slip = (yX9_slip, cX9_slip, 6, (.some FieldType.int)) := rfl
theorem pg_X9_slipIs (fb : Bool) : pm_pg fb n_X9_slipIs = P_X9_slipIs := rfl
theorem mt_X9_slipIs : pm_mt n_X9_slipIs = (yX9_slipIs, cX9_slipIs, 3, (.some FieldType.int)) := rfl
theorem pg_X9_above (fb : Bool) : pm_pg fb n_X9_above = P_X9_above := rfl
theorem mt_X9_above : pm_mt n_X9_above = (yX9_above, cX9_above, 1, (.some FieldType.int)) := rfl
theorem pg_X9_as (fb : Bool) : pm_pg fb n_X9_as = P_X9_as := rfl
theorem mt_X9_as : pm_mt n_X9_as = (yX9_as, cX9_as, 4, (.some FieldType.int)) := rfl
theorem pg_X9_turn (fb : Bool) : pm_pg fb n_X9_turn = P_X9_turn := rfl
theorem mt_X9_turn : pm_mt n_X9_turn = (yX9_turn, cX9_turn, 3, (.some FieldType.int)) := rfl
theorem pg_X9_doesAt (fb : Bool) : pm_pg fb n_X9_doesAt = P_X9_doesAt := rfl
theorem mt_X9_doesAt : pm_mt n_X9_doesAt = (yX9_doesAt, cX9_doesAt, 8, (.some FieldType.int)) := rfl
theorem pg_X9_does (fb : Bool) : pm_pg fb n_X9_does = P_X9_does := rfl
theorem mt_X9_does : pm_mt n_X9_does = (yX9_does, cX9_does, 4, (.some FieldType.int)) := rfl
theorem pg_X9_allThat (fb : Bool) : pm_pg fb n_X9_allThat = P_X9_allThat := rfl
theorem mt_X9_allThat : pm_mt n_X9_allThat = (yX9_allThat, cX9_allThat, 5, (.some FieldType.int)) := rfl
theorem pg_X9_goes (fb : Bool) : pm_pg fb n_X9_goes = P_X9_goes := rfl
theorem mt_X9_goes : pm_mt n_X9_goes = (yX9_goes, cX9_goes, 3, (.none : Option FieldType)) := rfl
theorem pg_X9_missIn (fb : Bool) : pm_pg fb n_X9_missIn = P_X9_missIn := rfl
theorem mt_X9_missIn : pm_mt n_X9_missIn = (yX9_missIn, cX9_missIn, 5, (.some FieldType.int)) := rfl
theorem pg_X9_mileIs (fb : Bool) : pm_pg fb n_X9_mileIs = P_X9_mileIs := rfl
theorem mt_X9_mileIs : pm_mt n_X9_mileIs = (yX9_mileIs, cX9_mileIs, 3, (.some FieldType.int)) := rfl
theorem pg_X9_feed (fb : Bool) : pm_pg fb n_X9_feed = P_X9_feed := rfl
theorem mt_X9_feed : pm_mt n_X9_feed = (yX9_feed, cX9_feed, 5, (.some FieldType.int)) := rfl
theorem pg_X9_here (fb : Bool) : pm_pg fb n_X9_here = P_X9_here := rfl
theorem mt_X9_here : pm_mt n_X9_here = (yX9_here, cX9_here, 1, (.some FieldType.int)) := rfl
theorem pg_X9_takes (fb : Bool) : pm_pg fb n_X9_takes = P_X9_takes := rfl
theorem mt_X9_takes : pm_mt n_X9_takes = (yX9_takes, cX9_takes, 3, (.some FieldType.boolean)) := rfl
theorem pg_X9_codes (fb : Bool) : pm_pg fb n_X9_codes = P_X9_codes := rfl
theorem mt_X9_codes : pm_mt n_X9_codes = (yX9_codes, cX9_codes, 2, (.none : Option FieldType)) := rfl
theorem pg_X9_either (fb : Bool) : pm_pg fb n_X9_either = P_X9_either := rfl
theorem mt_X9_either : pm_mt n_X9_either = (yX9_either, cX9_either, 1, (.none : Option FieldType)) := rfl
theorem pg_X9_both (fb : Bool) : pm_pg fb n_X9_both = P_X9_both := rfl
theorem mt_X9_both : pm_mt n_X9_both = (yX9_both, cX9_both, 1, (.none : Option FieldType)) := rfl
theorem pg_X9_compared (fb : Bool) : pm_pg fb n_X9_compared = P_X9_compared := rfl
theorem mt_X9_compared : pm_mt n_X9_compared = (yX9_compared, cX9_compared, 2, (.none : Option FieldType)) := rfl
theorem pg_X9_sum (fb : Bool) : pm_pg fb n_X9_sum = P_X9_sum := rfl
theorem mt_X9_sum : pm_mt n_X9_sum = (yX9_sum, cX9_sum, 2, (.none : Option FieldType)) := rfl
theorem pg_X9_product (fb : Bool) : pm_pg fb n_X9_product = P_X9_product := rfl
theorem mt_X9_product : pm_mt n_X9_product = (yX9_product, cX9_product, 2, (.none : Option FieldType)) := rfl
theorem pg_X9_nameOf (fb : Bool) : pm_pg fb n_X9_nameOf = P_X9_nameOf := rfl
theorem mt_X9_nameOf : pm_mt n_X9_nameOf = (yX9_nameOf, cX9_nameOf, 4, (.some FieldType.int)) := rfl
theorem pg_X9_one (fb : Bool) : pm_pg fb n_X9_one = P_X9_one := rfl
theorem mt_X9_one : pm_mt n_X9_one = (yX9_one, cX9_one, 4, (.none : Option FieldType)) := rfl
theorem pg_X9_text (fb : Bool) : pm_pg fb n_X9_text = P_X9_text := rfl
theorem mt_X9_text : pm_mt n_X9_text = (yX9_text, cX9_text, 3, (.some FieldType.int)) := rfl
theorem pg_X9_untell (fb : Bool) : pm_pg fb n_X9_untell = P_X9_untell := rfl
theorem mt_X9_untell : pm_mt n_X9_untell = (yX9_untell, cX9_untell, 2, (.some FieldType.int)) := rfl
theorem pg_X9_done (fb : Bool) : pm_pg fb n_X9_done = P_X9_done := rfl
theorem mt_X9_done : pm_mt n_X9_done = (yX9_done, cX9_done, 3, (.some FieldType.int)) := rfl
theorem pg_X9_worked (fb : Bool) : pm_pg fb n_X9_worked = P_X9_worked := rfl
theorem mt_X9_worked : pm_mt n_X9_worked = (yX9_worked, cX9_worked, 5, (.some FieldType.int)) := rfl
theorem pg_X9_hasText (fb : Bool) : pm_pg fb n_X9_hasText = P_X9_hasText := rfl
theorem mt_X9_hasText : pm_mt n_X9_hasText = (yX9_hasText, cX9_hasText, 2, (.some FieldType.boolean)) := rfl
theorem pg_X9_given (fb : Bool) : pm_pg fb n_X9_given = P_X9_given := rfl
theorem mt_X9_given : pm_mt n_X9_given = (yX9_given, cX9_given, 7, (.some FieldType.int)) := rfl
theorem pg_X9_treesAt (fb : Bool) : pm_pg fb n_X9_treesAt = P_X9_treesAt := rfl
theorem mt_X9_treesAt : pm_mt n_X9_treesAt = (yX9_treesAt, cX9_treesAt, 4, (.some FieldType.int)) := rfl
theorem pg_X9_movingOf (fb : Bool) : pm_pg fb n_X9_movingOf = P_X9_movingOf := rfl
theorem mt_X9_movingOf : pm_mt n_X9_movingOf = (yX9_movingOf, cX9_movingOf, 3, (.some FieldType.int)) := rfl
theorem pg_X9_hoursOf (fb : Bool) : pm_pg fb n_X9_hoursOf = P_X9_hoursOf := rfl
theorem mt_X9_hoursOf : pm_mt n_X9_hoursOf = (yX9_hoursOf, cX9_hoursOf, 5, (.some FieldType.int)) := rfl
theorem pg_X9_post (fb : Bool) : pm_pg fb n_X9_post = P_X9_post := rfl
theorem mt_X9_post : pm_mt n_X9_post = (yX9_post, cX9_post, 4, (.some FieldType.int)) := rfl
theorem pg_X9_miss (fb : Bool) : pm_pg fb n_X9_miss = P_X9_miss := rfl
theorem mt_X9_miss : pm_mt n_X9_miss = (yX9_miss, cX9_miss, 2, (.some FieldType.int)) := rfl
theorem pg_X9_wronged (fb : Bool) : pm_pg fb n_X9_wronged = P_X9_wronged := rfl
theorem mt_X9_wronged : pm_mt n_X9_wronged = (yX9_wronged, cX9_wronged, 6, (.some FieldType.int)) := rfl
theorem pg_X9_which (fb : Bool) : pm_pg fb n_X9_which = P_X9_which := rfl
theorem mt_X9_which : pm_mt n_X9_which = (yX9_which, cX9_which, 5, (.some FieldType.int)) := rfl
theorem pg_X9_offBy (fb : Bool) : pm_pg fb n_X9_offBy = P_X9_offBy := rfl
theorem mt_X9_offBy : pm_mt n_X9_offBy = (yX9_offBy, cX9_offBy, 3, (.some FieldType.int)) := rfl
theorem pg_X9_checks (fb : Bool) : pm_pg fb n_X9_checks = P_X9_checks := rfl
theorem mt_X9_checks : pm_mt n_X9_checks = (yX9_checks, cX9_checks, 10, (.some FieldType.int)) := rfl
theorem pg_X9_hours (fb : Bool) : pm_pg fb n_X9_hours = P_X9_hours := rfl
theorem mt_X9_hours : pm_mt n_X9_hours = (yX9_hours, cX9_hours, 3, (.some FieldType.int)) := rfl
theorem pg_X9_within (fb : Bool) : pm_pg fb n_X9_within = P_X9_within := rfl
theorem mt_X9_within : pm_mt n_X9_within = (yX9_within, cX9_within, 4, (.some FieldType.int)) := rfl
theorem pg_X9_leaning (fb : Bool) : pm_pg fb n_X9_leaning = P_X9_leaning := rfl
theorem mt_X9_leaning : pm_mt n_X9_leaning = (yX9_leaning, cX9_leaning, 3, (.some FieldType.int)) := rfl
theorem pg_X9_divisor (fb : Bool) : pm_pg fb n_X9_divisor = P_X9_divisor := rfl
theorem mt_X9_divisor : pm_mt n_X9_divisor = (yX9_divisor, cX9_divisor, 4, (.some FieldType.long)) := rfl
theorem pg_X9_findStraight (fb : Bool) : pm_pg fb n_X9_findStraight = P_X9_findStraight := rfl
theorem mt_X9_findStraight : pm_mt n_X9_findStraight = (yX9_findStraight, cX9_findStraight, 3, (.none : Option FieldType)) := rfl
theorem pg_X9_straight (fb : Bool) : pm_pg fb n_X9_straight = P_X9_straight := rfl
theorem mt_X9_straight : pm_mt n_X9_straight = (yX9_straight, cX9_straight, 2, (.some FieldType.long)) := rfl
theorem pg_X9_offIt (fb : Bool) : pm_pg fb n_X9_offIt = P_X9_offIt := rfl
theorem mt_X9_offIt : pm_mt n_X9_offIt = (yX9_offIt, cX9_offIt, 7, (.some FieldType.int)) := rfl
theorem pg_X9_nearest (fb : Bool) : pm_pg fb n_X9_nearest = P_X9_nearest := rfl
theorem mt_X9_nearest : pm_mt n_X9_nearest = (yX9_nearest, cX9_nearest, 7, (.some FieldType.int)) := rfl
theorem pg_X9_crosses (fb : Bool) : pm_pg fb n_X9_crosses = P_X9_crosses := rfl
theorem mt_X9_crosses : pm_mt n_X9_crosses = (yX9_crosses, cX9_crosses, 3, (.some FieldType.int)) := rfl
theorem pg_X9_treeOf (fb : Bool) : pm_pg fb n_X9_treeOf = P_X9_treeOf := rfl
theorem mt_X9_treeOf : pm_mt n_X9_treeOf = (yX9_treeOf, cX9_treeOf, 3, (.some FieldType.int)) := rfl
theorem pg_X9_tree (fb : Bool) : pm_pg fb n_X9_tree = P_X9_tree := rfl
theorem mt_X9_tree : pm_mt n_X9_tree = (yX9_tree, cX9_tree, 7, (.some FieldType.int)) := rfl
theorem pg_X9_treeIs (fb : Bool) : pm_pg fb n_X9_treeIs = P_X9_treeIs := rfl
theorem mt_X9_treeIs : pm_mt n_X9_treeIs = (yX9_treeIs, cX9_treeIs, 4, (.some FieldType.int)) := rfl
theorem pg_X9_dig (fb : Bool) : pm_pg fb n_X9_dig = P_X9_dig := rfl
theorem mt_X9_dig : pm_mt n_X9_dig = (yX9_dig, cX9_dig, 5, (.some FieldType.int)) := rfl
theorem pg_X9_sorts (fb : Bool) : pm_pg fb n_X9_sorts = P_X9_sorts := rfl
theorem mt_X9_sorts : pm_mt n_X9_sorts = (yX9_sorts, cX9_sorts, 4, (.some FieldType.int)) := rfl
theorem pg_X9_drawn (fb : Bool) : pm_pg fb n_X9_drawn = P_X9_drawn := rfl
theorem mt_X9_drawn : pm_mt n_X9_drawn = (yX9_drawn, cX9_drawn, 2, (.some FieldType.int)) := rfl
theorem pg_X9_waver (fb : Bool) : pm_pg fb n_X9_waver = P_X9_waver := rfl
theorem mt_X9_waver : pm_mt n_X9_waver = (yX9_waver, cX9_waver, 5, (.some FieldType.int)) := rfl
theorem pg_X9_still (fb : Bool) : pm_pg fb n_X9_still = P_X9_still := rfl
theorem mt_X9_still : pm_mt n_X9_still = (yX9_still, cX9_still, 3, (.some FieldType.int)) := rfl
theorem pg_X9_seed (fb : Bool) : pm_pg fb n_X9_seed = P_X9_seed := rfl
theorem mt_X9_seed : pm_mt n_X9_seed = (yX9_seed, cX9_seed, 2, (.some FieldType.int)) := rfl
theorem pg_X9_began (fb : Bool) : pm_pg fb n_X9_began = P_X9_began := rfl
theorem mt_X9_began : pm_mt n_X9_began = (yX9_began, cX9_began, 2, (.none : Option FieldType)) := rfl
theorem pg_X9_hasOwn (fb : Bool) : pm_pg fb n_X9_hasOwn = P_X9_hasOwn := rfl
theorem mt_X9_hasOwn : pm_mt n_X9_hasOwn = (yX9_hasOwn, cX9_hasOwn, 2, (.some FieldType.boolean)) := rfl
theorem pg_X9_voiced (fb : Bool) : pm_pg fb n_X9_voiced = P_X9_voiced := rfl
theorem mt_X9_voiced : pm_mt n_X9_voiced = (yX9_voiced, cX9_voiced, 3, (.some FieldType.int)) := rfl
theorem pg_X9_bodyFrom (fb : Bool) : pm_pg fb n_X9_bodyFrom = P_X9_bodyFrom := rfl
theorem mt_X9_bodyFrom : pm_mt n_X9_bodyFrom = (yX9_bodyFrom, cX9_bodyFrom, 5, (.some FieldType.int)) := rfl
theorem pg_X9_body (fb : Bool) : pm_pg fb n_X9_body = P_X9_body := rfl
theorem mt_X9_body : pm_mt n_X9_body = (yX9_body, cX9_body, 6, (.some FieldType.int)) := rfl
theorem pg_X9_voice (fb : Bool) : pm_pg fb n_X9_voice = P_X9_voice := rfl
theorem mt_X9_voice : pm_mt n_X9_voice = (yX9_voice, cX9_voice, 5, (.some FieldType.int)) := rfl
theorem pg_X9_body_ (fb : Bool) : pm_pg fb n_X9_body_ = P_X9_body_ := rfl
theorem mt_X9_body_ : pm_mt n_X9_body_ = (yX9_body_, cX9_body_, 2, (.some FieldType.int)) := rfl
theorem pg_X9_isSheet (fb : Bool) : pm_pg fb n_X9_isSheet = P_X9_isSheet := rfl
theorem mt_X9_isSheet : pm_mt n_X9_isSheet = (yX9_isSheet, cX9_isSheet, 1, (.some FieldType.boolean)) := rfl
theorem pg_X9_sheet (fb : Bool) : pm_pg fb n_X9_sheet = P_X9_sheet := rfl
theorem mt_X9_sheet : pm_mt n_X9_sheet = (yX9_sheet, cX9_sheet, 5, (.some FieldType.int)) := rfl
theorem pg_X9_put (fb : Bool) : pm_pg fb n_X9_put = P_X9_put := rfl
theorem mt_X9_put : pm_mt n_X9_put = (yX9_put, cX9_put, 4, (.some FieldType.int)) := rfl
theorem pg_X9_move (fb : Bool) : pm_pg fb n_X9_move = P_X9_move := rfl
theorem mt_X9_move : pm_mt n_X9_move = (yX9_move, cX9_move, 7, (.some FieldType.int)) := rfl
theorem pg_X9_judge (fb : Bool) : pm_pg fb n_X9_judge = P_X9_judge := rfl
theorem mt_X9_judge : pm_mt n_X9_judge = (yX9_judge, cX9_judge, 4, (.some FieldType.int)) := rfl
theorem pg_X9_even (fb : Bool) : pm_pg fb n_X9_even = P_X9_even := rfl
theorem mt_X9_even : pm_mt n_X9_even = (yX9_even, cX9_even, 10, (.some FieldType.int)) := rfl
theorem pg_X9_image (fb : Bool) : pm_pg fb n_X9_image = P_X9_image := rfl
theorem mt_X9_image : pm_mt n_X9_image = (yX9_image, cX9_image, 1, (.some FieldType.int)) := rfl
theorem pg_X9_restore (fb : Bool) : pm_pg fb n_X9_restore = P_X9_restore := rfl
theorem mt_X9_restore : pm_mt n_X9_restore = (yX9_restore, cX9_restore, 1, (.some FieldType.int)) := rfl
theorem pg_X9_tell (fb : Bool) : pm_pg fb n_X9_tell = P_X9_tell := rfl
theorem mt_X9_tell : pm_mt n_X9_tell = (yX9_tell, cX9_tell, 2, (.some FieldType.int)) := rfl
theorem pg_X9_check (fb : Bool) : pm_pg fb n_X9_check = P_X9_check := rfl
theorem mt_X9_check : pm_mt n_X9_check = (yX9_check, cX9_check, 3, (.some FieldType.int)) := rfl
theorem pg_X9_count (fb : Bool) : pm_pg fb n_X9_count = P_X9_count := rfl
theorem mt_X9_count : pm_mt n_X9_count = (yX9_count, cX9_count, 4, (.some FieldType.int)) := rfl
theorem pg_X9_told (fb : Bool) : pm_pg fb n_X9_told = P_X9_told := rfl
theorem mt_X9_told : pm_mt n_X9_told = (yX9_told, cX9_told, 2, (.some FieldType.int)) := rfl
theorem pg_J0_length_8abf5 (fb : Bool) : pm_pg fb n_J0_length_8abf5 = P_J0_length_8abf5 := rfl
theorem mt_J0_length_8abf5 : pm_mt n_J0_length_8abf5 = (yJ0_length_8abf5, cJ0_length_8abf5, 1, (.some FieldType.int)) := rfl
theorem pg_J0_charAt_5068e (fb : Bool) : pm_pg fb n_J0_charAt_5068e = P_J0_charAt_5068e := rfl
theorem mt_J0_charAt_5068e : pm_mt n_J0_charAt_5068e = (yJ0_charAt_5068e, cJ0_charAt_5068e, 2, (.some FieldType.char)) := rfl
theorem pg_J0_indexOf_0f7a4 (fb : Bool) : pm_pg fb n_J0_indexOf_0f7a4 = P_J0_indexOf_0f7a4 := rfl
theorem mt_J0_indexOf_0f7a4 : pm_mt n_J0_indexOf_0f7a4 = (yJ0_indexOf_0f7a4, cJ0_indexOf_0f7a4, 2, (.some FieldType.int)) := rfl
theorem pg_J0_indexOf_7cf53 (fb : Bool) : pm_pg fb n_J0_indexOf_7cf53 = P_J0_indexOf_7cf53 := rfl
theorem mt_J0_indexOf_7cf53 : pm_mt n_J0_indexOf_7cf53 = (yJ0_indexOf_7cf53, cJ0_indexOf_7cf53, 3, (.some FieldType.int)) := rfl
theorem pg_J0_coder_7d493 (fb : Bool) : pm_pg fb n_J0_coder_7d493 = P_J0_coder_7d493 := rfl
theorem mt_J0_coder_7d493 : pm_mt n_J0_coder_7d493 = (yJ0_coder_7d493, cJ0_coder_7d493, 1, (.some FieldType.byte)) := rfl
theorem pg_J0_isLatin1_aae02 (fb : Bool) : pm_pg fb n_J0_isLatin1_aae02 = P_J0_isLatin1_aae02 := rfl
theorem mt_J0_isLatin1_aae02 : pm_mt n_J0_isLatin1_aae02 = (yJ0_isLatin1_aae02, cJ0_isLatin1_aae02, 1, (.some FieldType.boolean)) := rfl
theorem pg_J0_checkIndex_df160 (fb : Bool) : pm_pg fb n_J0_checkIndex_df160 = P_J0_checkIndex_df160 fb := rfl
theorem mt_J0_checkIndex_df160 : pm_mt n_J0_checkIndex_df160 = (yJ0_checkIndex_df160, cJ0_checkIndex_df160, 2, (.none : Option FieldType)) := rfl
theorem pg_J1_charAt_3b067 (fb : Bool) : pm_pg fb n_J1_charAt_3b067 = P_J1_charAt_3b067 := rfl
theorem mt_J1_charAt_3b067 : pm_mt n_J1_charAt_3b067 = (yJ1_charAt_3b067, cJ1_charAt_3b067, 2, (.some FieldType.char)) := rfl
theorem pg_J1_canEncode_9a6ad (fb : Bool) : pm_pg fb n_J1_canEncode_9a6ad = P_J1_canEncode_9a6ad := rfl
theorem mt_J1_canEncode_9a6ad : pm_mt n_J1_canEncode_9a6ad = (yJ1_canEncode_9a6ad, cJ1_canEncode_9a6ad, 1, (.some FieldType.boolean)) := rfl
theorem pg_J1_indexOf_4cfef (fb : Bool) : pm_pg fb n_J1_indexOf_4cfef = P_J1_indexOf_4cfef := rfl
theorem mt_J1_indexOf_4cfef : pm_mt n_J1_indexOf_4cfef = (yJ1_indexOf_4cfef, cJ1_indexOf_4cfef, 4, (.some FieldType.int)) := rfl
theorem pg_J1_indexOfChar_4cfef (fb : Bool) : pm_pg fb n_J1_indexOfChar_4cfef = P_J1_indexOfChar_4cfef := rfl
theorem mt_J1_indexOfChar_4cfef : pm_mt n_J1_indexOfChar_4cfef = (yJ1_indexOfChar_4cfef, cJ1_indexOfChar_4cfef, 6, (.some FieldType.int)) := rfl
theorem pg_J3_checkIndex_8e157 (fb : Bool) : pm_pg fb n_J3_checkIndex_8e157 = P_J3_checkIndex_8e157 := rfl
theorem mt_J3_checkIndex_8e157 : pm_mt n_J3_checkIndex_8e157 = (yJ3_checkIndex_8e157, cJ3_checkIndex_8e157, 3, (.some FieldType.int)) := rfl
