theorem dX0_init_0 : decode cX0_init 0 = .ok (.aload_n 0, 1) := by decide +kernel
theorem dX0_init_1 : decode cX0_init 1 = .ok (.invokespecial 3, 3) := by decide +kernel
theorem dX0_init_4 : decode cX0_init 4 = .ok (.aload_n 0, 1) := by decide +kernel
theorem dX0_init_5 : decode cX0_init 5 = .ok (.bipush 60, 2) := by decide +kernel
theorem dX0_init_7 : decode cX0_init 7 = .ok (.newarray .int, 2) := by decide +kernel
theorem dX0_init_9 : decode cX0_init 9 = .ok (.putfield 9, 3) := by decide +kernel
theorem dX0_init_12 : decode cX0_init 12 = .ok (.aload_n 0, 1) := by decide +kernel
theorem dX0_init_13 : decode cX0_init 13 = .ok (.iconst 0, 1) := by decide +kernel
theorem dX0_init_14 : decode cX0_init 14 = .ok (.putfield 15, 3) := by decide +kernel
theorem dX0_init_17 : decode cX0_init 17 = .ok (.return_, 1) := by decide +kernel
theorem dX0_isTold_0 : decode cX0_isTold 0 = .ok (.aload_n 0, 1) := by decide +kernel
theorem dX0_isTold_1 : decode cX0_isTold 1 = .ok (.getfield 15, 3) := by decide +kernel
theorem dX0_isTold_4 : decode cX0_isTold 4 = .ok (.ifCond .le 7, 3) := by decide +kernel
theorem dX0_isTold_7 : decode cX0_isTold 7 = .ok (.iconst 1, 1) := by decide +kernel
theorem dX0_isTold_8 : decode cX0_isTold 8 = .ok (.goto 4, 3) := by decide +kernel
theorem dX0_isTold_11 : decode cX0_isTold 11 = .ok (.iconst 0, 1) := by decide +kernel
theorem dX0_isTold_12 : decode cX0_isTold 12 = .ok (.ireturn, 1) := by decide +kernel
theorem dX0_clear_0 : decode cX0_clear 0 = .ok (.aload_n 0, 1) := by decide +kernel
theorem dX0_clear_1 : decode cX0_clear 1 = .ok (.iconst 0, 1) := by decide +kernel
theorem dX0_clear_2 : decode cX0_clear 2 = .ok (.putfield 15, 3) := by decide +kernel
theorem dX0_clear_5 : decode cX0_clear 5 = .ok (.return_, 1) := by decide +kernel
theorem dX0_add_0 : decode cX0_add 0 = .ok (.aload_n 0, 1) := by decide +kernel
theorem dX0_add_1 : decode cX0_add 1 = .ok (.getfield 15, 3) := by decide +kernel
theorem dX0_add_4 : decode cX0_add 4 = .ok (.aload_n 0, 1) := by decide +kernel
theorem dX0_add_5 : decode cX0_add 5 = .ok (.getfield 9, 3) := by decide +kernel
theorem dX0_add_8 : decode cX0_add 8 = .ok (.arraylength, 1) := by decide +kernel
theorem dX0_add_9 : decode cX0_add 9 = .ok (.if_icmp .ge 23, 3) := by decide +kernel
theorem dX0_add_12 : decode cX0_add 12 = .ok (.aload_n 0, 1) := by decide +kernel
theorem dX0_add_13 : decode cX0_add 13 = .ok (.getfield 9, 3) := by decide +kernel
theorem dX0_add_16 : decode cX0_add 16 = .ok (.aload_n 0, 1) := by decide +kernel
theorem dX0_add_17 : decode cX0_add 17 = .ok (.getfield 15, 3) := by decide +kernel
theorem dX0_add_20 : decode cX0_add 20 = .ok (.iload_n 1, 1) := by decide +kernel
theorem dX0_add_21 : decode cX0_add 21 = .ok (.iastore, 1) := by decide +kernel
theorem dX0_add_22 : decode cX0_add 22 = .ok (.aload_n 0, 1) := by decide +kernel
theorem dX0_add_23 : decode cX0_add 23 = .ok (.dup, 1) := by decide +kernel
theorem dX0_add_24 : decode cX0_add 24 = .ok (.getfield 15, 3) := by decide +kernel
theorem dX0_add_27 : decode cX0_add 27 = .ok (.iconst 1, 1) := by decide +kernel
theorem dX0_add_28 : decode cX0_add 28 = .ok (.iadd, 1) := by decide +kernel
theorem dX0_add_29 : decode cX0_add 29 = .ok (.putfield 15, 3) := by decide +kernel
theorem dX0_add_32 : decode cX0_add 32 = .ok (.return_, 1) := by decide +kernel
theorem dX0_take_0 : decode cX0_take 0 = .ok (.aload_n 1, 1) := by decide +kernel
theorem dX0_take_1 : decode cX0_take 1 = .ok (.getfield 9, 3) := by decide +kernel
theorem dX0_take_4 : decode cX0_take 4 = .ok (.iconst 0, 1) := by decide +kernel
theorem dX0_take_5 : decode cX0_take 5 = .ok (.aload_n 0, 1) := by decide +kernel
theorem dX0_take_6 : decode cX0_take 6 = .ok (.getfield 9, 3) := by decide +kernel
theorem dX0_take_9 : decode cX0_take 9 = .ok (.iconst 0, 1) := by decide +kernel
theorem dX0_take_10 : decode cX0_take 10 = .ok (.aload_n 0, 1) := by decide +kernel
theorem dX0_take_11 : decode cX0_take 11 = .ok (.getfield 9, 3) := by decide +kernel
theorem dX0_take_14 : decode cX0_take 14 = .ok (.arraylength, 1) := by decide +kernel
theorem dX0_take_15 : decode cX0_take 15 = .ok (.invokestatic 19, 3) := by decide +kernel
theorem dX0_take_18 : decode cX0_take 18 = .ok (.aload_n 0, 1) := by decide +kernel
theorem dX0_take_19 : decode cX0_take 19 = .ok (.aload_n 1, 1) := by decide +kernel
theorem dX0_take_20 : decode cX0_take 20 = .ok (.getfield 15, 3) := by decide +kernel
theorem dX0_take_23 : decode cX0_take 23 = .ok (.putfield 15, 3) := by decide +kernel
theorem dX0_take_26 : decode cX0_take 26 = .ok (.return_, 1) := by decide +kernel
theorem dX0_workedOut_0 : decode cX0_workedOut 0 = .ok (.iconst 0, 1) := by decide +kernel
theorem dX0_workedOut_1 : decode cX0_workedOut 1 = .ok (.istore_n 3, 1) := by decide +kernel
theorem dX0_workedOut_2 : decode cX0_workedOut 2 = .ok (.iconst 0, 1) := by decide +kernel
theorem dX0_workedOut_3 : decode cX0_workedOut 3 = .ok (.istore 4, 2) := by decide +kernel
theorem dX0_workedOut_5 : decode cX0_workedOut 5 = .ok (.iload 4, 2) := by decide +kernel
theorem dX0_workedOut_7 : decode cX0_workedOut 7 = .ok (.aload_n 0, 1) := by decide +kernel
theorem dX0_workedOut_8 : decode cX0_workedOut 8 = .ok (.getfield 15, 3) := by decide +kernel
theorem dX0_workedOut_11 : decode cX0_workedOut 11 = .ok (.if_icmp .ge 131, 3) := by decide +kernel
theorem dX0_workedOut_14 : decode cX0_workedOut 14 = .ok (.aload_n 0, 1) := by decide +kernel
theorem dX0_workedOut_15 : decode cX0_workedOut 15 = .ok (.getfield 9, 3) := by decide +kernel
theorem dX0_workedOut_18 : decode cX0_workedOut 18 = .ok (.iload 4, 2) := by decide +kernel
theorem dX0_workedOut_20 : decode cX0_workedOut 20 = .ok (.iaload, 1) := by decide +kernel
theorem dX0_workedOut_21 : decode cX0_workedOut 21 = .ok (.istore 5, 2) := by decide +kernel
theorem dX0_workedOut_23 : decode cX0_workedOut 23 = .ok (.iload 5, 2) := by decide +kernel
theorem dX0_workedOut_25 : decode cX0_workedOut 25 = .ok (.sipush 20000, 3) := by decide +kernel
theorem dX0_workedOut_28 : decode cX0_workedOut 28 = .ok (.if_icmp .ge 41, 3) := by decide +kernel
theorem dX0_workedOut_31 : decode cX0_workedOut 31 = .ok (.iload_n 3, 1) := by decide +kernel
theorem dX0_workedOut_32 : decode cX0_workedOut 32 = .ok (.aload_n 2, 1) := by decide +kernel
theorem dX0_workedOut_33 : decode cX0_workedOut 33 = .ok (.arraylength, 1) := by decide +kernel
theorem dX0_workedOut_34 : decode cX0_workedOut 34 = .ok (.if_icmp .ge 35, 3) := by decide +kernel
theorem dX0_workedOut_37 : decode cX0_workedOut 37 = .ok (.aload_n 2, 1) := by decide +kernel
theorem dX0_workedOut_38 : decode cX0_workedOut 38 = .ok (.iload_n 3, 1) := by decide +kernel
theorem dX0_workedOut_39 : decode cX0_workedOut 39 = .ok (.iload 5, 2) := by decide +kernel
theorem dX0_workedOut_41 : decode cX0_workedOut 41 = .ok (.sipush 10000, 3) := by decide +kernel
theorem dX0_workedOut_44 : decode cX0_workedOut 44 = .ok (.if_icmp .ge 8, 3) := by decide +kernel
theorem dX0_workedOut_47 : decode cX0_workedOut 47 = .ok (.iload 5, 2) := by decide +kernel
theorem dX0_workedOut_49 : decode cX0_workedOut 49 = .ok (.goto 13, 3) := by decide +kernel
theorem dX0_workedOut_52 : decode cX0_workedOut 52 = .ok (.aload_n 1, 1) := by decide +kernel
theorem dX0_workedOut_53 : decode cX0_workedOut 53 = .ok (.iload 5, 2) := by decide +kernel
theorem dX0_workedOut_55 : decode cX0_workedOut 55 = .ok (.sipush 10000, 3) := by decide +kernel
theorem dX0_workedOut_58 : decode cX0_workedOut 58 = .ok (.isub, 1) := by decide +kernel
theorem dX0_workedOut_59 : decode cX0_workedOut 59 = .ok (.invokestatic 25, 3) := by decide +kernel
theorem dX0_workedOut_62 : decode cX0_workedOut 62 = .ok (.iastore, 1) := by decide +kernel
theorem dX0_workedOut_63 : decode cX0_workedOut 63 = .ok (.iinc 3 1, 3) := by decide +kernel
theorem dX0_workedOut_66 : decode cX0_workedOut 66 = .ok (.goto 70, 3) := by decide +kernel
theorem dX0_workedOut_69 : decode cX0_workedOut 69 = .ok (.iload 5, 2) := by decide +kernel
theorem dX0_workedOut_71 : decode cX0_workedOut 71 = .ok (.sipush 20033, 3) := by decide +kernel
theorem dX0_workedOut_74 : decode cX0_workedOut 74 = .ok (.if_icmp .ne 32, 3) := by decide +kernel
theorem dX0_workedOut_77 : decode cX0_workedOut 77 = .ok (.iload_n 3, 1) := by decide +kernel
theorem dX0_workedOut_78 : decode cX0_workedOut 78 = .ok (.iconst 1, 1) := by decide +kernel
theorem dX0_workedOut_79 : decode cX0_workedOut 79 = .ok (.if_icmp .lt 27, 3) := by decide +kernel
theorem dX0_workedOut_82 : decode cX0_workedOut 82 = .ok (.aload_n 2, 1) := by decide +kernel
theorem dX0_workedOut_83 : decode cX0_workedOut 83 = .ok (.iload_n 3, 1) := by decide +kernel
theorem dX0_workedOut_84 : decode cX0_workedOut 84 = .ok (.iconst 1, 1) := by decide +kernel
theorem dX0_workedOut_85 : decode cX0_workedOut 85 = .ok (.isub, 1) := by decide +kernel
theorem dX0_workedOut_86 : decode cX0_workedOut 86 = .ok (.aload_n 2, 1) := by decide +kernel
theorem dX0_workedOut_87 : decode cX0_workedOut 87 = .ok (.iload_n 3, 1) := by decide +kernel
theorem dX0_workedOut_88 : decode cX0_workedOut 88 = .ok (.iconst 1, 1) := by decide +kernel
theorem dX0_workedOut_89 : decode cX0_workedOut 89 = .ok (.isub, 1) := by decide +kernel
theorem dX0_workedOut_90 : decode cX0_workedOut 90 = .ok (.iaload, 1) := by decide +kernel
theorem dX0_workedOut_91 : decode cX0_workedOut 91 = .ok (.ifCond .ne 7, 3) := by decide +kernel
theorem dX0_workedOut_94 : decode cX0_workedOut 94 = .ok (.iconst 1, 1) := by decide +kernel
theorem dX0_workedOut_95 : decode cX0_workedOut 95 = .ok (.goto 4, 3) := by decide +kernel
theorem dX0_workedOut_98 : decode cX0_workedOut 98 = .ok (.iconst 0, 1) := by decide +kernel
theorem dX0_workedOut_99 : decode cX0_workedOut 99 = .ok (.invokestatic 29, 3) := by decide +kernel
theorem dX0_workedOut_102 : decode cX0_workedOut 102 = .ok (.iastore, 1) := by decide +kernel
theorem dX0_workedOut_103 : decode cX0_workedOut 103 = .ok (.goto 33, 3) := by decide +kernel
theorem dX0_workedOut_106 : decode cX0_workedOut 106 = .ok (.iload_n 3, 1) := by decide +kernel
theorem dX0_workedOut_107 : decode cX0_workedOut 107 = .ok (.iconst 2, 1) := by decide +kernel
theorem dX0_workedOut_108 : decode cX0_workedOut 108 = .ok (.if_icmp .lt 28, 3) := by decide +kernel
theorem dX0_workedOut_111 : decode cX0_workedOut 111 = .ok (.iinc 3 (-1), 3) := by decide +kernel
theorem dX0_workedOut_114 : decode cX0_workedOut 114 = .ok (.aload_n 2, 1) := by decide +kernel
theorem dX0_workedOut_115 : decode cX0_workedOut 115 = .ok (.iload_n 3, 1) := by decide +kernel
theorem dX0_workedOut_116 : decode cX0_workedOut 116 = .ok (.iconst 1, 1) := by decide +kernel
theorem dX0_workedOut_117 : decode cX0_workedOut 117 = .ok (.isub, 1) := by decide +kernel
theorem dX0_workedOut_118 : decode cX0_workedOut 118 = .ok (.iload 5, 2) := by decide +kernel
theorem dX0_workedOut_120 : decode cX0_workedOut 120 = .ok (.sipush 20000, 3) := by decide +kernel
theorem dX0_workedOut_123 : decode cX0_workedOut 123 = .ok (.isub, 1) := by decide +kernel
theorem dX0_workedOut_124 : decode cX0_workedOut 124 = .ok (.aload_n 2, 1) := by decide +kernel
theorem dX0_workedOut_125 : decode cX0_workedOut 125 = .ok (.iload_n 3, 1) := by decide +kernel
theorem dX0_workedOut_126 : decode cX0_workedOut 126 = .ok (.iconst 1, 1) := by decide +kernel
theorem dX0_workedOut_127 : decode cX0_workedOut 127 = .ok (.isub, 1) := by decide +kernel
theorem dX0_workedOut_128 : decode cX0_workedOut 128 = .ok (.iaload, 1) := by decide +kernel
theorem dX0_workedOut_129 : decode cX0_workedOut 129 = .ok (.aload_n 2, 1) := by decide +kernel
theorem dX0_workedOut_130 : decode cX0_workedOut 130 = .ok (.iload_n 3, 1) := by decide +kernel
theorem dX0_workedOut_131 : decode cX0_workedOut 131 = .ok (.iaload, 1) := by decide +kernel
theorem dX0_workedOut_132 : decode cX0_workedOut 132 = .ok (.invokestatic 33, 3) := by decide +kernel
theorem dX0_workedOut_135 : decode cX0_workedOut 135 = .ok (.iastore, 1) := by decide +kernel
theorem dX0_workedOut_136 : decode cX0_workedOut 136 = .ok (.iinc 4 1, 3) := by decide +kernel
theorem dX0_workedOut_139 : decode cX0_workedOut 139 = .ok (.goto (-134), 3) := by decide +kernel
theorem dX0_workedOut_142 : decode cX0_workedOut 142 = .ok (.iload_n 3, 1) := by decide +kernel
theorem dX0_workedOut_143 : decode cX0_workedOut 143 = .ok (.ifCond .le 9, 3) := by decide +kernel
theorem dX0_workedOut_146 : decode cX0_workedOut 146 = .ok (.aload_n 2, 1) := by decide +kernel
theorem dX0_workedOut_147 : decode cX0_workedOut 147 = .ok (.iconst 0, 1) := by decide +kernel
theorem dX0_workedOut_148 : decode cX0_workedOut 148 = .ok (.iaload, 1) := by decide +kernel
theorem dX0_workedOut_149 : decode cX0_workedOut 149 = .ok (.goto 4, 3) := by decide +kernel
theorem dX0_workedOut_152 : decode cX0_workedOut 152 = .ok (.iconst 0, 1) := by decide +kernel
theorem dX0_workedOut_153 : decode cX0_workedOut 153 = .ok (.ireturn, 1) := by decide +kernel
theorem dX0_named_0 : decode cX0_named 0 = .ok (.iload_n 1, 1) := by decide +kernel
theorem dX0_named_1 : decode cX0_named 1 = .ok (.iconst 0, 1) := by decide +kernel
theorem dX0_named_2 : decode cX0_named 2 = .ok (.aload_n 0, 1) := by decide +kernel
theorem dX0_named_3 : decode cX0_named 3 = .ok (.arraylength, 1) := by decide +kernel
theorem dX0_named_4 : decode cX0_named 4 = .ok (.iconst 1, 1) := by decide +kernel
theorem dX0_named_5 : decode cX0_named 5 = .ok (.isub, 1) := by decide +kernel
theorem dX0_named_6 : decode cX0_named 6 = .ok (.invokestatic 37, 3) := by decide +kernel
theorem dX0_named_9 : decode cX0_named 9 = .ok (.ifCond .eq 9, 3) := by decide +kernel
theorem dX0_named_12 : decode cX0_named 12 = .ok (.aload_n 0, 1) := by decide +kernel
theorem dX0_named_13 : decode cX0_named 13 = .ok (.iload_n 1, 1) := by decide +kernel
theorem dX0_named_14 : decode cX0_named 14 = .ok (.iaload, 1) := by decide +kernel
theorem dX0_named_15 : decode cX0_named 15 = .ok (.goto 4, 3) := by decide +kernel
theorem dX0_named_18 : decode cX0_named 18 = .ok (.iconst 0, 1) := by decide +kernel
theorem dX0_named_19 : decode cX0_named 19 = .ok (.ireturn, 1) := by decide +kernel
theorem dX0_joined_0 : decode cX0_joined 0 = .ok (.iload_n 0, 1) := by decide +kernel
theorem dX0_joined_1 : decode cX0_joined 1 = .ok (.lookupswitch 183 #[(38, 100), (42, 167), (43, 159), (45, 163), (47, 171), (60, 117), (61, 131), (62, 145), (124, 83)], 83) := by decide +kernel
theorem dX0_joined_84 : decode cX0_joined 84 = .ok (.iload_n 1, 1) := by decide +kernel
theorem dX0_joined_85 : decode cX0_joined 85 = .ok (.ifCond .ne 7, 3) := by decide +kernel
theorem dX0_joined_88 : decode cX0_joined 88 = .ok (.iload_n 2, 1) := by decide +kernel
theorem dX0_joined_89 : decode cX0_joined 89 = .ok (.ifCond .eq 7, 3) := by decide +kernel
theorem dX0_joined_92 : decode cX0_joined 92 = .ok (.iconst 1, 1) := by decide +kernel
theorem dX0_joined_93 : decode cX0_joined 93 = .ok (.goto 4, 3) := by decide +kernel
theorem dX0_joined_96 : decode cX0_joined 96 = .ok (.iconst 0, 1) := by decide +kernel
theorem dX0_joined_97 : decode cX0_joined 97 = .ok (.invokestatic 29, 3) := by decide +kernel
theorem dX0_joined_100 : decode cX0_joined 100 = .ok (.ireturn, 1) := by decide +kernel
theorem dX0_joined_101 : decode cX0_joined 101 = .ok (.iload_n 1, 1) := by decide +kernel
theorem dX0_joined_102 : decode cX0_joined 102 = .ok (.ifCond .eq 11, 3) := by decide +kernel
theorem dX0_joined_105 : decode cX0_joined 105 = .ok (.iload_n 2, 1) := by decide +kernel
theorem dX0_joined_106 : decode cX0_joined 106 = .ok (.ifCond .eq 7, 3) := by decide +kernel
theorem dX0_joined_109 : decode cX0_joined 109 = .ok (.iconst 1, 1) := by decide +kernel
theorem dX0_joined_110 : decode cX0_joined 110 = .ok (.goto 4, 3) := by decide +kernel
theorem dX0_joined_113 : decode cX0_joined 113 = .ok (.iconst 0, 1) := by decide +kernel
theorem dX0_joined_114 : decode cX0_joined 114 = .ok (.invokestatic 29, 3) := by decide +kernel
theorem dX0_joined_117 : decode cX0_joined 117 = .ok (.ireturn, 1) := by decide +kernel
theorem dX0_joined_118 : decode cX0_joined 118 = .ok (.iload_n 1, 1) := by decide +kernel
theorem dX0_joined_119 : decode cX0_joined 119 = .ok (.iload_n 2, 1) := by decide +kernel
theorem dX0_joined_120 : decode cX0_joined 120 = .ok (.if_icmp .ge 7, 3) := by decide +kernel
theorem dX0_joined_123 : decode cX0_joined 123 = .ok (.iconst 1, 1) := by decide +kernel
theorem dX0_joined_124 : decode cX0_joined 124 = .ok (.goto 4, 3) := by decide +kernel
theorem dX0_joined_127 : decode cX0_joined 127 = .ok (.iconst 0, 1) := by decide +kernel
theorem dX0_joined_128 : decode cX0_joined 128 = .ok (.invokestatic 29, 3) := by decide +kernel
theorem dX0_joined_131 : decode cX0_joined 131 = .ok (.ireturn, 1) := by decide +kernel
theorem dX0_joined_132 : decode cX0_joined 132 = .ok (.iload_n 1, 1) := by decide +kernel
theorem dX0_joined_133 : decode cX0_joined 133 = .ok (.iload_n 2, 1) := by decide +kernel
theorem dX0_joined_134 : decode cX0_joined 134 = .ok (.if_icmp .ne 7, 3) := by decide +kernel
theorem dX0_joined_137 : decode cX0_joined 137 = .ok (.iconst 1, 1) := by decide +kernel
theorem dX0_joined_138 : decode cX0_joined 138 = .ok (.goto 4, 3) := by decide +kernel
theorem dX0_joined_141 : decode cX0_joined 141 = .ok (.iconst 0, 1) := by decide +kernel
theorem dX0_joined_142 : decode cX0_joined 142 = .ok (.invokestatic 29, 3) := by decide +kernel
theorem dX0_joined_145 : decode cX0_joined 145 = .ok (.ireturn, 1) := by decide +kernel
theorem dX0_joined_146 : decode cX0_joined 146 = .ok (.iload_n 1, 1) := by decide +kernel
theorem dX0_joined_147 : decode cX0_joined 147 = .ok (.iload_n 2, 1) := by decide +kernel
theorem dX0_joined_148 : decode cX0_joined 148 = .ok (.if_icmp .le 7, 3) := by decide +kernel
theorem dX0_joined_151 : decode cX0_joined 151 = .ok (.iconst 1, 1) := by decide +kernel
theorem dX0_joined_152 : decode cX0_joined 152 = .ok (.goto 4, 3) := by decide +kernel
theorem dX0_joined_155 : decode cX0_joined 155 = .ok (.iconst 0, 1) := by decide +kernel
theorem dX0_joined_156 : decode cX0_joined 156 = .ok (.invokestatic 29, 3) := by decide +kernel
theorem dX0_joined_159 : decode cX0_joined 159 = .ok (.ireturn, 1) := by decide +kernel
theorem dX0_joined_160 : decode cX0_joined 160 = .ok (.iload_n 1, 1) := by decide +kernel
theorem dX0_joined_161 : decode cX0_joined 161 = .ok (.iload_n 2, 1) := by decide +kernel
theorem dX0_joined_162 : decode cX0_joined 162 = .ok (.iadd, 1) := by decide +kernel
theorem dX0_joined_163 : decode cX0_joined 163 = .ok (.ireturn, 1) := by decide +kernel
theorem dX0_joined_164 : decode cX0_joined 164 = .ok (.iload_n 1, 1) := by decide +kernel
theorem dX0_joined_165 : decode cX0_joined 165 = .ok (.iload_n 2, 1) := by decide +kernel
theorem dX0_joined_166 : decode cX0_joined 166 = .ok (.isub, 1) := by decide +kernel
theorem dX0_joined_167 : decode cX0_joined 167 = .ok (.ireturn, 1) := by decide +kernel
theorem dX0_joined_168 : decode cX0_joined 168 = .ok (.iload_n 1, 1) := by decide +kernel
theorem dX0_joined_169 : decode cX0_joined 169 = .ok (.iload_n 2, 1) := by decide +kernel
theorem dX0_joined_170 : decode cX0_joined 170 = .ok (.imul, 1) := by decide +kernel
theorem dX0_joined_171 : decode cX0_joined 171 = .ok (.ireturn, 1) := by decide +kernel
theorem dX0_joined_172 : decode cX0_joined 172 = .ok (.iload_n 2, 1) := by decide +kernel
theorem dX0_joined_173 : decode cX0_joined 173 = .ok (.ifCond .ne 7, 3) := by decide +kernel
theorem dX0_joined_176 : decode cX0_joined 176 = .ok (.iconst 0, 1) := by decide +kernel
theorem dX0_joined_177 : decode cX0_joined 177 = .ok (.goto 6, 3) := by decide +kernel
theorem dX0_joined_180 : decode cX0_joined 180 = .ok (.iload_n 1, 1) := by decide +kernel
theorem dX0_joined_181 : decode cX0_joined 181 = .ok (.iload_n 2, 1) := by decide +kernel
theorem dX0_joined_182 : decode cX0_joined 182 = .ok (.idiv, 1) := by decide +kernel
theorem dX0_joined_183 : decode cX0_joined 183 = .ok (.ireturn, 1) := by decide +kernel
theorem dX0_joined_184 : decode cX0_joined 184 = .ok (.iload_n 2, 1) := by decide +kernel
theorem dX0_joined_185 : decode cX0_joined 185 = .ok (.ifCond .ne 7, 3) := by decide +kernel
theorem dX0_joined_188 : decode cX0_joined 188 = .ok (.iconst 0, 1) := by decide +kernel
theorem dX0_joined_189 : decode cX0_joined 189 = .ok (.goto 6, 3) := by decide +kernel
theorem dX0_joined_192 : decode cX0_joined 192 = .ok (.iload_n 1, 1) := by decide +kernel
theorem dX0_joined_193 : decode cX0_joined 193 = .ok (.iload_n 2, 1) := by decide +kernel
theorem dX0_joined_194 : decode cX0_joined 194 = .ok (.irem, 1) := by decide +kernel
theorem dX0_joined_195 : decode cX0_joined 195 = .ok (.ireturn, 1) := by decide +kernel
theorem dX0_truth_0 : decode cX0_truth 0 = .ok (.iload_n 0, 1) := by decide +kernel
theorem dX0_truth_1 : decode cX0_truth 1 = .ok (.ifCond .eq 7, 3) := by decide +kernel
theorem dX0_truth_4 : decode cX0_truth 4 = .ok (.iconst 1, 1) := by decide +kernel
theorem dX0_truth_5 : decode cX0_truth 5 = .ok (.goto 4, 3) := by decide +kernel
theorem dX0_truth_8 : decode cX0_truth 8 = .ok (.iconst 0, 1) := by decide +kernel
theorem dX0_truth_9 : decode cX0_truth 9 = .ok (.ireturn, 1) := by decide +kernel
theorem dX1_init_0 : decode cX1_init 0 = .ok (.aload_n 0, 1) := by decide +kernel
theorem dX1_init_1 : decode cX1_init 1 = .ok (.invokespecial 3, 3) := by decide +kernel
theorem dX1_init_4 : decode cX1_init 4 = .ok (.aload_n 0, 1) := by decide +kernel
theorem dX1_init_5 : decode cX1_init 5 = .ok (.new 9, 3) := by decide +kernel
theorem dX1_init_8 : decode cX1_init 8 = .ok (.dup, 1) := by decide +kernel
theorem dX1_init_9 : decode cX1_init 9 = .ok (.invokespecial 11, 3) := by decide +kernel
theorem dX1_init_12 : decode cX1_init 12 = .ok (.putfield 12, 3) := by decide +kernel
theorem dX1_init_15 : decode cX1_init 15 = .ok (.aload_n 0, 1) := by decide +kernel
theorem dX1_init_16 : decode cX1_init 16 = .ok (.new 18, 3) := by decide +kernel
theorem dX1_init_19 : decode cX1_init 19 = .ok (.dup, 1) := by decide +kernel
theorem dX1_init_20 : decode cX1_init 20 = .ok (.iconst 1, 1) := by decide +kernel
theorem dX1_init_21 : decode cX1_init 21 = .ok (.bipush 60, 2) := by decide +kernel
theorem dX1_init_23 : decode cX1_init 23 = .ok (.invokespecial 20, 3) := by decide +kernel
theorem dX1_init_26 : decode cX1_init 26 = .ok (.putfield 23, 3) := by decide +kernel
theorem dX1_init_29 : decode cX1_init 29 = .ok (.aload_n 0, 1) := by decide +kernel
theorem dX1_init_30 : decode cX1_init 30 = .ok (.ldc 27, 2) := by decide +kernel
theorem dX1_init_32 : decode cX1_init 32 = .ok (.putfield 29, 3) := by decide +kernel
theorem dX1_init_35 : decode cX1_init 35 = .ok (.aload_n 0, 1) := by decide +kernel
theorem dX1_init_36 : decode cX1_init 36 = .ok (.iconst 0, 1) := by decide +kernel
theorem dX1_init_37 : decode cX1_init 37 = .ok (.putfield 33, 3) := by decide +kernel
theorem dX1_init_40 : decode cX1_init 40 = .ok (.aload_n 0, 1) := by decide +kernel
theorem dX1_init_41 : decode cX1_init 41 = .ok (.iconst 0, 1) := by decide +kernel
theorem dX1_init_42 : decode cX1_init 42 = .ok (.putfield 37, 3) := by decide +kernel
theorem dX1_init_45 : decode cX1_init 45 = .ok (.aload_n 0, 1) := by decide +kernel
theorem dX1_init_46 : decode cX1_init 46 = .ok (.iconst 0, 1) := by decide +kernel
theorem dX1_init_47 : decode cX1_init 47 = .ok (.putfield 40, 3) := by decide +kernel
theorem dX1_init_50 : decode cX1_init 50 = .ok (.return_, 1) := by decide +kernel
theorem dX1_faultOf_0 : decode cX1_faultOf 0 = .ok (.aload_n 0, 1) := by decide +kernel
theorem dX1_faultOf_1 : decode cX1_faultOf 1 = .ok (.getfield 23, 3) := by decide +kernel
theorem dX1_faultOf_4 : decode cX1_faultOf 4 = .ok (.aload_n 1, 1) := by decide +kernel
theorem dX1_faultOf_5 : decode cX1_faultOf 5 = .ok (.invokevirtual 44, 3) := by decide +kernel
theorem dX1_faultOf_8 : decode cX1_faultOf 8 = .ok (.aload_n 0, 1) := by decide +kernel
theorem dX1_faultOf_9 : decode cX1_faultOf 9 = .ok (.aload_n 2, 1) := by decide +kernel
theorem dX1_faultOf_10 : decode cX1_faultOf 10 = .ok (.putfield 29, 3) := by decide +kernel
theorem dX1_faultOf_13 : decode cX1_faultOf 13 = .ok (.aload_n 0, 1) := by decide +kernel
theorem dX1_faultOf_14 : decode cX1_faultOf 14 = .ok (.getfield 12, 3) := by decide +kernel
theorem dX1_faultOf_17 : decode cX1_faultOf 17 = .ok (.invokevirtual 48, 3) := by decide +kernel
theorem dX1_faultOf_20 : decode cX1_faultOf 20 = .ok (.aload_n 0, 1) := by decide +kernel
theorem dX1_faultOf_21 : decode cX1_faultOf 21 = .ok (.iconst 0, 1) := by decide +kernel
theorem dX1_faultOf_22 : decode cX1_faultOf 22 = .ok (.putfield 33, 3) := by decide +kernel
theorem dX1_faultOf_25 : decode cX1_faultOf 25 = .ok (.aload_n 0, 1) := by decide +kernel
theorem dX1_faultOf_26 : decode cX1_faultOf 26 = .ok (.iconst 0, 1) := by decide +kernel
theorem dX1_faultOf_27 : decode cX1_faultOf 27 = .ok (.putfield 37, 3) := by decide +kernel
theorem dX1_faultOf_30 : decode cX1_faultOf 30 = .ok (.aload_n 0, 1) := by decide +kernel
theorem dX1_faultOf_31 : decode cX1_faultOf 31 = .ok (.iconst 0, 1) := by decide +kernel
theorem dX1_faultOf_32 : decode cX1_faultOf 32 = .ok (.putfield 40, 3) := by decide +kernel
theorem dX1_faultOf_35 : decode cX1_faultOf 35 = .ok (.aload_n 0, 1) := by decide +kernel
theorem dX1_faultOf_36 : decode cX1_faultOf 36 = .ok (.invokevirtual 51, 3) := by decide +kernel
theorem dX1_faultOf_39 : decode cX1_faultOf 39 = .ok (.aload_n 0, 1) := by decide +kernel
theorem dX1_faultOf_40 : decode cX1_faultOf 40 = .ok (.getfield 40, 3) := by decide +kernel
theorem dX1_faultOf_43 : decode cX1_faultOf 43 = .ok (.ifCond .ne 17, 3) := by decide +kernel
theorem dX1_faultOf_46 : decode cX1_faultOf 46 = .ok (.aload_n 0, 1) := by decide +kernel
theorem dX1_faultOf_47 : decode cX1_faultOf 47 = .ok (.getfield 33, 3) := by decide +kernel
theorem dX1_faultOf_50 : decode cX1_faultOf 50 = .ok (.aload_n 0, 1) := by decide +kernel
theorem dX1_faultOf_51 : decode cX1_faultOf 51 = .ok (.getfield 23, 3) := by decide +kernel
theorem dX1_faultOf_54 : decode cX1_faultOf 54 = .ok (.invokevirtual 54, 3) := by decide +kernel
theorem dX1_faultOf_57 : decode cX1_faultOf 57 = .ok (.if_icmp .ge 10, 3) := by decide +kernel
theorem dX1_faultOf_60 : decode cX1_faultOf 60 = .ok (.aload_n 0, 1) := by decide +kernel
theorem dX1_faultOf_61 : decode cX1_faultOf 61 = .ok (.getfield 33, 3) := by decide +kernel
theorem dX1_faultOf_64 : decode cX1_faultOf 64 = .ok (.goto 4, 3) := by decide +kernel
theorem dX1_faultOf_67 : decode cX1_faultOf 67 = .ok (.iconst (-1), 1) := by decide +kernel
theorem dX1_faultOf_68 : decode cX1_faultOf 68 = .ok (.ireturn, 1) := by decide +kernel
theorem dX1_readT_0 : decode cX1_readT 0 = .ok (.aload_n 0, 1) := by decide +kernel
theorem dX1_readT_1 : decode cX1_readT 1 = .ok (.invokevirtual 58, 3) := by decide +kernel
theorem dX1_readT_4 : decode cX1_readT 4 = .ok (.iconst 0, 1) := by decide +kernel
theorem dX1_readT_5 : decode cX1_readT 5 = .ok (.istore_n 1, 1) := by decide +kernel
theorem dX1_readT_6 : decode cX1_readT 6 = .ok (.iload_n 1, 1) := by decide +kernel
theorem dX1_readT_7 : decode cX1_readT 7 = .ok (.bipush 60, 2) := by decide +kernel
theorem dX1_readT_9 : decode cX1_readT 9 = .ok (.if_icmp .ge 42, 3) := by decide +kernel
theorem dX1_readT_12 : decode cX1_readT 12 = .ok (.aload_n 0, 1) := by decide +kernel
theorem dX1_readT_13 : decode cX1_readT 13 = .ok (.bipush 124, 2) := by decide +kernel
theorem dX1_readT_15 : decode cX1_readT 15 = .ok (.invokevirtual 61, 3) := by decide +kernel
theorem dX1_readT_18 : decode cX1_readT 18 = .ok (.ifCond .eq 33, 3) := by decide +kernel
theorem dX1_readT_21 : decode cX1_readT 21 = .ok (.aload_n 0, 1) := by decide +kernel
theorem dX1_readT_22 : decode cX1_readT 22 = .ok (.dup, 1) := by decide +kernel
theorem dX1_readT_23 : decode cX1_readT 23 = .ok (.getfield 33, 3) := by decide +kernel
theorem dX1_readT_26 : decode cX1_readT 26 = .ok (.iconst 1, 1) := by decide +kernel
theorem dX1_readT_27 : decode cX1_readT 27 = .ok (.iadd, 1) := by decide +kernel
theorem dX1_readT_28 : decode cX1_readT 28 = .ok (.putfield 33, 3) := by decide +kernel
theorem dX1_readT_31 : decode cX1_readT 31 = .ok (.aload_n 0, 1) := by decide +kernel
theorem dX1_readT_32 : decode cX1_readT 32 = .ok (.invokevirtual 58, 3) := by decide +kernel
theorem dX1_readT_35 : decode cX1_readT 35 = .ok (.aload_n 0, 1) := by decide +kernel
theorem dX1_readT_36 : decode cX1_readT 36 = .ok (.getfield 12, 3) := by decide +kernel
theorem dX1_readT_39 : decode cX1_readT 39 = .ok (.sipush 20124, 3) := by decide +kernel
theorem dX1_readT_42 : decode cX1_readT 42 = .ok (.invokevirtual 65, 3) := by decide +kernel
theorem dX1_readT_45 : decode cX1_readT 45 = .ok (.iinc 1 1, 3) := by decide +kernel
theorem dX1_readT_48 : decode cX1_readT 48 = .ok (.goto (-42), 3) := by decide +kernel
theorem dX1_readT_51 : decode cX1_readT 51 = .ok (.return_, 1) := by decide +kernel
theorem dX1_readA_0 : decode cX1_readA 0 = .ok (.aload_n 0, 1) := by decide +kernel
theorem dX1_readA_1 : decode cX1_readA 1 = .ok (.invokevirtual 69, 3) := by decide +kernel
theorem dX1_readA_4 : decode cX1_readA 4 = .ok (.iconst 0, 1) := by decide +kernel
theorem dX1_readA_5 : decode cX1_readA 5 = .ok (.istore_n 1, 1) := by decide +kernel
theorem dX1_readA_6 : decode cX1_readA 6 = .ok (.iload_n 1, 1) := by decide +kernel
theorem dX1_readA_7 : decode cX1_readA 7 = .ok (.bipush 60, 2) := by decide +kernel
theorem dX1_readA_9 : decode cX1_readA 9 = .ok (.if_icmp .ge 42, 3) := by decide +kernel
theorem dX1_readA_12 : decode cX1_readA 12 = .ok (.aload_n 0, 1) := by decide +kernel
theorem dX1_readA_13 : decode cX1_readA 13 = .ok (.bipush 38, 2) := by decide +kernel
theorem dX1_readA_15 : decode cX1_readA 15 = .ok (.invokevirtual 61, 3) := by decide +kernel
theorem dX1_readA_18 : decode cX1_readA 18 = .ok (.ifCond .eq 33, 3) := by decide +kernel
theorem dX1_readA_21 : decode cX1_readA 21 = .ok (.aload_n 0, 1) := by decide +kernel
theorem dX1_readA_22 : decode cX1_readA 22 = .ok (.dup, 1) := by decide +kernel
theorem dX1_readA_23 : decode cX1_readA 23 = .ok (.getfield 33, 3) := by decide +kernel
theorem dX1_readA_26 : decode cX1_readA 26 = .ok (.iconst 1, 1) := by decide +kernel
theorem dX1_readA_27 : decode cX1_readA 27 = .ok (.iadd, 1) := by decide +kernel
theorem dX1_readA_28 : decode cX1_readA 28 = .ok (.putfield 33, 3) := by decide +kernel
theorem dX1_readA_31 : decode cX1_readA 31 = .ok (.aload_n 0, 1) := by decide +kernel
theorem dX1_readA_32 : decode cX1_readA 32 = .ok (.invokevirtual 69, 3) := by decide +kernel
theorem dX1_readA_35 : decode cX1_readA 35 = .ok (.aload_n 0, 1) := by decide +kernel
theorem dX1_readA_36 : decode cX1_readA 36 = .ok (.getfield 12, 3) := by decide +kernel
theorem dX1_readA_39 : decode cX1_readA 39 = .ok (.sipush 20038, 3) := by decide +kernel
theorem dX1_readA_42 : decode cX1_readA 42 = .ok (.invokevirtual 65, 3) := by decide +kernel
theorem dX1_readA_45 : decode cX1_readA 45 = .ok (.iinc 1 1, 3) := by decide +kernel
theorem dX1_readA_48 : decode cX1_readA 48 = .ok (.goto (-42), 3) := by decide +kernel
theorem dX1_readA_51 : decode cX1_readA 51 = .ok (.return_, 1) := by decide +kernel
theorem dX1_readB_0 : decode cX1_readB 0 = .ok (.aload_n 0, 1) := by decide +kernel
theorem dX1_readB_1 : decode cX1_readB 1 = .ok (.invokevirtual 72, 3) := by decide +kernel
theorem dX1_readB_4 : decode cX1_readB 4 = .ok (.aload_n 0, 1) := by decide +kernel
theorem dX1_readB_5 : decode cX1_readB 5 = .ok (.bipush 60, 2) := by decide +kernel
theorem dX1_readB_7 : decode cX1_readB 7 = .ok (.invokevirtual 61, 3) := by decide +kernel
theorem dX1_readB_10 : decode cX1_readB 10 = .ok (.ifCond .ne 21, 3) := by decide +kernel
theorem dX1_readB_13 : decode cX1_readB 13 = .ok (.aload_n 0, 1) := by decide +kernel
theorem dX1_readB_14 : decode cX1_readB 14 = .ok (.bipush 61, 2) := by decide +kernel
theorem dX1_readB_16 : decode cX1_readB 16 = .ok (.invokevirtual 61, 3) := by decide +kernel
theorem dX1_readB_19 : decode cX1_readB 19 = .ok (.ifCond .ne 12, 3) := by decide +kernel
theorem dX1_readB_22 : decode cX1_readB 22 = .ok (.aload_n 0, 1) := by decide +kernel
theorem dX1_readB_23 : decode cX1_readB 23 = .ok (.bipush 62, 2) := by decide +kernel
theorem dX1_readB_25 : decode cX1_readB 25 = .ok (.invokevirtual 61, 3) := by decide +kernel
theorem dX1_readB_28 : decode cX1_readB 28 = .ok (.ifCond .eq 34, 3) := by decide +kernel
theorem dX1_readB_31 : decode cX1_readB 31 = .ok (.aload_n 0, 1) := by decide +kernel
theorem dX1_readB_32 : decode cX1_readB 32 = .ok (.invokevirtual 75, 3) := by decide +kernel
theorem dX1_readB_35 : decode cX1_readB 35 = .ok (.istore_n 1, 1) := by decide +kernel
theorem dX1_readB_36 : decode cX1_readB 36 = .ok (.aload_n 0, 1) := by decide +kernel
theorem dX1_readB_37 : decode cX1_readB 37 = .ok (.dup, 1) := by decide +kernel
theorem dX1_readB_38 : decode cX1_readB 38 = .ok (.getfield 33, 3) := by decide +kernel
theorem dX1_readB_41 : decode cX1_readB 41 = .ok (.iconst 1, 1) := by decide +kernel
theorem dX1_readB_42 : decode cX1_readB 42 = .ok (.iadd, 1) := by decide +kernel
theorem dX1_readB_43 : decode cX1_readB 43 = .ok (.putfield 33, 3) := by decide +kernel
theorem dX1_readB_46 : decode cX1_readB 46 = .ok (.aload_n 0, 1) := by decide +kernel
theorem dX1_readB_47 : decode cX1_readB 47 = .ok (.invokevirtual 72, 3) := by decide +kernel
theorem dX1_readB_50 : decode cX1_readB 50 = .ok (.aload_n 0, 1) := by decide +kernel
theorem dX1_readB_51 : decode cX1_readB 51 = .ok (.getfield 12, 3) := by decide +kernel
theorem dX1_readB_54 : decode cX1_readB 54 = .ok (.sipush 20000, 3) := by decide +kernel
theorem dX1_readB_57 : decode cX1_readB 57 = .ok (.iload_n 1, 1) := by decide +kernel
theorem dX1_readB_58 : decode cX1_readB 58 = .ok (.iadd, 1) := by decide +kernel
theorem dX1_readB_59 : decode cX1_readB 59 = .ok (.invokevirtual 65, 3) := by decide +kernel
theorem dX1_readB_62 : decode cX1_readB 62 = .ok (.return_, 1) := by decide +kernel
theorem dX1_readS_0 : decode cX1_readS 0 = .ok (.aload_n 0, 1) := by decide +kernel
theorem dX1_readS_1 : decode cX1_readS 1 = .ok (.invokevirtual 78, 3) := by decide +kernel
theorem dX1_readS_4 : decode cX1_readS 4 = .ok (.iconst 0, 1) := by decide +kernel
theorem dX1_readS_5 : decode cX1_readS 5 = .ok (.istore_n 1, 1) := by decide +kernel
theorem dX1_readS_6 : decode cX1_readS 6 = .ok (.iload_n 1, 1) := by decide +kernel
theorem dX1_readS_7 : decode cX1_readS 7 = .ok (.bipush 60, 2) := by decide +kernel
theorem dX1_readS_9 : decode cX1_readS 9 = .ok (.if_icmp .ge 58, 3) := by decide +kernel
theorem dX1_readS_12 : decode cX1_readS 12 = .ok (.aload_n 0, 1) := by decide +kernel
theorem dX1_readS_13 : decode cX1_readS 13 = .ok (.bipush 43, 2) := by decide +kernel
theorem dX1_readS_15 : decode cX1_readS 15 = .ok (.invokevirtual 61, 3) := by decide +kernel
theorem dX1_readS_18 : decode cX1_readS 18 = .ok (.ifCond .ne 12, 3) := by decide +kernel
theorem dX1_readS_21 : decode cX1_readS 21 = .ok (.aload_n 0, 1) := by decide +kernel
theorem dX1_readS_22 : decode cX1_readS 22 = .ok (.bipush 45, 2) := by decide +kernel
theorem dX1_readS_24 : decode cX1_readS 24 = .ok (.invokevirtual 61, 3) := by decide +kernel
theorem dX1_readS_27 : decode cX1_readS 27 = .ok (.ifCond .eq 40, 3) := by decide +kernel
theorem dX1_readS_30 : decode cX1_readS 30 = .ok (.aload_n 0, 1) := by decide +kernel
theorem dX1_readS_31 : decode cX1_readS 31 = .ok (.invokevirtual 75, 3) := by decide +kernel
theorem dX1_readS_34 : decode cX1_readS 34 = .ok (.istore_n 2, 1) := by decide +kernel
theorem dX1_readS_35 : decode cX1_readS 35 = .ok (.aload_n 0, 1) := by decide +kernel
theorem dX1_readS_36 : decode cX1_readS 36 = .ok (.dup, 1) := by decide +kernel
theorem dX1_readS_37 : decode cX1_readS 37 = .ok (.getfield 33, 3) := by decide +kernel
theorem dX1_readS_40 : decode cX1_readS 40 = .ok (.iconst 1, 1) := by decide +kernel
theorem dX1_readS_41 : decode cX1_readS 41 = .ok (.iadd, 1) := by decide +kernel
theorem dX1_readS_42 : decode cX1_readS 42 = .ok (.putfield 33, 3) := by decide +kernel
theorem dX1_readS_45 : decode cX1_readS 45 = .ok (.aload_n 0, 1) := by decide +kernel
theorem dX1_readS_46 : decode cX1_readS 46 = .ok (.invokevirtual 78, 3) := by decide +kernel
theorem dX1_readS_49 : decode cX1_readS 49 = .ok (.aload_n 0, 1) := by decide +kernel
theorem dX1_readS_50 : decode cX1_readS 50 = .ok (.getfield 12, 3) := by decide +kernel
theorem dX1_readS_53 : decode cX1_readS 53 = .ok (.sipush 20000, 3) := by decide +kernel
theorem dX1_readS_56 : decode cX1_readS 56 = .ok (.iload_n 2, 1) := by decide +kernel
theorem dX1_readS_57 : decode cX1_readS 57 = .ok (.iadd, 1) := by decide +kernel
theorem dX1_readS_58 : decode cX1_readS 58 = .ok (.invokevirtual 65, 3) := by decide +kernel
theorem dX1_readS_61 : decode cX1_readS 61 = .ok (.iinc 1 1, 3) := by decide +kernel
theorem dX1_readS_64 : decode cX1_readS 64 = .ok (.goto (-58), 3) := by decide +kernel
theorem dX1_readS_67 : decode cX1_readS 67 = .ok (.return_, 1) := by decide +kernel
theorem dX1_readP_0 : decode cX1_readP 0 = .ok (.aload_n 0, 1) := by decide +kernel
theorem dX1_readP_1 : decode cX1_readP 1 = .ok (.invokevirtual 81, 3) := by decide +kernel
theorem dX1_readP_4 : decode cX1_readP 4 = .ok (.iconst 0, 1) := by decide +kernel
theorem dX1_readP_5 : decode cX1_readP 5 = .ok (.istore_n 1, 1) := by decide +kernel
theorem dX1_readP_6 : decode cX1_readP 6 = .ok (.iload_n 1, 1) := by decide +kernel
theorem dX1_readP_7 : decode cX1_readP 7 = .ok (.bipush 60, 2) := by decide +kernel
theorem dX1_readP_9 : decode cX1_readP 9 = .ok (.if_icmp .ge 67, 3) := by decide +kernel
theorem dX1_readP_12 : decode cX1_readP 12 = .ok (.aload_n 0, 1) := by decide +kernel
theorem dX1_readP_13 : decode cX1_readP 13 = .ok (.bipush 42, 2) := by decide +kernel
theorem dX1_readP_15 : decode cX1_readP 15 = .ok (.invokevirtual 61, 3) := by decide +kernel
theorem dX1_readP_18 : decode cX1_readP 18 = .ok (.ifCond .ne 21, 3) := by decide +kernel
theorem dX1_readP_21 : decode cX1_readP 21 = .ok (.aload_n 0, 1) := by decide +kernel
theorem dX1_readP_22 : decode cX1_readP 22 = .ok (.bipush 47, 2) := by decide +kernel
theorem dX1_readP_24 : decode cX1_readP 24 = .ok (.invokevirtual 61, 3) := by decide +kernel
theorem dX1_readP_27 : decode cX1_readP 27 = .ok (.ifCond .ne 12, 3) := by decide +kernel
theorem dX1_readP_30 : decode cX1_readP 30 = .ok (.aload_n 0, 1) := by decide +kernel
theorem dX1_readP_31 : decode cX1_readP 31 = .ok (.bipush 37, 2) := by decide +kernel
theorem dX1_readP_33 : decode cX1_readP 33 = .ok (.invokevirtual 61, 3) := by decide +kernel
theorem dX1_readP_36 : decode cX1_readP 36 = .ok (.ifCond .eq 40, 3) := by decide +kernel
theorem dX1_readP_39 : decode cX1_readP 39 = .ok (.aload_n 0, 1) := by decide +kernel
theorem dX1_readP_40 : decode cX1_readP 40 = .ok (.invokevirtual 75, 3) := by decide +kernel
theorem dX1_readP_43 : decode cX1_readP 43 = .ok (.istore_n 2, 1) := by decide +kernel
theorem dX1_readP_44 : decode cX1_readP 44 = .ok (.aload_n 0, 1) := by decide +kernel
theorem dX1_readP_45 : decode cX1_readP 45 = .ok (.dup, 1) := by decide +kernel
theorem dX1_readP_46 : decode cX1_readP 46 = .ok (.getfield 33, 3) := by decide +kernel
theorem dX1_readP_49 : decode cX1_readP 49 = .ok (.iconst 1, 1) := by decide +kernel
theorem dX1_readP_50 : decode cX1_readP 50 = .ok (.iadd, 1) := by decide +kernel
theorem dX1_readP_51 : decode cX1_readP 51 = .ok (.putfield 33, 3) := by decide +kernel
theorem dX1_readP_54 : decode cX1_readP 54 = .ok (.aload_n 0, 1) := by decide +kernel
theorem dX1_readP_55 : decode cX1_readP 55 = .ok (.invokevirtual 81, 3) := by decide +kernel
theorem dX1_readP_58 : decode cX1_readP 58 = .ok (.aload_n 0, 1) := by decide +kernel
theorem dX1_readP_59 : decode cX1_readP 59 = .ok (.getfield 12, 3) := by decide +kernel
theorem dX1_readP_62 : decode cX1_readP 62 = .ok (.sipush 20000, 3) := by decide +kernel
theorem dX1_readP_65 : decode cX1_readP 65 = .ok (.iload_n 2, 1) := by decide +kernel
theorem dX1_readP_66 : decode cX1_readP 66 = .ok (.iadd, 1) := by decide +kernel
theorem dX1_readP_67 : decode cX1_readP 67 = .ok (.invokevirtual 65, 3) := by decide +kernel
theorem dX1_readP_70 : decode cX1_readP 70 = .ok (.iinc 1 1, 3) := by decide +kernel
theorem dX1_readP_73 : decode cX1_readP 73 = .ok (.goto (-67), 3) := by decide +kernel
theorem dX1_readP_76 : decode cX1_readP 76 = .ok (.return_, 1) := by decide +kernel
theorem dX1_readQ_0 : decode cX1_readQ 0 = .ok (.aload_n 0, 1) := by decide +kernel
theorem dX1_readQ_1 : decode cX1_readQ 1 = .ok (.invokevirtual 75, 3) := by decide +kernel
theorem dX1_readQ_4 : decode cX1_readQ 4 = .ok (.istore_n 1, 1) := by decide +kernel
theorem dX1_readQ_5 : decode cX1_readQ 5 = .ok (.iload_n 1, 1) := by decide +kernel
theorem dX1_readQ_6 : decode cX1_readQ 6 = .ok (.invokestatic 84, 3) := by decide +kernel
theorem dX1_readQ_9 : decode cX1_readQ 9 = .ok (.ifCond .eq 10, 3) := by decide +kernel
theorem dX1_readQ_12 : decode cX1_readQ 12 = .ok (.aload_n 0, 1) := by decide +kernel
theorem dX1_readQ_13 : decode cX1_readQ 13 = .ok (.invokevirtual 87, 3) := by decide +kernel
theorem dX1_readQ_16 : decode cX1_readQ 16 = .ok (.goto 196, 3) := by decide +kernel
theorem dX1_readQ_19 : decode cX1_readQ 19 = .ok (.aload_n 0, 1) := by decide +kernel
theorem dX1_readQ_20 : decode cX1_readQ 20 = .ok (.iload_n 1, 1) := by decide +kernel
theorem dX1_readQ_21 : decode cX1_readQ 21 = .ok (.invokevirtual 90, 3) := by decide +kernel
theorem dX1_readQ_24 : decode cX1_readQ 24 = .ok (.ifCond .lt 32, 3) := by decide +kernel
theorem dX1_readQ_27 : decode cX1_readQ 27 = .ok (.aload_n 0, 1) := by decide +kernel
theorem dX1_readQ_28 : decode cX1_readQ 28 = .ok (.getfield 12, 3) := by decide +kernel
theorem dX1_readQ_31 : decode cX1_readQ 31 = .ok (.sipush 10000, 3) := by decide +kernel
theorem dX1_readQ_34 : decode cX1_readQ 34 = .ok (.aload_n 0, 1) := by decide +kernel
theorem dX1_readQ_35 : decode cX1_readQ 35 = .ok (.iload_n 1, 1) := by decide +kernel
theorem dX1_readQ_36 : decode cX1_readQ 36 = .ok (.invokevirtual 90, 3) := by decide +kernel
theorem dX1_readQ_39 : decode cX1_readQ 39 = .ok (.iadd, 1) := by decide +kernel
theorem dX1_readQ_40 : decode cX1_readQ 40 = .ok (.invokevirtual 65, 3) := by decide +kernel
theorem dX1_readQ_43 : decode cX1_readQ 43 = .ok (.aload_n 0, 1) := by decide +kernel
theorem dX1_readQ_44 : decode cX1_readQ 44 = .ok (.dup, 1) := by decide +kernel
theorem dX1_readQ_45 : decode cX1_readQ 45 = .ok (.getfield 33, 3) := by decide +kernel
theorem dX1_readQ_48 : decode cX1_readQ 48 = .ok (.iconst 1, 1) := by decide +kernel
theorem dX1_readQ_49 : decode cX1_readQ 49 = .ok (.iadd, 1) := by decide +kernel
theorem dX1_readQ_50 : decode cX1_readQ 50 = .ok (.putfield 33, 3) := by decide +kernel
theorem dX1_readQ_53 : decode cX1_readQ 53 = .ok (.goto 159, 3) := by decide +kernel
theorem dX1_readQ_56 : decode cX1_readQ 56 = .ok (.iload_n 1, 1) := by decide +kernel
theorem dX1_readQ_57 : decode cX1_readQ 57 = .ok (.bipush 33, 2) := by decide +kernel
theorem dX1_readQ_59 : decode cX1_readQ 59 = .ok (.if_icmp .ne 58, 3) := by decide +kernel
theorem dX1_readQ_62 : decode cX1_readQ 62 = .ok (.aload_n 0, 1) := by decide +kernel
theorem dX1_readQ_63 : decode cX1_readQ 63 = .ok (.getfield 37, 3) := by decide +kernel
theorem dX1_readQ_66 : decode cX1_readQ 66 = .ok (.iconst 5, 1) := by decide +kernel
theorem dX1_readQ_67 : decode cX1_readQ 67 = .ok (.if_icmp .ge 50, 3) := by decide +kernel
theorem dX1_readQ_70 : decode cX1_readQ 70 = .ok (.aload_n 0, 1) := by decide +kernel
theorem dX1_readQ_71 : decode cX1_readQ 71 = .ok (.dup, 1) := by decide +kernel
theorem dX1_readQ_72 : decode cX1_readQ 72 = .ok (.getfield 37, 3) := by decide +kernel
theorem dX1_readQ_75 : decode cX1_readQ 75 = .ok (.iconst 1, 1) := by decide +kernel
theorem dX1_readQ_76 : decode cX1_readQ 76 = .ok (.iadd, 1) := by decide +kernel
theorem dX1_readQ_77 : decode cX1_readQ 77 = .ok (.putfield 37, 3) := by decide +kernel
theorem dX1_readQ_80 : decode cX1_readQ 80 = .ok (.aload_n 0, 1) := by decide +kernel
theorem dX1_readQ_81 : decode cX1_readQ 81 = .ok (.dup, 1) := by decide +kernel
theorem dX1_readQ_82 : decode cX1_readQ 82 = .ok (.getfield 33, 3) := by decide +kernel
theorem dX1_readQ_85 : decode cX1_readQ 85 = .ok (.iconst 1, 1) := by decide +kernel
theorem dX1_readQ_86 : decode cX1_readQ 86 = .ok (.iadd, 1) := by decide +kernel
theorem dX1_readQ_87 : decode cX1_readQ 87 = .ok (.putfield 33, 3) := by decide +kernel
theorem dX1_readQ_90 : decode cX1_readQ 90 = .ok (.aload_n 0, 1) := by decide +kernel
theorem dX1_readQ_91 : decode cX1_readQ 91 = .ok (.invokevirtual 81, 3) := by decide +kernel
theorem dX1_readQ_94 : decode cX1_readQ 94 = .ok (.aload_n 0, 1) := by decide +kernel
theorem dX1_readQ_95 : decode cX1_readQ 95 = .ok (.dup, 1) := by decide +kernel
theorem dX1_readQ_96 : decode cX1_readQ 96 = .ok (.getfield 37, 3) := by decide +kernel
theorem dX1_readQ_99 : decode cX1_readQ 99 = .ok (.iconst 1, 1) := by decide +kernel
theorem dX1_readQ_100 : decode cX1_readQ 100 = .ok (.isub, 1) := by decide +kernel
theorem dX1_readQ_101 : decode cX1_readQ 101 = .ok (.putfield 37, 3) := by decide +kernel
theorem dX1_readQ_104 : decode cX1_readQ 104 = .ok (.aload_n 0, 1) := by decide +kernel
theorem dX1_readQ_105 : decode cX1_readQ 105 = .ok (.getfield 12, 3) := by decide +kernel
theorem dX1_readQ_108 : decode cX1_readQ 108 = .ok (.sipush 20033, 3) := by decide +kernel
theorem dX1_readQ_111 : decode cX1_readQ 111 = .ok (.invokevirtual 65, 3) := by decide +kernel
theorem dX1_readQ_114 : decode cX1_readQ 114 = .ok (.goto 98, 3) := by decide +kernel
theorem dX1_readQ_117 : decode cX1_readQ 117 = .ok (.iload_n 1, 1) := by decide +kernel
theorem dX1_readQ_118 : decode cX1_readQ 118 = .ok (.bipush 40, 2) := by decide +kernel
theorem dX1_readQ_120 : decode cX1_readQ 120 = .ok (.if_icmp .ne 87, 3) := by decide +kernel
theorem dX1_readQ_123 : decode cX1_readQ 123 = .ok (.aload_n 0, 1) := by decide +kernel
theorem dX1_readQ_124 : decode cX1_readQ 124 = .ok (.getfield 37, 3) := by decide +kernel
theorem dX1_readQ_127 : decode cX1_readQ 127 = .ok (.iconst 5, 1) := by decide +kernel
theorem dX1_readQ_128 : decode cX1_readQ 128 = .ok (.if_icmp .ge 79, 3) := by decide +kernel
theorem dX1_readQ_131 : decode cX1_readQ 131 = .ok (.aload_n 0, 1) := by decide +kernel
theorem dX1_readQ_132 : decode cX1_readQ 132 = .ok (.dup, 1) := by decide +kernel
theorem dX1_readQ_133 : decode cX1_readQ 133 = .ok (.getfield 37, 3) := by decide +kernel
theorem dX1_readQ_136 : decode cX1_readQ 136 = .ok (.iconst 1, 1) := by decide +kernel
theorem dX1_readQ_137 : decode cX1_readQ 137 = .ok (.iadd, 1) := by decide +kernel
theorem dX1_readQ_138 : decode cX1_readQ 138 = .ok (.putfield 37, 3) := by decide +kernel
theorem dX1_readQ_141 : decode cX1_readQ 141 = .ok (.aload_n 0, 1) := by decide +kernel
theorem dX1_readQ_142 : decode cX1_readQ 142 = .ok (.dup, 1) := by decide +kernel
theorem dX1_readQ_143 : decode cX1_readQ 143 = .ok (.getfield 33, 3) := by decide +kernel
theorem dX1_readQ_146 : decode cX1_readQ 146 = .ok (.iconst 1, 1) := by decide +kernel
theorem dX1_readQ_147 : decode cX1_readQ 147 = .ok (.iadd, 1) := by decide +kernel
theorem dX1_readQ_148 : decode cX1_readQ 148 = .ok (.putfield 33, 3) := by decide +kernel
theorem dX1_readQ_151 : decode cX1_readQ 151 = .ok (.aload_n 0, 1) := by decide +kernel
theorem dX1_readQ_152 : decode cX1_readQ 152 = .ok (.invokevirtual 51, 3) := by decide +kernel
theorem dX1_readQ_155 : decode cX1_readQ 155 = .ok (.aload_n 0, 1) := by decide +kernel
theorem dX1_readQ_156 : decode cX1_readQ 156 = .ok (.dup, 1) := by decide +kernel
theorem dX1_readQ_157 : decode cX1_readQ 157 = .ok (.getfield 37, 3) := by decide +kernel
theorem dX1_readQ_160 : decode cX1_readQ 160 = .ok (.iconst 1, 1) := by decide +kernel
theorem dX1_readQ_161 : decode cX1_readQ 161 = .ok (.isub, 1) := by decide +kernel
theorem dX1_readQ_162 : decode cX1_readQ 162 = .ok (.putfield 37, 3) := by decide +kernel
theorem dX1_readQ_165 : decode cX1_readQ 165 = .ok (.aload_n 0, 1) := by decide +kernel
theorem dX1_readQ_166 : decode cX1_readQ 166 = .ok (.aload_n 0, 1) := by decide +kernel
theorem dX1_readQ_167 : decode cX1_readQ 167 = .ok (.bipush 41, 2) := by decide +kernel
theorem dX1_readQ_169 : decode cX1_readQ 169 = .ok (.invokevirtual 61, 3) := by decide +kernel
theorem dX1_readQ_172 : decode cX1_readQ 172 = .ok (.ifCond .ne 7, 3) := by decide +kernel
theorem dX1_readQ_175 : decode cX1_readQ 175 = .ok (.iconst 1, 1) := by decide +kernel
theorem dX1_readQ_176 : decode cX1_readQ 176 = .ok (.goto 4, 3) := by decide +kernel
theorem dX1_readQ_179 : decode cX1_readQ 179 = .ok (.iconst 0, 1) := by decide +kernel
theorem dX1_readQ_180 : decode cX1_readQ 180 = .ok (.putfield 40, 3) := by decide +kernel
theorem dX1_readQ_183 : decode cX1_readQ 183 = .ok (.aload_n 0, 1) := by decide +kernel
theorem dX1_readQ_184 : decode cX1_readQ 184 = .ok (.dup, 1) := by decide +kernel
theorem dX1_readQ_185 : decode cX1_readQ 185 = .ok (.getfield 33, 3) := by decide +kernel
theorem dX1_readQ_188 : decode cX1_readQ 188 = .ok (.aload_n 0, 1) := by decide +kernel
theorem dX1_readQ_189 : decode cX1_readQ 189 = .ok (.getfield 40, 3) := by decide +kernel
theorem dX1_readQ_192 : decode cX1_readQ 192 = .ok (.ifCond .eq 7, 3) := by decide +kernel
theorem dX1_readQ_195 : decode cX1_readQ 195 = .ok (.iconst 0, 1) := by decide +kernel
theorem dX1_readQ_196 : decode cX1_readQ 196 = .ok (.goto 4, 3) := by decide +kernel
theorem dX1_readQ_199 : decode cX1_readQ 199 = .ok (.iconst 1, 1) := by decide +kernel
theorem dX1_readQ_200 : decode cX1_readQ 200 = .ok (.iadd, 1) := by decide +kernel
theorem dX1_readQ_201 : decode cX1_readQ 201 = .ok (.putfield 33, 3) := by decide +kernel
theorem dX1_readQ_204 : decode cX1_readQ 204 = .ok (.goto 8, 3) := by decide +kernel
theorem dX1_readQ_207 : decode cX1_readQ 207 = .ok (.aload_n 0, 1) := by decide +kernel
theorem dX1_readQ_208 : decode cX1_readQ 208 = .ok (.iconst 1, 1) := by decide +kernel
theorem dX1_readQ_209 : decode cX1_readQ 209 = .ok (.putfield 40, 3) := by decide +kernel
theorem dX1_readQ_212 : decode cX1_readQ 212 = .ok (.return_, 1) := by decide +kernel
theorem dX1_readNumber_0 : decode cX1_readNumber 0 = .ok (.iconst 0, 1) := by decide +kernel
theorem dX1_readNumber_1 : decode cX1_readNumber 1 = .ok (.istore_n 1, 1) := by decide +kernel
theorem dX1_readNumber_2 : decode cX1_readNumber 2 = .ok (.iconst 0, 1) := by decide +kernel
theorem dX1_readNumber_3 : decode cX1_readNumber 3 = .ok (.istore_n 2, 1) := by decide +kernel
theorem dX1_readNumber_4 : decode cX1_readNumber 4 = .ok (.iload_n 2, 1) := by decide +kernel
theorem dX1_readNumber_5 : decode cX1_readNumber 5 = .ok (.iconst 4, 1) := by decide +kernel
theorem dX1_readNumber_6 : decode cX1_readNumber 6 = .ok (.if_icmp .ge 42, 3) := by decide +kernel
theorem dX1_readNumber_9 : decode cX1_readNumber 9 = .ok (.aload_n 0, 1) := by decide +kernel
theorem dX1_readNumber_10 : decode cX1_readNumber 10 = .ok (.invokevirtual 75, 3) := by decide +kernel
theorem dX1_readNumber_13 : decode cX1_readNumber 13 = .ok (.invokestatic 84, 3) := by decide +kernel
theorem dX1_readNumber_16 : decode cX1_readNumber 16 = .ok (.ifCond .eq 32, 3) := by decide +kernel
theorem dX1_readNumber_19 : decode cX1_readNumber 19 = .ok (.bipush 10, 2) := by decide +kernel
theorem dX1_readNumber_21 : decode cX1_readNumber 21 = .ok (.iload_n 1, 1) := by decide +kernel
theorem dX1_readNumber_22 : decode cX1_readNumber 22 = .ok (.imul, 1) := by decide +kernel
theorem dX1_readNumber_23 : decode cX1_readNumber 23 = .ok (.aload_n 0, 1) := by decide +kernel
theorem dX1_readNumber_24 : decode cX1_readNumber 24 = .ok (.invokevirtual 75, 3) := by decide +kernel
theorem dX1_readNumber_27 : decode cX1_readNumber 27 = .ok (.iadd, 1) := by decide +kernel
theorem dX1_readNumber_28 : decode cX1_readNumber 28 = .ok (.bipush 48, 2) := by decide +kernel
theorem dX1_readNumber_30 : decode cX1_readNumber 30 = .ok (.isub, 1) := by decide +kernel
theorem dX1_readNumber_31 : decode cX1_readNumber 31 = .ok (.istore_n 1, 1) := by decide +kernel
theorem dX1_readNumber_32 : decode cX1_readNumber 32 = .ok (.aload_n 0, 1) := by decide +kernel
theorem dX1_readNumber_33 : decode cX1_readNumber 33 = .ok (.dup, 1) := by decide +kernel
theorem dX1_readNumber_34 : decode cX1_readNumber 34 = .ok (.getfield 33, 3) := by decide +kernel
theorem dX1_readNumber_37 : decode cX1_readNumber 37 = .ok (.iconst 1, 1) := by decide +kernel
theorem dX1_readNumber_38 : decode cX1_readNumber 38 = .ok (.iadd, 1) := by decide +kernel
theorem dX1_readNumber_39 : decode cX1_readNumber 39 = .ok (.putfield 33, 3) := by decide +kernel
theorem dX1_readNumber_42 : decode cX1_readNumber 42 = .ok (.iinc 2 1, 3) := by decide +kernel
theorem dX1_readNumber_45 : decode cX1_readNumber 45 = .ok (.goto (-41), 3) := by decide +kernel
theorem dX1_readNumber_48 : decode cX1_readNumber 48 = .ok (.aload_n 0, 1) := by decide +kernel
theorem dX1_readNumber_49 : decode cX1_readNumber 49 = .ok (.getfield 12, 3) := by decide +kernel
theorem dX1_readNumber_52 : decode cX1_readNumber 52 = .ok (.iload_n 1, 1) := by decide +kernel
theorem dX1_readNumber_53 : decode cX1_readNumber 53 = .ok (.invokevirtual 65, 3) := by decide +kernel
theorem dX1_readNumber_56 : decode cX1_readNumber 56 = .ok (.return_, 1) := by decide +kernel
theorem dX1_nameOf_0 : decode cX1_nameOf 0 = .ok (.iload_n 1, 1) := by decide +kernel
theorem dX1_nameOf_1 : decode cX1_nameOf 1 = .ok (.iconst 0, 1) := by decide +kernel
theorem dX1_nameOf_2 : decode cX1_nameOf 2 = .ok (.sipush 255, 3) := by decide +kernel
theorem dX1_nameOf_5 : decode cX1_nameOf 5 = .ok (.invokestatic 94, 3) := by decide +kernel
theorem dX1_nameOf_8 : decode cX1_nameOf 8 = .ok (.ifCond .eq 15, 3) := by decide +kernel
theorem dX1_nameOf_11 : decode cX1_nameOf 11 = .ok (.aload_n 0, 1) := by decide +kernel
theorem dX1_nameOf_12 : decode cX1_nameOf 12 = .ok (.getfield 29, 3) := by decide +kernel
theorem dX1_nameOf_15 : decode cX1_nameOf 15 = .ok (.iload_n 1, 1) := by decide +kernel
theorem dX1_nameOf_16 : decode cX1_nameOf 16 = .ok (.i2c, 1) := by decide +kernel
theorem dX1_nameOf_17 : decode cX1_nameOf 17 = .ok (.invokevirtual 98, 3) := by decide +kernel
theorem dX1_nameOf_20 : decode cX1_nameOf 20 = .ok (.goto 4, 3) := by decide +kernel
theorem dX1_nameOf_23 : decode cX1_nameOf 23 = .ok (.iconst (-1), 1) := by decide +kernel
theorem dX1_nameOf_24 : decode cX1_nameOf 24 = .ok (.ireturn, 1) := by decide +kernel
theorem dX1_next_0 : decode cX1_next 0 = .ok (.aload_n 0, 1) := by decide +kernel
theorem dX1_next_1 : decode cX1_next 1 = .ok (.getfield 33, 3) := by decide +kernel
theorem dX1_next_4 : decode cX1_next 4 = .ok (.aload_n 0, 1) := by decide +kernel
theorem dX1_next_5 : decode cX1_next 5 = .ok (.getfield 23, 3) := by decide +kernel
theorem dX1_next_8 : decode cX1_next 8 = .ok (.invokevirtual 54, 3) := by decide +kernel
theorem dX1_next_11 : decode cX1_next 11 = .ok (.if_icmp .ge 18, 3) := by decide +kernel
theorem dX1_next_14 : decode cX1_next 14 = .ok (.aload_n 0, 1) := by decide +kernel
theorem dX1_next_15 : decode cX1_next 15 = .ok (.getfield 23, 3) := by decide +kernel
theorem dX1_next_18 : decode cX1_next 18 = .ok (.iconst 0, 1) := by decide +kernel
theorem dX1_next_19 : decode cX1_next 19 = .ok (.aload_n 0, 1) := by decide +kernel
theorem dX1_next_20 : decode cX1_next 20 = .ok (.getfield 33, 3) := by decide +kernel
theorem dX1_next_23 : decode cX1_next 23 = .ok (.invokevirtual 103, 3) := by decide +kernel
theorem dX1_next_26 : decode cX1_next 26 = .ok (.goto 4, 3) := by decide +kernel
theorem dX1_next_29 : decode cX1_next 29 = .ok (.iconst (-1), 1) := by decide +kernel
theorem dX1_next_30 : decode cX1_next 30 = .ok (.ireturn, 1) := by decide +kernel
theorem dX1_isNext_0 : decode cX1_isNext 0 = .ok (.aload_n 0, 1) := by decide +kernel
theorem dX1_isNext_1 : decode cX1_isNext 1 = .ok (.getfield 40, 3) := by decide +kernel
theorem dX1_isNext_4 : decode cX1_isNext 4 = .ok (.ifCond .ne 15, 3) := by decide +kernel
theorem dX1_isNext_7 : decode cX1_isNext 7 = .ok (.aload_n 0, 1) := by decide +kernel
theorem dX1_isNext_8 : decode cX1_isNext 8 = .ok (.invokevirtual 75, 3) := by decide +kernel
theorem dX1_isNext_11 : decode cX1_isNext 11 = .ok (.iload_n 1, 1) := by decide +kernel
theorem dX1_isNext_12 : decode cX1_isNext 12 = .ok (.if_icmp .ne 7, 3) := by decide +kernel
theorem dX1_isNext_15 : decode cX1_isNext 15 = .ok (.iconst 1, 1) := by decide +kernel
theorem dX1_isNext_16 : decode cX1_isNext 16 = .ok (.goto 4, 3) := by decide +kernel
theorem dX1_isNext_19 : decode cX1_isNext 19 = .ok (.iconst 0, 1) := by decide +kernel
theorem dX1_isNext_20 : decode cX1_isNext 20 = .ok (.ireturn, 1) := by decide +kernel
theorem dX1_isDigit_0 : decode cX1_isDigit 0 = .ok (.iload_n 0, 1) := by decide +kernel
theorem dX1_isDigit_1 : decode cX1_isDigit 1 = .ok (.bipush 48, 2) := by decide +kernel
theorem dX1_isDigit_3 : decode cX1_isDigit 3 = .ok (.bipush 57, 2) := by decide +kernel
theorem dX1_isDigit_5 : decode cX1_isDigit 5 = .ok (.invokestatic 94, 3) := by decide +kernel
theorem dX1_isDigit_8 : decode cX1_isDigit 8 = .ok (.ireturn, 1) := by decide +kernel
theorem dX2_init_0 : decode cX2_init 0 = .ok (.aload_n 0, 1) := by decide +kernel
theorem dX2_init_1 : decode cX2_init 1 = .ok (.invokespecial 3, 3) := by decide +kernel
theorem dX2_init_4 : decode cX2_init 4 = .ok (.aload_n 0, 1) := by decide +kernel
theorem dX2_init_5 : decode cX2_init 5 = .ok (.bipush 24, 2) := by decide +kernel
theorem dX2_init_7 : decode cX2_init 7 = .ok (.newarray .int, 2) := by decide +kernel
theorem dX2_init_9 : decode cX2_init 9 = .ok (.putfield 9, 3) := by decide +kernel
theorem dX2_init_12 : decode cX2_init 12 = .ok (.aload_n 0, 1) := by decide +kernel
theorem dX2_init_13 : decode cX2_init 13 = .ok (.iconst 0, 1) := by decide +kernel
theorem dX2_init_14 : decode cX2_init 14 = .ok (.putfield 15, 3) := by decide +kernel
theorem dX2_init_17 : decode cX2_init 17 = .ok (.aload_n 0, 1) := by decide +kernel
theorem dX2_init_18 : decode cX2_init 18 = .ok (.iconst 0, 1) := by decide +kernel
theorem dX2_init_19 : decode cX2_init 19 = .ok (.putfield 19, 3) := by decide +kernel
theorem dX2_init_22 : decode cX2_init 22 = .ok (.return_, 1) := by decide +kernel
theorem dX2_isMissing_0 : decode cX2_isMissing 0 = .ok (.aload_n 0, 1) := by decide +kernel
theorem dX2_isMissing_1 : decode cX2_isMissing 1 = .ok (.getfield 15, 3) := by decide +kernel
theorem dX2_isMissing_4 : decode cX2_isMissing 4 = .ok (.ifCond .ne 7, 3) := by decide +kernel
theorem dX2_isMissing_7 : decode cX2_isMissing 7 = .ok (.iconst 1, 1) := by decide +kernel
theorem dX2_isMissing_8 : decode cX2_isMissing 8 = .ok (.goto 4, 3) := by decide +kernel
theorem dX2_isMissing_11 : decode cX2_isMissing 11 = .ok (.iconst 0, 1) := by decide +kernel
theorem dX2_isMissing_12 : decode cX2_isMissing 12 = .ok (.ireturn, 1) := by decide +kernel
theorem dX2_lay_0 : decode cX2_lay 0 = .ok (.aload_n 0, 1) := by decide +kernel
theorem dX2_lay_1 : decode cX2_lay 1 = .ok (.iload_n 1, 1) := by decide +kernel
theorem dX2_lay_2 : decode cX2_lay 2 = .ok (.putfield 15, 3) := by decide +kernel
theorem dX2_lay_5 : decode cX2_lay 5 = .ok (.aload_n 0, 1) := by decide +kernel
theorem dX2_lay_6 : decode cX2_lay 6 = .ok (.iload_n 2, 1) := by decide +kernel
theorem dX2_lay_7 : decode cX2_lay 7 = .ok (.bipush 24, 2) := by decide +kernel
theorem dX2_lay_9 : decode cX2_lay 9 = .ok (.invokestatic 22, 3) := by decide +kernel
theorem dX2_lay_12 : decode cX2_lay 12 = .ok (.putfield 19, 3) := by decide +kernel
theorem dX2_lay_15 : decode cX2_lay 15 = .ok (.iconst 0, 1) := by decide +kernel
theorem dX2_lay_16 : decode cX2_lay 16 = .ok (.istore_n 3, 1) := by decide +kernel
theorem dX2_lay_17 : decode cX2_lay 17 = .ok (.iload_n 3, 1) := by decide +kernel
theorem dX2_lay_18 : decode cX2_lay 18 = .ok (.bipush 24, 2) := by decide +kernel
theorem dX2_lay_20 : decode cX2_lay 20 = .ok (.if_icmp .ge 16, 3) := by decide +kernel
theorem dX2_lay_23 : decode cX2_lay 23 = .ok (.aload_n 0, 1) := by decide +kernel
theorem dX2_lay_24 : decode cX2_lay 24 = .ok (.getfield 9, 3) := by decide +kernel
theorem dX2_lay_27 : decode cX2_lay 27 = .ok (.iload_n 3, 1) := by decide +kernel
theorem dX2_lay_28 : decode cX2_lay 28 = .ok (.iconst 0, 1) := by decide +kernel
theorem dX2_lay_29 : decode cX2_lay 29 = .ok (.iastore, 1) := by decide +kernel
theorem dX2_lay_30 : decode cX2_lay 30 = .ok (.iinc 3 1, 3) := by decide +kernel
theorem dX2_lay_33 : decode cX2_lay 33 = .ok (.goto (-16), 3) := by decide +kernel
theorem dX2_lay_36 : decode cX2_lay 36 = .ok (.return_, 1) := by decide +kernel
theorem dX2_stand_0 : decode cX2_stand 0 = .ok (.iload_n 1, 1) := by decide +kernel
theorem dX2_stand_1 : decode cX2_stand 1 = .ok (.ifCond .lt 29, 3) := by decide +kernel
theorem dX2_stand_4 : decode cX2_stand 4 = .ok (.iload_n 2, 1) := by decide +kernel
theorem dX2_stand_5 : decode cX2_stand 5 = .ok (.ifCond .lt 25, 3) := by decide +kernel
theorem dX2_stand_8 : decode cX2_stand 8 = .ok (.iload_n 1, 1) := by decide +kernel
theorem dX2_stand_9 : decode cX2_stand 9 = .ok (.aload_n 0, 1) := by decide +kernel
theorem dX2_stand_10 : decode cX2_stand 10 = .ok (.getfield 19, 3) := by decide +kernel
theorem dX2_stand_13 : decode cX2_stand 13 = .ok (.if_icmp .gt 17, 3) := by decide +kernel
theorem dX2_stand_16 : decode cX2_stand 16 = .ok (.iload_n 2, 1) := by decide +kernel
theorem dX2_stand_17 : decode cX2_stand 17 = .ok (.aload_n 0, 1) := by decide +kernel
theorem dX2_stand_18 : decode cX2_stand 18 = .ok (.getfield 19, 3) := by decide +kernel
theorem dX2_stand_21 : decode cX2_stand 21 = .ok (.iload_n 1, 1) := by decide +kernel
theorem dX2_stand_22 : decode cX2_stand 22 = .ok (.isub, 1) := by decide +kernel
theorem dX2_stand_23 : decode cX2_stand 23 = .ok (.if_icmp .gt 7, 3) := by decide +kernel
theorem dX2_stand_26 : decode cX2_stand 26 = .ok (.iconst 1, 1) := by decide +kernel
theorem dX2_stand_27 : decode cX2_stand 27 = .ok (.goto 4, 3) := by decide +kernel
theorem dX2_stand_30 : decode cX2_stand 30 = .ok (.iconst 0, 1) := by decide +kernel
theorem dX2_stand_31 : decode cX2_stand 31 = .ok (.ireturn, 1) := by decide +kernel
theorem dX2_number_0 : decode cX2_number 0 = .ok (.iload_n 1, 1) := by decide +kernel
theorem dX2_number_1 : decode cX2_number 1 = .ok (.iconst 0, 1) := by decide +kernel
theorem dX2_number_2 : decode cX2_number 2 = .ok (.aload_n 0, 1) := by decide +kernel
theorem dX2_number_3 : decode cX2_number 3 = .ok (.getfield 19, 3) := by decide +kernel
theorem dX2_number_6 : decode cX2_number 6 = .ok (.iconst 1, 1) := by decide +kernel
theorem dX2_number_7 : decode cX2_number 7 = .ok (.isub, 1) := by decide +kernel
theorem dX2_number_8 : decode cX2_number 8 = .ok (.invokestatic 26, 3) := by decide +kernel
theorem dX2_number_11 : decode cX2_number 11 = .ok (.ifCond .eq 12, 3) := by decide +kernel
theorem dX2_number_14 : decode cX2_number 14 = .ok (.aload_n 0, 1) := by decide +kernel
theorem dX2_number_15 : decode cX2_number 15 = .ok (.getfield 9, 3) := by decide +kernel
theorem dX2_number_18 : decode cX2_number 18 = .ok (.iload_n 1, 1) := by decide +kernel
theorem dX2_number_19 : decode cX2_number 19 = .ok (.iaload, 1) := by decide +kernel
theorem dX2_number_20 : decode cX2_number 20 = .ok (.goto 4, 3) := by decide +kernel
theorem dX2_number_23 : decode cX2_number 23 = .ok (.iconst 0, 1) := by decide +kernel
theorem dX2_number_24 : decode cX2_number 24 = .ok (.ireturn, 1) := by decide +kernel
theorem dX2_write_0 : decode cX2_write 0 = .ok (.iload_n 1, 1) := by decide +kernel
theorem dX2_write_1 : decode cX2_write 1 = .ok (.iconst 0, 1) := by decide +kernel
theorem dX2_write_2 : decode cX2_write 2 = .ok (.aload_n 0, 1) := by decide +kernel
theorem dX2_write_3 : decode cX2_write 3 = .ok (.getfield 19, 3) := by decide +kernel
theorem dX2_write_6 : decode cX2_write 6 = .ok (.iconst 1, 1) := by decide +kernel
theorem dX2_write_7 : decode cX2_write 7 = .ok (.isub, 1) := by decide +kernel
theorem dX2_write_8 : decode cX2_write 8 = .ok (.invokestatic 26, 3) := by decide +kernel
theorem dX2_write_11 : decode cX2_write 11 = .ok (.ifCond .eq 14, 3) := by decide +kernel
theorem dX2_write_14 : decode cX2_write 14 = .ok (.aload_n 0, 1) := by decide +kernel
theorem dX2_write_15 : decode cX2_write 15 = .ok (.getfield 9, 3) := by decide +kernel
theorem dX2_write_18 : decode cX2_write 18 = .ok (.iload_n 1, 1) := by decide +kernel
theorem dX2_write_19 : decode cX2_write 19 = .ok (.aload_n 0, 1) := by decide +kernel
theorem dX2_write_20 : decode cX2_write 20 = .ok (.iload_n 2, 1) := by decide +kernel
theorem dX2_write_21 : decode cX2_write 21 = .ok (.invokevirtual 30, 3) := by decide +kernel
theorem dX2_write_24 : decode cX2_write 24 = .ok (.iastore, 1) := by decide +kernel
theorem dX2_write_25 : decode cX2_write 25 = .ok (.return_, 1) := by decide +kernel
theorem dX2_lowest_0 : decode cX2_lowest 0 = .ok (.aload_n 0, 1) := by decide +kernel
theorem dX2_lowest_1 : decode cX2_lowest 1 = .ok (.getfield 15, 3) := by decide +kernel
theorem dX2_lowest_4 : decode cX2_lowest 4 = .ok (.lookupswitch 34 #[(8, 28), (16, 31)], 28) := by decide +kernel
theorem dX2_lowest_32 : decode cX2_lowest 32 = .ok (.iload_n 1, 1) := by decide +kernel
theorem dX2_lowest_33 : decode cX2_lowest 33 = .ok (.i2b, 1) := by decide +kernel
theorem dX2_lowest_34 : decode cX2_lowest 34 = .ok (.ireturn, 1) := by decide +kernel
theorem dX2_lowest_35 : decode cX2_lowest 35 = .ok (.iload_n 1, 1) := by decide +kernel
theorem dX2_lowest_36 : decode cX2_lowest 36 = .ok (.i2s, 1) := by decide +kernel
theorem dX2_lowest_37 : decode cX2_lowest 37 = .ok (.ireturn, 1) := by decide +kernel
theorem dX2_lowest_38 : decode cX2_lowest 38 = .ok (.iload_n 1, 1) := by decide +kernel
theorem dX2_lowest_39 : decode cX2_lowest 39 = .ok (.ireturn, 1) := by decide +kernel
theorem dX2_step_0 : decode cX2_step 0 = .ok (.aload_n 0, 1) := by decide +kernel
theorem dX2_step_1 : decode cX2_step 1 = .ok (.iload_n 1, 1) := by decide +kernel
theorem dX2_step_2 : decode cX2_step 2 = .ok (.invokevirtual 34, 3) := by decide +kernel
theorem dX2_step_5 : decode cX2_step 5 = .ok (.aload_n 0, 1) := by decide +kernel
theorem dX2_step_6 : decode cX2_step 6 = .ok (.iload_n 1, 1) := by decide +kernel
theorem dX2_step_7 : decode cX2_step 7 = .ok (.iconst 1, 1) := by decide +kernel
theorem dX2_step_8 : decode cX2_step 8 = .ok (.isub, 1) := by decide +kernel
theorem dX2_step_9 : decode cX2_step 9 = .ok (.invokevirtual 34, 3) := by decide +kernel
theorem dX2_step_12 : decode cX2_step 12 = .ok (.isub, 1) := by decide +kernel
theorem dX2_step_13 : decode cX2_step 13 = .ok (.ireturn, 1) := by decide +kernel
theorem dX2_isEven_0 : decode cX2_isEven 0 = .ok (.iload_n 1, 1) := by decide +kernel
theorem dX2_isEven_1 : decode cX2_isEven 1 = .ok (.iconst 1, 1) := by decide +kernel
theorem dX2_isEven_2 : decode cX2_isEven 2 = .ok (.if_icmp .lt 22, 3) := by decide +kernel
theorem dX2_isEven_5 : decode cX2_isEven 5 = .ok (.aload_n 0, 1) := by decide +kernel
theorem dX2_isEven_6 : decode cX2_isEven 6 = .ok (.iload_n 1, 1) := by decide +kernel
theorem dX2_isEven_7 : decode cX2_isEven 7 = .ok (.invokevirtual 37, 3) := by decide +kernel
theorem dX2_isEven_10 : decode cX2_isEven 10 = .ok (.aload_n 0, 1) := by decide +kernel
theorem dX2_isEven_11 : decode cX2_isEven 11 = .ok (.iload_n 1, 1) := by decide +kernel
theorem dX2_isEven_12 : decode cX2_isEven 12 = .ok (.iconst 1, 1) := by decide +kernel
theorem dX2_isEven_13 : decode cX2_isEven 13 = .ok (.isub, 1) := by decide +kernel
theorem dX2_isEven_14 : decode cX2_isEven 14 = .ok (.invokevirtual 37, 3) := by decide +kernel
theorem dX2_isEven_17 : decode cX2_isEven 17 = .ok (.if_icmp .ne 7, 3) := by decide +kernel
theorem dX2_isEven_20 : decode cX2_isEven 20 = .ok (.iconst 1, 1) := by decide +kernel
theorem dX2_isEven_21 : decode cX2_isEven 21 = .ok (.goto 4, 3) := by decide +kernel
theorem dX2_isEven_24 : decode cX2_isEven 24 = .ok (.iconst 0, 1) := by decide +kernel
theorem dX2_isEven_25 : decode cX2_isEven 25 = .ok (.ireturn, 1) := by decide +kernel
theorem dX2_evenSteps_0 : decode cX2_evenSteps 0 = .ok (.iconst 0, 1) := by decide +kernel
theorem dX2_evenSteps_1 : decode cX2_evenSteps 1 = .ok (.istore_n 1, 1) := by decide +kernel
theorem dX2_evenSteps_2 : decode cX2_evenSteps 2 = .ok (.iconst 1, 1) := by decide +kernel
theorem dX2_evenSteps_3 : decode cX2_evenSteps 3 = .ok (.istore_n 2, 1) := by decide +kernel
theorem dX2_evenSteps_4 : decode cX2_evenSteps 4 = .ok (.iload_n 2, 1) := by decide +kernel
theorem dX2_evenSteps_5 : decode cX2_evenSteps 5 = .ok (.aload_n 0, 1) := by decide +kernel
theorem dX2_evenSteps_6 : decode cX2_evenSteps 6 = .ok (.getfield 19, 3) := by decide +kernel
theorem dX2_evenSteps_9 : decode cX2_evenSteps 9 = .ok (.if_icmp .ge 25, 3) := by decide +kernel
theorem dX2_evenSteps_12 : decode cX2_evenSteps 12 = .ok (.iload_n 1, 1) := by decide +kernel
theorem dX2_evenSteps_13 : decode cX2_evenSteps 13 = .ok (.aload_n 0, 1) := by decide +kernel
theorem dX2_evenSteps_14 : decode cX2_evenSteps 14 = .ok (.iload_n 2, 1) := by decide +kernel
theorem dX2_evenSteps_15 : decode cX2_evenSteps 15 = .ok (.invokevirtual 40, 3) := by decide +kernel
theorem dX2_evenSteps_18 : decode cX2_evenSteps 18 = .ok (.ifCond .eq 7, 3) := by decide +kernel
theorem dX2_evenSteps_21 : decode cX2_evenSteps 21 = .ok (.iconst 1, 1) := by decide +kernel
theorem dX2_evenSteps_22 : decode cX2_evenSteps 22 = .ok (.goto 4, 3) := by decide +kernel
theorem dX2_evenSteps_25 : decode cX2_evenSteps 25 = .ok (.iconst 0, 1) := by decide +kernel
theorem dX2_evenSteps_26 : decode cX2_evenSteps 26 = .ok (.iadd, 1) := by decide +kernel
theorem dX2_evenSteps_27 : decode cX2_evenSteps 27 = .ok (.istore_n 1, 1) := by decide +kernel
theorem dX2_evenSteps_28 : decode cX2_evenSteps 28 = .ok (.iinc 2 1, 3) := by decide +kernel
theorem dX2_evenSteps_31 : decode cX2_evenSteps 31 = .ok (.goto (-27), 3) := by decide +kernel
theorem dX2_evenSteps_34 : decode cX2_evenSteps 34 = .ok (.iload_n 1, 1) := by decide +kernel
theorem dX2_evenSteps_35 : decode cX2_evenSteps 35 = .ok (.ireturn, 1) := by decide +kernel
theorem dX2_longestEvenRow_0 : decode cX2_longestEvenRow 0 = .ok (.iconst 0, 1) := by decide +kernel
theorem dX2_longestEvenRow_1 : decode cX2_longestEvenRow 1 = .ok (.istore_n 1, 1) := by decide +kernel
theorem dX2_longestEvenRow_2 : decode cX2_longestEvenRow 2 = .ok (.iconst 0, 1) := by decide +kernel
theorem dX2_longestEvenRow_3 : decode cX2_longestEvenRow 3 = .ok (.istore_n 2, 1) := by decide +kernel
theorem dX2_longestEvenRow_4 : decode cX2_longestEvenRow 4 = .ok (.iconst 1, 1) := by decide +kernel
theorem dX2_longestEvenRow_5 : decode cX2_longestEvenRow 5 = .ok (.istore_n 3, 1) := by decide +kernel
theorem dX2_longestEvenRow_6 : decode cX2_longestEvenRow 6 = .ok (.iload_n 3, 1) := by decide +kernel
theorem dX2_longestEvenRow_7 : decode cX2_longestEvenRow 7 = .ok (.aload_n 0, 1) := by decide +kernel
theorem dX2_longestEvenRow_8 : decode cX2_longestEvenRow 8 = .ok (.getfield 19, 3) := by decide +kernel
theorem dX2_longestEvenRow_11 : decode cX2_longestEvenRow 11 = .ok (.if_icmp .ge 31, 3) := by decide +kernel
theorem dX2_longestEvenRow_14 : decode cX2_longestEvenRow 14 = .ok (.aload_n 0, 1) := by decide +kernel
theorem dX2_longestEvenRow_15 : decode cX2_longestEvenRow 15 = .ok (.iload_n 3, 1) := by decide +kernel
theorem dX2_longestEvenRow_16 : decode cX2_longestEvenRow 16 = .ok (.invokevirtual 40, 3) := by decide +kernel
theorem dX2_longestEvenRow_19 : decode cX2_longestEvenRow 19 = .ok (.ifCond .eq 9, 3) := by decide +kernel
theorem dX2_longestEvenRow_22 : decode cX2_longestEvenRow 22 = .ok (.iload_n 2, 1) := by decide +kernel
theorem dX2_longestEvenRow_23 : decode cX2_longestEvenRow 23 = .ok (.iconst 1, 1) := by decide +kernel
theorem dX2_longestEvenRow_24 : decode cX2_longestEvenRow 24 = .ok (.iadd, 1) := by decide +kernel
theorem dX2_longestEvenRow_25 : decode cX2_longestEvenRow 25 = .ok (.goto 4, 3) := by decide +kernel
theorem dX2_longestEvenRow_28 : decode cX2_longestEvenRow 28 = .ok (.iconst 0, 1) := by decide +kernel
theorem dX2_longestEvenRow_29 : decode cX2_longestEvenRow 29 = .ok (.istore_n 2, 1) := by decide +kernel
theorem dX2_longestEvenRow_30 : decode cX2_longestEvenRow 30 = .ok (.iload_n 1, 1) := by decide +kernel
theorem dX2_longestEvenRow_31 : decode cX2_longestEvenRow 31 = .ok (.iload_n 2, 1) := by decide +kernel
theorem dX2_longestEvenRow_32 : decode cX2_longestEvenRow 32 = .ok (.invokestatic 44, 3) := by decide +kernel
theorem dX2_longestEvenRow_35 : decode cX2_longestEvenRow 35 = .ok (.istore_n 1, 1) := by decide +kernel
theorem dX2_longestEvenRow_36 : decode cX2_longestEvenRow 36 = .ok (.iinc 3 1, 3) := by decide +kernel
theorem dX2_longestEvenRow_39 : decode cX2_longestEvenRow 39 = .ok (.goto (-33), 3) := by decide +kernel
theorem dX2_longestEvenRow_42 : decode cX2_longestEvenRow 42 = .ok (.iload_n 1, 1) := by decide +kernel
theorem dX2_longestEvenRow_43 : decode cX2_longestEvenRow 43 = .ok (.ireturn, 1) := by decide +kernel
theorem dX3_init_0 : decode cX3_init 0 = .ok (.aload_n 0, 1) := by decide +kernel
theorem dX3_init_1 : decode cX3_init 1 = .ok (.iconst 5, 1) := by decide +kernel
theorem dX3_init_2 : decode cX3_init 2 = .ok (.bipush 8, 2) := by decide +kernel
theorem dX3_init_4 : decode cX3_init 4 = .ok (.invokespecial 3, 3) := by decide +kernel
theorem dX3_init_7 : decode cX3_init 7 = .ok (.return_, 1) := by decide +kernel
theorem dX3_isOf_0 : decode cX3_isOf 0 = .ok (.aload_n 0, 1) := by decide +kernel
theorem dX3_isOf_1 : decode cX3_isOf 1 = .ok (.iconst 0, 1) := by decide +kernel
theorem dX3_isOf_2 : decode cX3_isOf 2 = .ok (.iload_n 1, 1) := by decide +kernel
theorem dX3_isOf_3 : decode cX3_isOf 3 = .ok (.invokevirtual 9, 3) := by decide +kernel
theorem dX3_isOf_6 : decode cX3_isOf 6 = .ok (.istore_n 3, 1) := by decide +kernel
theorem dX3_isOf_7 : decode cX3_isOf 7 = .ok (.iconst 0, 1) := by decide +kernel
theorem dX3_isOf_8 : decode cX3_isOf 8 = .ok (.istore 4, 2) := by decide +kernel
theorem dX3_isOf_10 : decode cX3_isOf 10 = .ok (.iload 4, 2) := by decide +kernel
theorem dX3_isOf_12 : decode cX3_isOf 12 = .ok (.bipush 7, 2) := by decide +kernel
theorem dX3_isOf_14 : decode cX3_isOf 14 = .ok (.if_icmp .ge 19, 3) := by decide +kernel
theorem dX3_isOf_17 : decode cX3_isOf 17 = .ok (.iload_n 3, 1) := by decide +kernel
theorem dX3_isOf_18 : decode cX3_isOf 18 = .ok (.iload_n 2, 1) := by decide +kernel
theorem dX3_isOf_19 : decode cX3_isOf 19 = .ok (.if_icmp .eq 14, 3) := by decide +kernel
theorem dX3_isOf_22 : decode cX3_isOf 22 = .ok (.iload_n 3, 1) := by decide +kernel
theorem dX3_isOf_23 : decode cX3_isOf 23 = .ok (.invokestatic 15, 3) := by decide +kernel
theorem dX3_isOf_26 : decode cX3_isOf 26 = .ok (.istore_n 3, 1) := by decide +kernel
theorem dX3_isOf_27 : decode cX3_isOf 27 = .ok (.iinc 4 1, 3) := by decide +kernel
theorem dX3_isOf_30 : decode cX3_isOf 30 = .ok (.goto (-20), 3) := by decide +kernel
theorem dX3_isOf_33 : decode cX3_isOf 33 = .ok (.iload_n 3, 1) := by decide +kernel
theorem dX3_isOf_34 : decode cX3_isOf 34 = .ok (.iload_n 2, 1) := by decide +kernel
theorem dX3_isOf_35 : decode cX3_isOf 35 = .ok (.if_icmp .ne 7, 3) := by decide +kernel
theorem dX3_isOf_38 : decode cX3_isOf 38 = .ok (.iconst 1, 1) := by decide +kernel
theorem dX3_isOf_39 : decode cX3_isOf 39 = .ok (.goto 4, 3) := by decide +kernel
theorem dX3_isOf_42 : decode cX3_isOf 42 = .ok (.iconst 0, 1) := by decide +kernel
theorem dX3_isOf_43 : decode cX3_isOf 43 = .ok (.ireturn, 1) := by decide +kernel
theorem dX3_leansAt_0 : decode cX3_leansAt 0 = .ok (.iconst 0, 1) := by decide +kernel
theorem dX3_leansAt_1 : decode cX3_leansAt 1 = .ok (.istore_n 3, 1) := by decide +kernel
theorem dX3_leansAt_2 : decode cX3_leansAt 2 = .ok (.aload_n 0, 1) := by decide +kernel
theorem dX3_leansAt_3 : decode cX3_leansAt 3 = .ok (.iconst 0, 1) := by decide +kernel
theorem dX3_leansAt_4 : decode cX3_leansAt 4 = .ok (.iload_n 1, 1) := by decide +kernel
theorem dX3_leansAt_5 : decode cX3_leansAt 5 = .ok (.invokevirtual 9, 3) := by decide +kernel
theorem dX3_leansAt_8 : decode cX3_leansAt 8 = .ok (.lookupswitch 48 #[(1, 28), (4, 38)], 28) := by decide +kernel
theorem dX3_leansAt_36 : decode cX3_leansAt 36 = .ok (.aload_n 0, 1) := by decide +kernel
theorem dX3_leansAt_37 : decode cX3_leansAt 37 = .ok (.iload_n 1, 1) := by decide +kernel
theorem dX3_leansAt_38 : decode cX3_leansAt 38 = .ok (.iload_n 2, 1) := by decide +kernel
theorem dX3_leansAt_39 : decode cX3_leansAt 39 = .ok (.invokevirtual 19, 3) := by decide +kernel
theorem dX3_leansAt_42 : decode cX3_leansAt 42 = .ok (.istore_n 3, 1) := by decide +kernel
theorem dX3_leansAt_43 : decode cX3_leansAt 43 = .ok (.goto 13, 3) := by decide +kernel
theorem dX3_leansAt_46 : decode cX3_leansAt 46 = .ok (.aload_n 0, 1) := by decide +kernel
theorem dX3_leansAt_47 : decode cX3_leansAt 47 = .ok (.iload_n 1, 1) := by decide +kernel
theorem dX3_leansAt_48 : decode cX3_leansAt 48 = .ok (.iload_n 2, 1) := by decide +kernel
theorem dX3_leansAt_49 : decode cX3_leansAt 49 = .ok (.invokevirtual 23, 3) := by decide +kernel
theorem dX3_leansAt_52 : decode cX3_leansAt 52 = .ok (.istore_n 3, 1) := by decide +kernel
theorem dX3_leansAt_53 : decode cX3_leansAt 53 = .ok (.goto 3, 3) := by decide +kernel
theorem dX3_leansAt_56 : decode cX3_leansAt 56 = .ok (.iload_n 3, 1) := by decide +kernel
theorem dX3_leansAt_57 : decode cX3_leansAt 57 = .ok (.ifCond .eq 12, 3) := by decide +kernel
theorem dX3_leansAt_60 : decode cX3_leansAt 60 = .ok (.aload_n 0, 1) := by decide +kernel
theorem dX3_leansAt_61 : decode cX3_leansAt 61 = .ok (.iconst 3, 1) := by decide +kernel
theorem dX3_leansAt_62 : decode cX3_leansAt 62 = .ok (.iload_n 1, 1) := by decide +kernel
theorem dX3_leansAt_63 : decode cX3_leansAt 63 = .ok (.invokevirtual 9, 3) := by decide +kernel
theorem dX3_leansAt_66 : decode cX3_leansAt 66 = .ok (.goto 4, 3) := by decide +kernel
theorem dX3_leansAt_69 : decode cX3_leansAt 69 = .ok (.iconst 0, 1) := by decide +kernel
theorem dX3_leansAt_70 : decode cX3_leansAt 70 = .ok (.ireturn, 1) := by decide +kernel
theorem dX3_pushesAt_0 : decode cX3_pushesAt 0 = .ok (.iload_n 3, 1) := by decide +kernel
theorem dX3_pushesAt_1 : decode cX3_pushesAt 1 = .ok (.ifCond .le 12, 3) := by decide +kernel
theorem dX3_pushesAt_4 : decode cX3_pushesAt 4 = .ok (.aload_n 0, 1) := by decide +kernel
theorem dX3_pushesAt_5 : decode cX3_pushesAt 5 = .ok (.iload_n 1, 1) := by decide +kernel
theorem dX3_pushesAt_6 : decode cX3_pushesAt 6 = .ok (.iload_n 2, 1) := by decide +kernel
theorem dX3_pushesAt_7 : decode cX3_pushesAt 7 = .ok (.invokevirtual 23, 3) := by decide +kernel
theorem dX3_pushesAt_10 : decode cX3_pushesAt 10 = .ok (.ifCond .ne 5, 3) := by decide +kernel
theorem dX3_pushesAt_13 : decode cX3_pushesAt 13 = .ok (.iconst 0, 1) := by decide +kernel
theorem dX3_pushesAt_14 : decode cX3_pushesAt 14 = .ok (.ireturn, 1) := by decide +kernel
theorem dX3_pushesAt_15 : decode cX3_pushesAt 15 = .ok (.aload_n 0, 1) := by decide +kernel
theorem dX3_pushesAt_16 : decode cX3_pushesAt 16 = .ok (.iconst 0, 1) := by decide +kernel
theorem dX3_pushesAt_17 : decode cX3_pushesAt 17 = .ok (.iload_n 1, 1) := by decide +kernel
theorem dX3_pushesAt_18 : decode cX3_pushesAt 18 = .ok (.invokevirtual 9, 3) := by decide +kernel
theorem dX3_pushesAt_21 : decode cX3_pushesAt 21 = .ok (.lookupswitch 43 #[(5, 27), (6, 34)], 27) := by decide +kernel
theorem dX3_pushesAt_48 : decode cX3_pushesAt 48 = .ok (.aload_n 0, 1) := by decide +kernel
theorem dX3_pushesAt_49 : decode cX3_pushesAt 49 = .ok (.iconst 3, 1) := by decide +kernel
theorem dX3_pushesAt_50 : decode cX3_pushesAt 50 = .ok (.iload_n 1, 1) := by decide +kernel
theorem dX3_pushesAt_51 : decode cX3_pushesAt 51 = .ok (.invokevirtual 9, 3) := by decide +kernel
theorem dX3_pushesAt_54 : decode cX3_pushesAt 54 = .ok (.ireturn, 1) := by decide +kernel
theorem dX3_pushesAt_55 : decode cX3_pushesAt 55 = .ok (.aload_n 0, 1) := by decide +kernel
theorem dX3_pushesAt_56 : decode cX3_pushesAt 56 = .ok (.iconst 3, 1) := by decide +kernel
theorem dX3_pushesAt_57 : decode cX3_pushesAt 57 = .ok (.iload_n 1, 1) := by decide +kernel
theorem dX3_pushesAt_58 : decode cX3_pushesAt 58 = .ok (.invokevirtual 9, 3) := by decide +kernel
theorem dX3_pushesAt_61 : decode cX3_pushesAt 61 = .ok (.iconst 2, 1) := by decide +kernel
theorem dX3_pushesAt_62 : decode cX3_pushesAt 62 = .ok (.idiv, 1) := by decide +kernel
theorem dX3_pushesAt_63 : decode cX3_pushesAt 63 = .ok (.ireturn, 1) := by decide +kernel
theorem dX3_pushesAt_64 : decode cX3_pushesAt 64 = .ok (.iconst 0, 1) := by decide +kernel
theorem dX3_pushesAt_65 : decode cX3_pushesAt 65 = .ok (.ireturn, 1) := by decide +kernel
theorem dX3_shortensAt_0 : decode cX3_shortensAt 0 = .ok (.aload_n 0, 1) := by decide +kernel
theorem dX3_shortensAt_1 : decode cX3_shortensAt 1 = .ok (.iload_n 1, 1) := by decide +kernel
theorem dX3_shortensAt_2 : decode cX3_shortensAt 2 = .ok (.iload_n 2, 1) := by decide +kernel
theorem dX3_shortensAt_3 : decode cX3_shortensAt 3 = .ok (.invokevirtual 23, 3) := by decide +kernel
theorem dX3_shortensAt_6 : decode cX3_shortensAt 6 = .ok (.ifCond .ne 5, 3) := by decide +kernel
theorem dX3_shortensAt_9 : decode cX3_shortensAt 9 = .ok (.iconst 0, 1) := by decide +kernel
theorem dX3_shortensAt_10 : decode cX3_shortensAt 10 = .ok (.ireturn, 1) := by decide +kernel
theorem dX3_shortensAt_11 : decode cX3_shortensAt 11 = .ok (.aload_n 0, 1) := by decide +kernel
theorem dX3_shortensAt_12 : decode cX3_shortensAt 12 = .ok (.iconst 3, 1) := by decide +kernel
theorem dX3_shortensAt_13 : decode cX3_shortensAt 13 = .ok (.iload_n 1, 1) := by decide +kernel
theorem dX3_shortensAt_14 : decode cX3_shortensAt 14 = .ok (.invokevirtual 9, 3) := by decide +kernel
theorem dX3_shortensAt_17 : decode cX3_shortensAt 17 = .ok (.istore 4, 2) := by decide +kernel
theorem dX3_shortensAt_19 : decode cX3_shortensAt 19 = .ok (.aload_n 0, 1) := by decide +kernel
theorem dX3_shortensAt_20 : decode cX3_shortensAt 20 = .ok (.iconst 0, 1) := by decide +kernel
theorem dX3_shortensAt_21 : decode cX3_shortensAt 21 = .ok (.iload_n 1, 1) := by decide +kernel
theorem dX3_shortensAt_22 : decode cX3_shortensAt 22 = .ok (.invokevirtual 9, 3) := by decide +kernel
theorem dX3_shortensAt_25 : decode cX3_shortensAt 25 = .ok (.tableswitch 70 2 6 #[35, 42, 70, 70, 65], 35) := by decide +kernel
theorem dX3_shortensAt_60 : decode cX3_shortensAt 60 = .ok (.iload 4, 2) := by decide +kernel
theorem dX3_shortensAt_62 : decode cX3_shortensAt 62 = .ok (.iload_n 3, 1) := by decide +kernel
theorem dX3_shortensAt_63 : decode cX3_shortensAt 63 = .ok (.iconst 1, 1) := by decide +kernel
theorem dX3_shortensAt_64 : decode cX3_shortensAt 64 = .ok (.iadd, 1) := by decide +kernel
theorem dX3_shortensAt_65 : decode cX3_shortensAt 65 = .ok (.imul, 1) := by decide +kernel
theorem dX3_shortensAt_66 : decode cX3_shortensAt 66 = .ok (.ireturn, 1) := by decide +kernel
theorem dX3_shortensAt_67 : decode cX3_shortensAt 67 = .ok (.iload 4, 2) := by decide +kernel
theorem dX3_shortensAt_69 : decode cX3_shortensAt 69 = .ok (.iload_n 3, 1) := by decide +kernel
theorem dX3_shortensAt_70 : decode cX3_shortensAt 70 = .ok (.iconst 1, 1) := by decide +kernel
theorem dX3_shortensAt_71 : decode cX3_shortensAt 71 = .ok (.iadd, 1) := by decide +kernel
theorem dX3_shortensAt_72 : decode cX3_shortensAt 72 = .ok (.imul, 1) := by decide +kernel
theorem dX3_shortensAt_73 : decode cX3_shortensAt 73 = .ok (.aload_n 0, 1) := by decide +kernel
theorem dX3_shortensAt_74 : decode cX3_shortensAt 74 = .ok (.iload_n 1, 1) := by decide +kernel
theorem dX3_shortensAt_75 : decode cX3_shortensAt 75 = .ok (.iload_n 2, 1) := by decide +kernel
theorem dX3_shortensAt_76 : decode cX3_shortensAt 76 = .ok (.invokevirtual 19, 3) := by decide +kernel
theorem dX3_shortensAt_79 : decode cX3_shortensAt 79 = .ok (.ifCond .eq 8, 3) := by decide +kernel
theorem dX3_shortensAt_82 : decode cX3_shortensAt 82 = .ok (.bipush 66, 2) := by decide +kernel
theorem dX3_shortensAt_84 : decode cX3_shortensAt 84 = .ok (.goto 4, 3) := by decide +kernel
theorem dX3_shortensAt_87 : decode cX3_shortensAt 87 = .ok (.iconst 0, 1) := by decide +kernel
theorem dX3_shortensAt_88 : decode cX3_shortensAt 88 = .ok (.iadd, 1) := by decide +kernel
theorem dX3_shortensAt_89 : decode cX3_shortensAt 89 = .ok (.ireturn, 1) := by decide +kernel
theorem dX3_shortensAt_90 : decode cX3_shortensAt 90 = .ok (.iconst 2, 1) := by decide +kernel
theorem dX3_shortensAt_91 : decode cX3_shortensAt 91 = .ok (.iload 4, 2) := by decide +kernel
theorem dX3_shortensAt_93 : decode cX3_shortensAt 93 = .ok (.imul, 1) := by decide +kernel
theorem dX3_shortensAt_94 : decode cX3_shortensAt 94 = .ok (.ireturn, 1) := by decide +kernel
theorem dX3_shortensAt_95 : decode cX3_shortensAt 95 = .ok (.iconst 0, 1) := by decide +kernel
theorem dX3_shortensAt_96 : decode cX3_shortensAt 96 = .ok (.ireturn, 1) := by decide +kernel
theorem dX3_isFirst_0 : decode cX3_isFirst 0 = .ok (.iload_n 2, 1) := by decide +kernel
theorem dX3_isFirst_1 : decode cX3_isFirst 1 = .ok (.aload_n 0, 1) := by decide +kernel
theorem dX3_isFirst_2 : decode cX3_isFirst 2 = .ok (.iconst 1, 1) := by decide +kernel
theorem dX3_isFirst_3 : decode cX3_isFirst 3 = .ok (.iload_n 1, 1) := by decide +kernel
theorem dX3_isFirst_4 : decode cX3_isFirst 4 = .ok (.invokevirtual 9, 3) := by decide +kernel
theorem dX3_isFirst_7 : decode cX3_isFirst 7 = .ok (.if_icmp .ne 7, 3) := by decide +kernel
theorem dX3_isFirst_10 : decode cX3_isFirst 10 = .ok (.iconst 1, 1) := by decide +kernel
theorem dX3_isFirst_11 : decode cX3_isFirst 11 = .ok (.goto 4, 3) := by decide +kernel
theorem dX3_isFirst_14 : decode cX3_isFirst 14 = .ok (.iconst 0, 1) := by decide +kernel
theorem dX3_isFirst_15 : decode cX3_isFirst 15 = .ok (.ireturn, 1) := by decide +kernel
theorem dX3_spans_0 : decode cX3_spans 0 = .ok (.iload_n 2, 1) := by decide +kernel
theorem dX3_spans_1 : decode cX3_spans 1 = .ok (.aload_n 0, 1) := by decide +kernel
theorem dX3_spans_2 : decode cX3_spans 2 = .ok (.iconst 1, 1) := by decide +kernel
theorem dX3_spans_3 : decode cX3_spans 3 = .ok (.iload_n 1, 1) := by decide +kernel
theorem dX3_spans_4 : decode cX3_spans 4 = .ok (.invokevirtual 9, 3) := by decide +kernel
theorem dX3_spans_7 : decode cX3_spans 7 = .ok (.aload_n 0, 1) := by decide +kernel
theorem dX3_spans_8 : decode cX3_spans 8 = .ok (.iconst 2, 1) := by decide +kernel
theorem dX3_spans_9 : decode cX3_spans 9 = .ok (.iload_n 1, 1) := by decide +kernel
theorem dX3_spans_10 : decode cX3_spans 10 = .ok (.invokevirtual 9, 3) := by decide +kernel
theorem dX3_spans_13 : decode cX3_spans 13 = .ok (.invokestatic 26, 3) := by decide +kernel
theorem dX3_spans_16 : decode cX3_spans 16 = .ok (.ireturn, 1) := by decide +kernel
theorem dX3_above_0 : decode cX3_above 0 = .ok (.iload_n 0, 1) := by decide +kernel
theorem dX3_above_1 : decode cX3_above 1 = .ok (.iconst 0, 1) := by decide +kernel
theorem dX3_above_2 : decode cX3_above 2 = .ok (.bipush 6, 2) := by decide +kernel
theorem dX3_above_4 : decode cX3_above 4 = .ok (.invokestatic 26, 3) := by decide +kernel
theorem dX3_above_7 : decode cX3_above 7 = .ok (.ifCond .eq 11, 3) := by decide +kernel
theorem dX3_above_10 : decode cX3_above 10 = .ok (.getstatic 30, 3) := by decide +kernel
theorem dX3_above_13 : decode cX3_above 13 = .ok (.iload_n 0, 1) := by decide +kernel
theorem dX3_above_14 : decode cX3_above 14 = .ok (.iaload, 1) := by decide +kernel
theorem dX3_above_15 : decode cX3_above 15 = .ok (.goto 4, 3) := by decide +kernel
theorem dX3_above_18 : decode cX3_above 18 = .ok (.iconst (-1), 1) := by decide +kernel
theorem dX3_above_19 : decode cX3_above 19 = .ok (.ireturn, 1) := by decide +kernel
theorem dX4_init_0 : decode cX4_init 0 = .ok (.aload_n 0, 1) := by decide +kernel
theorem dX4_init_1 : decode cX4_init 1 = .ok (.invokespecial 3, 3) := by decide +kernel
theorem dX4_init_4 : decode cX4_init 4 = .ok (.aload_n 0, 1) := by decide +kernel
theorem dX4_init_5 : decode cX4_init 5 = .ok (.new 9, 3) := by decide +kernel
theorem dX4_init_8 : decode cX4_init 8 = .ok (.dup, 1) := by decide +kernel
theorem dX4_init_9 : decode cX4_init 9 = .ok (.iconst 1, 1) := by decide +kernel
theorem dX4_init_10 : decode cX4_init 10 = .ok (.bipush 30, 2) := by decide +kernel
theorem dX4_init_12 : decode cX4_init 12 = .ok (.invokespecial 11, 3) := by decide +kernel
theorem dX4_init_15 : decode cX4_init 15 = .ok (.putfield 14, 3) := by decide +kernel
theorem dX4_init_18 : decode cX4_init 18 = .ok (.aload_n 0, 1) := by decide +kernel
theorem dX4_init_19 : decode cX4_init 19 = .ok (.iconst 0, 1) := by decide +kernel
theorem dX4_init_20 : decode cX4_init 20 = .ok (.putfield 20, 3) := by decide +kernel
theorem dX4_init_23 : decode cX4_init 23 = .ok (.aload_n 0, 1) := by decide +kernel
theorem dX4_init_24 : decode cX4_init 24 = .ok (.iconst 0, 1) := by decide +kernel
theorem dX4_init_25 : decode cX4_init 25 = .ok (.putfield 24, 3) := by decide +kernel
theorem dX4_init_28 : decode cX4_init 28 = .ok (.aload_n 0, 1) := by decide +kernel
theorem dX4_init_29 : decode cX4_init 29 = .ok (.iconst 0, 1) := by decide +kernel
theorem dX4_init_30 : decode cX4_init 30 = .ok (.putfield 27, 3) := by decide +kernel
theorem dX4_init_33 : decode cX4_init 33 = .ok (.aload_n 0, 1) := by decide +kernel
theorem dX4_init_34 : decode cX4_init 34 = .ok (.iconst 0, 1) := by decide +kernel
theorem dX4_init_35 : decode cX4_init 35 = .ok (.putfield 30, 3) := by decide +kernel
theorem dX4_init_38 : decode cX4_init 38 = .ok (.return_, 1) := by decide +kernel
theorem dX4_speak_0 : decode cX4_speak 0 = .ok (.aload_n 0, 1) := by decide +kernel
theorem dX4_speak_1 : decode cX4_speak 1 = .ok (.aload_n 1, 1) := by decide +kernel
theorem dX4_speak_2 : decode cX4_speak 2 = .ok (.iconst 0, 1) := by decide +kernel
theorem dX4_speak_3 : decode cX4_speak 3 = .ok (.iload_n 2, 1) := by decide +kernel
theorem dX4_speak_4 : decode cX4_speak 4 = .ok (.invokevirtual 34, 3) := by decide +kernel
theorem dX4_speak_7 : decode cX4_speak 7 = .ok (.putfield 20, 3) := by decide +kernel
theorem dX4_speak_10 : decode cX4_speak 10 = .ok (.aload_n 0, 1) := by decide +kernel
theorem dX4_speak_11 : decode cX4_speak 11 = .ok (.iload_n 2, 1) := by decide +kernel
theorem dX4_speak_12 : decode cX4_speak 12 = .ok (.putfield 24, 3) := by decide +kernel
theorem dX4_speak_15 : decode cX4_speak 15 = .ok (.aload_n 0, 1) := by decide +kernel
theorem dX4_speak_16 : decode cX4_speak 16 = .ok (.aload_n 1, 1) := by decide +kernel
theorem dX4_speak_17 : decode cX4_speak 17 = .ok (.iconst 3, 1) := by decide +kernel
theorem dX4_speak_18 : decode cX4_speak 18 = .ok (.iload_n 2, 1) := by decide +kernel
theorem dX4_speak_19 : decode cX4_speak 19 = .ok (.invokevirtual 34, 3) := by decide +kernel
theorem dX4_speak_22 : decode cX4_speak 22 = .ok (.putfield 27, 3) := by decide +kernel
theorem dX4_speak_25 : decode cX4_speak 25 = .ok (.aload_n 0, 1) := by decide +kernel
theorem dX4_speak_26 : decode cX4_speak 26 = .ok (.iconst 0, 1) := by decide +kernel
theorem dX4_speak_27 : decode cX4_speak 27 = .ok (.putfield 30, 3) := by decide +kernel
theorem dX4_speak_30 : decode cX4_speak 30 = .ok (.aload_n 0, 1) := by decide +kernel
theorem dX4_speak_31 : decode cX4_speak 31 = .ok (.getfield 14, 3) := by decide +kernel
theorem dX4_speak_34 : decode cX4_speak 34 = .ok (.iconst 0, 1) := by decide +kernel
theorem dX4_speak_35 : decode cX4_speak 35 = .ok (.invokevirtual 40, 3) := by decide +kernel
theorem dX4_speak_38 : decode cX4_speak 38 = .ok (.aload_n 0, 1) := by decide +kernel
theorem dX4_speak_39 : decode cX4_speak 39 = .ok (.iload_n 3, 1) := by decide +kernel
theorem dX4_speak_40 : decode cX4_speak 40 = .ok (.aload_n 0, 1) := by decide +kernel
theorem dX4_speak_41 : decode cX4_speak 41 = .ok (.getfield 20, 3) := by decide +kernel
theorem dX4_speak_44 : decode cX4_speak 44 = .ok (.iload 4, 2) := by decide +kernel
theorem dX4_speak_46 : decode cX4_speak 46 = .ok (.iconst 0, 1) := by decide +kernel
theorem dX4_speak_47 : decode cX4_speak 47 = .ok (.invokevirtual 44, 3) := by decide +kernel
theorem dX4_speak_50 : decode cX4_speak 50 = .ok (.ireturn, 1) := by decide +kernel
theorem dX4_isParted_0 : decode cX4_isParted 0 = .ok (.aload_n 0, 1) := by decide +kernel
theorem dX4_isParted_1 : decode cX4_isParted 1 = .ok (.getfield 30, 3) := by decide +kernel
theorem dX4_isParted_4 : decode cX4_isParted 4 = .ok (.ireturn, 1) := by decide +kernel
theorem dX4_sound_0 : decode cX4_sound 0 = .ok (.iload_n 2, 1) := by decide +kernel
theorem dX4_sound_1 : decode cX4_sound 1 = .ok (.istore 5, 2) := by decide +kernel
theorem dX4_sound_3 : decode cX4_sound 3 = .ok (.iconst 0, 1) := by decide +kernel
theorem dX4_sound_4 : decode cX4_sound 4 = .ok (.istore 6, 2) := by decide +kernel
theorem dX4_sound_6 : decode cX4_sound 6 = .ok (.iload 6, 2) := by decide +kernel
theorem dX4_sound_8 : decode cX4_sound 8 = .ok (.bipush 7, 2) := by decide +kernel
theorem dX4_sound_10 : decode cX4_sound 10 = .ok (.if_icmp .ge 25, 3) := by decide +kernel
theorem dX4_sound_13 : decode cX4_sound 13 = .ok (.iload 5, 2) := by decide +kernel
theorem dX4_sound_15 : decode cX4_sound 15 = .ok (.iload_n 1, 1) := by decide +kernel
theorem dX4_sound_16 : decode cX4_sound 16 = .ok (.invokestatic 48, 3) := by decide +kernel
theorem dX4_sound_19 : decode cX4_sound 19 = .ok (.ifCond .ne 16, 3) := by decide +kernel
theorem dX4_sound_22 : decode cX4_sound 22 = .ok (.iload 5, 2) := by decide +kernel
theorem dX4_sound_24 : decode cX4_sound 24 = .ok (.invokestatic 51, 3) := by decide +kernel
theorem dX4_sound_27 : decode cX4_sound 27 = .ok (.istore 5, 2) := by decide +kernel
theorem dX4_sound_29 : decode cX4_sound 29 = .ok (.iinc 6 1, 3) := by decide +kernel
theorem dX4_sound_32 : decode cX4_sound 32 = .ok (.goto (-26), 3) := by decide +kernel
theorem dX4_sound_35 : decode cX4_sound 35 = .ok (.aload_n 0, 1) := by decide +kernel
theorem dX4_sound_36 : decode cX4_sound 36 = .ok (.getfield 30, 3) := by decide +kernel
theorem dX4_sound_39 : decode cX4_sound 39 = .ok (.ifCond .ne 10, 3) := by decide +kernel
theorem dX4_sound_42 : decode cX4_sound 42 = .ok (.iload 4, 2) := by decide +kernel
theorem dX4_sound_44 : decode cX4_sound 44 = .ok (.bipush 40, 2) := by decide +kernel
theorem dX4_sound_46 : decode cX4_sound 46 = .ok (.if_icmp .lt 5, 3) := by decide +kernel
theorem dX4_sound_49 : decode cX4_sound 49 = .ok (.iconst 0, 1) := by decide +kernel
theorem dX4_sound_50 : decode cX4_sound 50 = .ok (.ireturn, 1) := by decide +kernel
theorem dX4_sound_51 : decode cX4_sound 51 = .ok (.aload_n 0, 1) := by decide +kernel
theorem dX4_sound_52 : decode cX4_sound 52 = .ok (.getfield 14, 3) := by decide +kernel
theorem dX4_sound_55 : decode cX4_sound 55 = .ok (.invokevirtual 55, 3) := by decide +kernel
theorem dX4_sound_58 : decode cX4_sound 58 = .ok (.ifCond .ne 17, 3) := by decide +kernel
theorem dX4_sound_61 : decode cX4_sound 61 = .ok (.aload_n 0, 1) := by decide +kernel
theorem dX4_sound_62 : decode cX4_sound 62 = .ok (.getfield 14, 3) := by decide +kernel
theorem dX4_sound_65 : decode cX4_sound 65 = .ok (.iload 5, 2) := by decide +kernel
theorem dX4_sound_67 : decode cX4_sound 67 = .ok (.iload_n 1, 1) := by decide +kernel
theorem dX4_sound_68 : decode cX4_sound 68 = .ok (.invokestatic 48, 3) := by decide +kernel
theorem dX4_sound_71 : decode cX4_sound 71 = .ok (.invokevirtual 59, 3) := by decide +kernel
theorem dX4_sound_74 : decode cX4_sound 74 = .ok (.pop, 1) := by decide +kernel
theorem dX4_sound_75 : decode cX4_sound 75 = .ok (.aload_n 0, 1) := by decide +kernel
theorem dX4_sound_76 : decode cX4_sound 76 = .ok (.iload 5, 2) := by decide +kernel
theorem dX4_sound_78 : decode cX4_sound 78 = .ok (.iload_n 1, 1) := by decide +kernel
theorem dX4_sound_79 : decode cX4_sound 79 = .ok (.invokestatic 48, 3) := by decide +kernel
theorem dX4_sound_82 : decode cX4_sound 82 = .ok (.iload 5, 2) := by decide +kernel
theorem dX4_sound_84 : decode cX4_sound 84 = .ok (.invokestatic 51, 3) := by decide +kernel
theorem dX4_sound_87 : decode cX4_sound 87 = .ok (.iload_n 3, 1) := by decide +kernel
theorem dX4_sound_88 : decode cX4_sound 88 = .ok (.iload 4, 2) := by decide +kernel
theorem dX4_sound_90 : decode cX4_sound 90 = .ok (.iconst 1, 1) := by decide +kernel
theorem dX4_sound_91 : decode cX4_sound 91 = .ok (.iadd, 1) := by decide +kernel
theorem dX4_sound_92 : decode cX4_sound 92 = .ok (.invokevirtual 62, 3) := by decide +kernel
theorem dX4_sound_95 : decode cX4_sound 95 = .ok (.ireturn, 1) := by decide +kernel
theorem dX4_workedOut_0 : decode cX4_workedOut 0 = .ok (.iload_n 1, 1) := by decide +kernel
theorem dX4_workedOut_1 : decode cX4_workedOut 1 = .ok (.lookupswitch 297 #[(10, 115), (11, 122), (12, 137), (13, 155), (20, 161), (21, 173), (30, 196), (40, 208), (41, 220), (50, 235), (51, 247), (60, 270), (70, 285)], 115) := by decide +kernel
theorem dX4_workedOut_116 : decode cX4_workedOut 116 = .ok (.iload_n 3, 1) := by decide +kernel
theorem dX4_workedOut_117 : decode cX4_workedOut 117 = .ok (.aload_n 0, 1) := by decide +kernel
theorem dX4_workedOut_118 : decode cX4_workedOut 118 = .ok (.getfield 24, 3) := by decide +kernel
theorem dX4_workedOut_121 : decode cX4_workedOut 121 = .ok (.iadd, 1) := by decide +kernel
theorem dX4_workedOut_122 : decode cX4_workedOut 122 = .ok (.ireturn, 1) := by decide +kernel
theorem dX4_workedOut_123 : decode cX4_workedOut 123 = .ok (.aload_n 0, 1) := by decide +kernel
theorem dX4_workedOut_124 : decode cX4_workedOut 124 = .ok (.iconst 0, 1) := by decide +kernel
theorem dX4_workedOut_125 : decode cX4_workedOut 125 = .ok (.aload_n 0, 1) := by decide +kernel
theorem dX4_workedOut_126 : decode cX4_workedOut 126 = .ok (.getfield 20, 3) := by decide +kernel
theorem dX4_workedOut_129 : decode cX4_workedOut 129 = .ok (.iload_n 3, 1) := by decide +kernel
theorem dX4_workedOut_130 : decode cX4_workedOut 130 = .ok (.iload 4, 2) := by decide +kernel
theorem dX4_workedOut_132 : decode cX4_workedOut 132 = .ok (.invokevirtual 44, 3) := by decide +kernel
theorem dX4_workedOut_135 : decode cX4_workedOut 135 = .ok (.iconst 2, 1) := by decide +kernel
theorem dX4_workedOut_136 : decode cX4_workedOut 136 = .ok (.imul, 1) := by decide +kernel
theorem dX4_workedOut_137 : decode cX4_workedOut 137 = .ok (.ireturn, 1) := by decide +kernel
theorem dX4_workedOut_138 : decode cX4_workedOut 138 = .ok (.aload_n 0, 1) := by decide +kernel
theorem dX4_workedOut_139 : decode cX4_workedOut 139 = .ok (.iconst 1, 1) := by decide +kernel
theorem dX4_workedOut_140 : decode cX4_workedOut 140 = .ok (.aload_n 0, 1) := by decide +kernel
theorem dX4_workedOut_141 : decode cX4_workedOut 141 = .ok (.getfield 20, 3) := by decide +kernel
theorem dX4_workedOut_144 : decode cX4_workedOut 144 = .ok (.iload_n 3, 1) := by decide +kernel
theorem dX4_workedOut_145 : decode cX4_workedOut 145 = .ok (.iload 4, 2) := by decide +kernel
theorem dX4_workedOut_147 : decode cX4_workedOut 147 = .ok (.invokevirtual 44, 3) := by decide +kernel
theorem dX4_workedOut_150 : decode cX4_workedOut 150 = .ok (.aload_n 0, 1) := by decide +kernel
theorem dX4_workedOut_151 : decode cX4_workedOut 151 = .ok (.getfield 27, 3) := by decide +kernel
theorem dX4_workedOut_154 : decode cX4_workedOut 154 = .ok (.isub, 1) := by decide +kernel
theorem dX4_workedOut_155 : decode cX4_workedOut 155 = .ok (.ireturn, 1) := by decide +kernel
theorem dX4_workedOut_156 : decode cX4_workedOut 156 = .ok (.aload_n 0, 1) := by decide +kernel
theorem dX4_workedOut_157 : decode cX4_workedOut 157 = .ok (.iload_n 3, 1) := by decide +kernel
theorem dX4_workedOut_158 : decode cX4_workedOut 158 = .ok (.invokevirtual 65, 3) := by decide +kernel
theorem dX4_workedOut_161 : decode cX4_workedOut 161 = .ok (.ireturn, 1) := by decide +kernel
theorem dX4_workedOut_162 : decode cX4_workedOut 162 = .ok (.aload_n 0, 1) := by decide +kernel
theorem dX4_workedOut_163 : decode cX4_workedOut 163 = .ok (.iconst 0, 1) := by decide +kernel
theorem dX4_workedOut_164 : decode cX4_workedOut 164 = .ok (.iload_n 2, 1) := by decide +kernel
theorem dX4_workedOut_165 : decode cX4_workedOut 165 = .ok (.iload_n 3, 1) := by decide +kernel
theorem dX4_workedOut_166 : decode cX4_workedOut 166 = .ok (.iload 4, 2) := by decide +kernel
theorem dX4_workedOut_168 : decode cX4_workedOut 168 = .ok (.invokevirtual 44, 3) := by decide +kernel
theorem dX4_workedOut_171 : decode cX4_workedOut 171 = .ok (.iconst 4, 1) := by decide +kernel
theorem dX4_workedOut_172 : decode cX4_workedOut 172 = .ok (.isub, 1) := by decide +kernel
theorem dX4_workedOut_173 : decode cX4_workedOut 173 = .ok (.ireturn, 1) := by decide +kernel
theorem dX4_workedOut_174 : decode cX4_workedOut 174 = .ok (.aload_n 0, 1) := by decide +kernel
theorem dX4_workedOut_175 : decode cX4_workedOut 175 = .ok (.iconst 3, 1) := by decide +kernel
theorem dX4_workedOut_176 : decode cX4_workedOut 176 = .ok (.iload_n 2, 1) := by decide +kernel
theorem dX4_workedOut_177 : decode cX4_workedOut 177 = .ok (.iload_n 3, 1) := by decide +kernel
theorem dX4_workedOut_178 : decode cX4_workedOut 178 = .ok (.iload 4, 2) := by decide +kernel
theorem dX4_workedOut_180 : decode cX4_workedOut 180 = .ok (.invokevirtual 44, 3) := by decide +kernel
theorem dX4_workedOut_183 : decode cX4_workedOut 183 = .ok (.aload_n 0, 1) := by decide +kernel
theorem dX4_workedOut_184 : decode cX4_workedOut 184 = .ok (.iconst 1, 1) := by decide +kernel
theorem dX4_workedOut_185 : decode cX4_workedOut 185 = .ok (.aload_n 0, 1) := by decide +kernel
theorem dX4_workedOut_186 : decode cX4_workedOut 186 = .ok (.getfield 20, 3) := by decide +kernel
theorem dX4_workedOut_189 : decode cX4_workedOut 189 = .ok (.iconst 1, 1) := by decide +kernel
theorem dX4_workedOut_190 : decode cX4_workedOut 190 = .ok (.iload 4, 2) := by decide +kernel
theorem dX4_workedOut_192 : decode cX4_workedOut 192 = .ok (.invokevirtual 44, 3) := by decide +kernel
theorem dX4_workedOut_195 : decode cX4_workedOut 195 = .ok (.iadd, 1) := by decide +kernel
theorem dX4_workedOut_196 : decode cX4_workedOut 196 = .ok (.ireturn, 1) := by decide +kernel
theorem dX4_workedOut_197 : decode cX4_workedOut 197 = .ok (.iconst 0, 1) := by decide +kernel
theorem dX4_workedOut_198 : decode cX4_workedOut 198 = .ok (.aload_n 0, 1) := by decide +kernel
theorem dX4_workedOut_199 : decode cX4_workedOut 199 = .ok (.iconst 1, 1) := by decide +kernel
theorem dX4_workedOut_200 : decode cX4_workedOut 200 = .ok (.iload_n 2, 1) := by decide +kernel
theorem dX4_workedOut_201 : decode cX4_workedOut 201 = .ok (.iload_n 3, 1) := by decide +kernel
theorem dX4_workedOut_202 : decode cX4_workedOut 202 = .ok (.iload 4, 2) := by decide +kernel
theorem dX4_workedOut_204 : decode cX4_workedOut 204 = .ok (.invokevirtual 44, 3) := by decide +kernel
theorem dX4_workedOut_207 : decode cX4_workedOut 207 = .ok (.isub, 1) := by decide +kernel
theorem dX4_workedOut_208 : decode cX4_workedOut 208 = .ok (.ireturn, 1) := by decide +kernel
theorem dX4_workedOut_209 : decode cX4_workedOut 209 = .ok (.aload_n 0, 1) := by decide +kernel
theorem dX4_workedOut_210 : decode cX4_workedOut 210 = .ok (.iconst 2, 1) := by decide +kernel
theorem dX4_workedOut_211 : decode cX4_workedOut 211 = .ok (.iload_n 2, 1) := by decide +kernel
theorem dX4_workedOut_212 : decode cX4_workedOut 212 = .ok (.iload_n 3, 1) := by decide +kernel
theorem dX4_workedOut_213 : decode cX4_workedOut 213 = .ok (.iconst 2, 1) := by decide +kernel
theorem dX4_workedOut_214 : decode cX4_workedOut 214 = .ok (.idiv, 1) := by decide +kernel
theorem dX4_workedOut_215 : decode cX4_workedOut 215 = .ok (.iload 4, 2) := by decide +kernel
theorem dX4_workedOut_217 : decode cX4_workedOut 217 = .ok (.invokevirtual 44, 3) := by decide +kernel
theorem dX4_workedOut_220 : decode cX4_workedOut 220 = .ok (.ireturn, 1) := by decide +kernel
theorem dX4_workedOut_221 : decode cX4_workedOut 221 = .ok (.aload_n 0, 1) := by decide +kernel
theorem dX4_workedOut_222 : decode cX4_workedOut 222 = .ok (.iconst 1, 1) := by decide +kernel
theorem dX4_workedOut_223 : decode cX4_workedOut 223 = .ok (.iload_n 2, 1) := by decide +kernel
theorem dX4_workedOut_224 : decode cX4_workedOut 224 = .ok (.iload_n 3, 1) := by decide +kernel
theorem dX4_workedOut_225 : decode cX4_workedOut 225 = .ok (.iload 4, 2) := by decide +kernel
theorem dX4_workedOut_227 : decode cX4_workedOut 227 = .ok (.invokevirtual 44, 3) := by decide +kernel
theorem dX4_workedOut_230 : decode cX4_workedOut 230 = .ok (.aload_n 0, 1) := by decide +kernel
theorem dX4_workedOut_231 : decode cX4_workedOut 231 = .ok (.getfield 24, 3) := by decide +kernel
theorem dX4_workedOut_234 : decode cX4_workedOut 234 = .ok (.iadd, 1) := by decide +kernel
theorem dX4_workedOut_235 : decode cX4_workedOut 235 = .ok (.ireturn, 1) := by decide +kernel
theorem dX4_workedOut_236 : decode cX4_workedOut 236 = .ok (.aload_n 0, 1) := by decide +kernel
theorem dX4_workedOut_237 : decode cX4_workedOut 237 = .ok (.iconst 0, 1) := by decide +kernel
theorem dX4_workedOut_238 : decode cX4_workedOut 238 = .ok (.iload_n 2, 1) := by decide +kernel
theorem dX4_workedOut_239 : decode cX4_workedOut 239 = .ok (.iload_n 3, 1) := by decide +kernel
theorem dX4_workedOut_240 : decode cX4_workedOut 240 = .ok (.iload 4, 2) := by decide +kernel
theorem dX4_workedOut_242 : decode cX4_workedOut 242 = .ok (.invokevirtual 44, 3) := by decide +kernel
theorem dX4_workedOut_245 : decode cX4_workedOut 245 = .ok (.iconst 3, 1) := by decide +kernel
theorem dX4_workedOut_246 : decode cX4_workedOut 246 = .ok (.imul, 1) := by decide +kernel
theorem dX4_workedOut_247 : decode cX4_workedOut 247 = .ok (.ireturn, 1) := by decide +kernel
theorem dX4_workedOut_248 : decode cX4_workedOut 248 = .ok (.aload_n 0, 1) := by decide +kernel
theorem dX4_workedOut_249 : decode cX4_workedOut 249 = .ok (.iconst 3, 1) := by decide +kernel
theorem dX4_workedOut_250 : decode cX4_workedOut 250 = .ok (.iload_n 2, 1) := by decide +kernel
theorem dX4_workedOut_251 : decode cX4_workedOut 251 = .ok (.iload_n 3, 1) := by decide +kernel
theorem dX4_workedOut_252 : decode cX4_workedOut 252 = .ok (.iload 4, 2) := by decide +kernel
theorem dX4_workedOut_254 : decode cX4_workedOut 254 = .ok (.invokevirtual 44, 3) := by decide +kernel
theorem dX4_workedOut_257 : decode cX4_workedOut 257 = .ok (.aload_n 0, 1) := by decide +kernel
theorem dX4_workedOut_258 : decode cX4_workedOut 258 = .ok (.iconst 2, 1) := by decide +kernel
theorem dX4_workedOut_259 : decode cX4_workedOut 259 = .ok (.aload_n 0, 1) := by decide +kernel
theorem dX4_workedOut_260 : decode cX4_workedOut 260 = .ok (.getfield 20, 3) := by decide +kernel
theorem dX4_workedOut_263 : decode cX4_workedOut 263 = .ok (.iconst 0, 1) := by decide +kernel
theorem dX4_workedOut_264 : decode cX4_workedOut 264 = .ok (.iload 4, 2) := by decide +kernel
theorem dX4_workedOut_266 : decode cX4_workedOut 266 = .ok (.invokevirtual 44, 3) := by decide +kernel
theorem dX4_workedOut_269 : decode cX4_workedOut 269 = .ok (.isub, 1) := by decide +kernel
theorem dX4_workedOut_270 : decode cX4_workedOut 270 = .ok (.ireturn, 1) := by decide +kernel
theorem dX4_workedOut_271 : decode cX4_workedOut 271 = .ok (.aload_n 0, 1) := by decide +kernel
theorem dX4_workedOut_272 : decode cX4_workedOut 272 = .ok (.iconst 2, 1) := by decide +kernel
theorem dX4_workedOut_273 : decode cX4_workedOut 273 = .ok (.iload_n 2, 1) := by decide +kernel
theorem dX4_workedOut_274 : decode cX4_workedOut 274 = .ok (.iload_n 3, 1) := by decide +kernel
theorem dX4_workedOut_275 : decode cX4_workedOut 275 = .ok (.iload 4, 2) := by decide +kernel
theorem dX4_workedOut_277 : decode cX4_workedOut 277 = .ok (.invokevirtual 44, 3) := by decide +kernel
theorem dX4_workedOut_280 : decode cX4_workedOut 280 = .ok (.aload_n 0, 1) := by decide +kernel
theorem dX4_workedOut_281 : decode cX4_workedOut 281 = .ok (.getfield 27, 3) := by decide +kernel
theorem dX4_workedOut_284 : decode cX4_workedOut 284 = .ok (.ixor, 1) := by decide +kernel
theorem dX4_workedOut_285 : decode cX4_workedOut 285 = .ok (.ireturn, 1) := by decide +kernel
theorem dX4_workedOut_286 : decode cX4_workedOut 286 = .ok (.aload_n 0, 1) := by decide +kernel
theorem dX4_workedOut_287 : decode cX4_workedOut 287 = .ok (.iconst 2, 1) := by decide +kernel
theorem dX4_workedOut_288 : decode cX4_workedOut 288 = .ok (.iload_n 2, 1) := by decide +kernel
theorem dX4_workedOut_289 : decode cX4_workedOut 289 = .ok (.iload_n 3, 1) := by decide +kernel
theorem dX4_workedOut_290 : decode cX4_workedOut 290 = .ok (.iconst 1, 1) := by decide +kernel
theorem dX4_workedOut_291 : decode cX4_workedOut 291 = .ok (.iadd, 1) := by decide +kernel
theorem dX4_workedOut_292 : decode cX4_workedOut 292 = .ok (.iload 4, 2) := by decide +kernel
theorem dX4_workedOut_294 : decode cX4_workedOut 294 = .ok (.invokevirtual 44, 3) := by decide +kernel
theorem dX4_workedOut_297 : decode cX4_workedOut 297 = .ok (.ireturn, 1) := by decide +kernel
theorem dX4_workedOut_298 : decode cX4_workedOut 298 = .ok (.bipush 6, 2) := by decide +kernel
theorem dX4_workedOut_300 : decode cX4_workedOut 300 = .ok (.ireturn, 1) := by decide +kernel
theorem dX4_mended_0 : decode cX4_mended 0 = .ok (.aload_n 0, 1) := by decide +kernel
theorem dX4_mended_1 : decode cX4_mended 1 = .ok (.getfield 27, 3) := by decide +kernel
theorem dX4_mended_4 : decode cX4_mended 4 = .ok (.aload_n 0, 1) := by decide +kernel
theorem dX4_mended_5 : decode cX4_mended 5 = .ok (.getfield 24, 3) := by decide +kernel
theorem dX4_mended_8 : decode cX4_mended 8 = .ok (.isub, 1) := by decide +kernel
theorem dX4_mended_9 : decode cX4_mended 9 = .ok (.istore_n 2, 1) := by decide +kernel
theorem dX4_mended_10 : decode cX4_mended 10 = .ok (.iload_n 2, 1) := by decide +kernel
theorem dX4_mended_11 : decode cX4_mended 11 = .ok (.ifCond .ne 10, 3) := by decide +kernel
theorem dX4_mended_14 : decode cX4_mended 14 = .ok (.aload_n 0, 1) := by decide +kernel
theorem dX4_mended_15 : decode cX4_mended 15 = .ok (.iconst 1, 1) := by decide +kernel
theorem dX4_mended_16 : decode cX4_mended 16 = .ok (.putfield 30, 3) := by decide +kernel
theorem dX4_mended_19 : decode cX4_mended 19 = .ok (.iconst 0, 1) := by decide +kernel
theorem dX4_mended_20 : decode cX4_mended 20 = .ok (.ireturn, 1) := by decide +kernel
theorem dX4_mended_21 : decode cX4_mended 21 = .ok (.iload_n 1, 1) := by decide +kernel
theorem dX4_mended_22 : decode cX4_mended 22 = .ok (.iload_n 2, 1) := by decide +kernel
theorem dX4_mended_23 : decode cX4_mended 23 = .ok (.idiv, 1) := by decide +kernel
theorem dX4_mended_24 : decode cX4_mended 24 = .ok (.ireturn, 1) := by decide +kernel
theorem dX4_bodyOf_0 : decode cX4_bodyOf 0 = .ok (.iload_n 0, 1) := by decide +kernel
theorem dX4_bodyOf_1 : decode cX4_bodyOf 1 = .ok (.iconst 0, 1) := by decide +kernel
theorem dX4_bodyOf_2 : decode cX4_bodyOf 2 = .ok (.bipush 6, 2) := by decide +kernel
theorem dX4_bodyOf_4 : decode cX4_bodyOf 4 = .ok (.invokestatic 68, 3) := by decide +kernel
theorem dX4_bodyOf_7 : decode cX4_bodyOf 7 = .ok (.ifCond .eq 16, 3) := by decide +kernel
theorem dX4_bodyOf_10 : decode cX4_bodyOf 10 = .ok (.iload_n 1, 1) := by decide +kernel
theorem dX4_bodyOf_11 : decode cX4_bodyOf 11 = .ok (.iconst 0, 1) := by decide +kernel
theorem dX4_bodyOf_12 : decode cX4_bodyOf 12 = .ok (.iconst 3, 1) := by decide +kernel
theorem dX4_bodyOf_13 : decode cX4_bodyOf 13 = .ok (.invokestatic 68, 3) := by decide +kernel
theorem dX4_bodyOf_16 : decode cX4_bodyOf 16 = .ok (.ifCond .eq 7, 3) := by decide +kernel
theorem dX4_bodyOf_19 : decode cX4_bodyOf 19 = .ok (.iconst 1, 1) := by decide +kernel
theorem dX4_bodyOf_20 : decode cX4_bodyOf 20 = .ok (.goto 4, 3) := by decide +kernel
theorem dX4_bodyOf_23 : decode cX4_bodyOf 23 = .ok (.iconst 0, 1) := by decide +kernel
theorem dX4_bodyOf_24 : decode cX4_bodyOf 24 = .ok (.istore_n 2, 1) := by decide +kernel
theorem dX4_bodyOf_25 : decode cX4_bodyOf 25 = .ok (.iload_n 2, 1) := by decide +kernel
theorem dX4_bodyOf_26 : decode cX4_bodyOf 26 = .ok (.ifCond .eq 15, 3) := by decide +kernel
theorem dX4_bodyOf_29 : decode cX4_bodyOf 29 = .ok (.getstatic 72, 3) := by decide +kernel
theorem dX4_bodyOf_32 : decode cX4_bodyOf 32 = .ok (.iload_n 0, 1) := by decide +kernel
theorem dX4_bodyOf_33 : decode cX4_bodyOf 33 = .ok (.iconst 4, 1) := by decide +kernel
theorem dX4_bodyOf_34 : decode cX4_bodyOf 34 = .ok (.imul, 1) := by decide +kernel
theorem dX4_bodyOf_35 : decode cX4_bodyOf 35 = .ok (.iload_n 1, 1) := by decide +kernel
theorem dX4_bodyOf_36 : decode cX4_bodyOf 36 = .ok (.iadd, 1) := by decide +kernel
theorem dX4_bodyOf_37 : decode cX4_bodyOf 37 = .ok (.iaload, 1) := by decide +kernel
theorem dX4_bodyOf_38 : decode cX4_bodyOf 38 = .ok (.goto 4, 3) := by decide +kernel
theorem dX4_bodyOf_41 : decode cX4_bodyOf 41 = .ok (.iconst 0, 1) := by decide +kernel
theorem dX4_bodyOf_42 : decode cX4_bodyOf 42 = .ok (.ireturn, 1) := by decide +kernel
theorem dX5_init_0 : decode cX5_init 0 = .ok (.aload_n 0, 1) := by decide +kernel
theorem dX5_init_1 : decode cX5_init 1 = .ok (.invokespecial 3, 3) := by decide +kernel
theorem dX5_init_4 : decode cX5_init 4 = .ok (.aload_n 0, 1) := by decide +kernel
theorem dX5_init_5 : decode cX5_init 5 = .ok (.new 9, 3) := by decide +kernel
theorem dX5_init_8 : decode cX5_init 8 = .ok (.dup, 1) := by decide +kernel
theorem dX5_init_9 : decode cX5_init 9 = .ok (.iconst 5, 1) := by decide +kernel
theorem dX5_init_10 : decode cX5_init 10 = .ok (.bipush 24, 2) := by decide +kernel
theorem dX5_init_12 : decode cX5_init 12 = .ok (.invokespecial 11, 3) := by decide +kernel
theorem dX5_init_15 : decode cX5_init 15 = .ok (.putfield 14, 3) := by decide +kernel
theorem dX5_init_18 : decode cX5_init 18 = .ok (.aload_n 0, 1) := by decide +kernel
theorem dX5_init_19 : decode cX5_init 19 = .ok (.new 20, 3) := by decide +kernel
theorem dX5_init_22 : decode cX5_init 22 = .ok (.dup, 1) := by decide +kernel
theorem dX5_init_23 : decode cX5_init 23 = .ok (.invokespecial 22, 3) := by decide +kernel
theorem dX5_init_26 : decode cX5_init 26 = .ok (.putfield 23, 3) := by decide +kernel
theorem dX5_init_29 : decode cX5_init 29 = .ok (.aload_n 0, 1) := by decide +kernel
theorem dX5_init_30 : decode cX5_init 30 = .ok (.new 9, 3) := by decide +kernel
theorem dX5_init_33 : decode cX5_init 33 = .ok (.dup, 1) := by decide +kernel
theorem dX5_init_34 : decode cX5_init 34 = .ok (.iconst 4, 1) := by decide +kernel
theorem dX5_init_35 : decode cX5_init 35 = .ok (.bipush 16, 2) := by decide +kernel
theorem dX5_init_37 : decode cX5_init 37 = .ok (.invokespecial 11, 3) := by decide +kernel
theorem dX5_init_40 : decode cX5_init 40 = .ok (.putfield 27, 3) := by decide +kernel
theorem dX5_init_43 : decode cX5_init 43 = .ok (.aload_n 0, 1) := by decide +kernel
theorem dX5_init_44 : decode cX5_init 44 = .ok (.new 9, 3) := by decide +kernel
theorem dX5_init_47 : decode cX5_init 47 = .ok (.dup, 1) := by decide +kernel
theorem dX5_init_48 : decode cX5_init 48 = .ok (.iconst 1, 1) := by decide +kernel
theorem dX5_init_49 : decode cX5_init 49 = .ok (.bipush 60, 2) := by decide +kernel
theorem dX5_init_51 : decode cX5_init 51 = .ok (.invokespecial 11, 3) := by decide +kernel
theorem dX5_init_54 : decode cX5_init 54 = .ok (.putfield 30, 3) := by decide +kernel
theorem dX5_init_57 : decode cX5_init 57 = .ok (.aload_n 0, 1) := by decide +kernel
theorem dX5_init_58 : decode cX5_init 58 = .ok (.new 9, 3) := by decide +kernel
theorem dX5_init_61 : decode cX5_init 61 = .ok (.dup, 1) := by decide +kernel
theorem dX5_init_62 : decode cX5_init 62 = .ok (.iconst 1, 1) := by decide +kernel
theorem dX5_init_63 : decode cX5_init 63 = .ok (.bipush 24, 2) := by decide +kernel
theorem dX5_init_65 : decode cX5_init 65 = .ok (.invokespecial 11, 3) := by decide +kernel
theorem dX5_init_68 : decode cX5_init 68 = .ok (.putfield 33, 3) := by decide +kernel
theorem dX5_init_71 : decode cX5_init 71 = .ok (.aload_n 0, 1) := by decide +kernel
theorem dX5_init_72 : decode cX5_init 72 = .ok (.new 36, 3) := by decide +kernel
theorem dX5_init_75 : decode cX5_init 75 = .ok (.dup, 1) := by decide +kernel
theorem dX5_init_76 : decode cX5_init 76 = .ok (.invokespecial 38, 3) := by decide +kernel
theorem dX5_init_79 : decode cX5_init 79 = .ok (.putfield 39, 3) := by decide +kernel
theorem dX5_init_82 : decode cX5_init 82 = .ok (.aload_n 0, 1) := by decide +kernel
theorem dX5_init_83 : decode cX5_init 83 = .ok (.new 36, 3) := by decide +kernel
theorem dX5_init_86 : decode cX5_init 86 = .ok (.dup, 1) := by decide +kernel
theorem dX5_init_87 : decode cX5_init 87 = .ok (.invokespecial 38, 3) := by decide +kernel
theorem dX5_init_90 : decode cX5_init 90 = .ok (.putfield 43, 3) := by decide +kernel
theorem dX5_init_93 : decode cX5_init 93 = .ok (.aload_n 0, 1) := by decide +kernel
theorem dX5_init_94 : decode cX5_init 94 = .ok (.iconst 0, 1) := by decide +kernel
theorem dX5_init_95 : decode cX5_init 95 = .ok (.putfield 46, 3) := by decide +kernel
theorem dX5_init_98 : decode cX5_init 98 = .ok (.aload_n 0, 1) := by decide +kernel
theorem dX5_init_99 : decode cX5_init 99 = .ok (.sipush 21120, 3) := by decide +kernel
theorem dX5_init_102 : decode cX5_init 102 = .ok (.putfield 50, 3) := by decide +kernel
theorem dX5_init_105 : decode cX5_init 105 = .ok (.aload_n 0, 1) := by decide +kernel
theorem dX5_init_106 : decode cX5_init 106 = .ok (.iconst 1, 1) := by decide +kernel
theorem dX5_init_107 : decode cX5_init 107 = .ok (.putfield 53, 3) := by decide +kernel
theorem dX5_init_110 : decode cX5_init 110 = .ok (.aload_n 0, 1) := by decide +kernel
theorem dX5_init_111 : decode cX5_init 111 = .ok (.getfield 14, 3) := by decide +kernel
theorem dX5_init_114 : decode cX5_init 114 = .ok (.bipush 12, 2) := by decide +kernel
theorem dX5_init_116 : decode cX5_init 116 = .ok (.invokevirtual 56, 3) := by decide +kernel
theorem dX5_init_119 : decode cX5_init 119 = .ok (.return_, 1) := by decide +kernel
theorem dX5_draw_0 : decode cX5_draw 0 = .ok (.aload_n 0, 1) := by decide +kernel
theorem dX5_draw_1 : decode cX5_draw 1 = .ok (.aload_n 0, 1) := by decide +kernel
theorem dX5_draw_2 : decode cX5_draw 2 = .ok (.getfield 53, 3) := by decide +kernel
theorem dX5_draw_5 : decode cX5_draw 5 = .ok (.ldc 60, 2) := by decide +kernel
theorem dX5_draw_7 : decode cX5_draw 7 = .ok (.imul, 1) := by decide +kernel
theorem dX5_draw_8 : decode cX5_draw 8 = .ok (.sipush 12345, 3) := by decide +kernel
theorem dX5_draw_11 : decode cX5_draw 11 = .ok (.iadd, 1) := by decide +kernel
theorem dX5_draw_12 : decode cX5_draw 12 = .ok (.putfield 53, 3) := by decide +kernel
theorem dX5_draw_15 : decode cX5_draw 15 = .ok (.aload_n 0, 1) := by decide +kernel
theorem dX5_draw_16 : decode cX5_draw 16 = .ok (.getfield 53, 3) := by decide +kernel
theorem dX5_draw_19 : decode cX5_draw 19 = .ok (.bipush 8, 2) := by decide +kernel
theorem dX5_draw_21 : decode cX5_draw 21 = .ok (.iushr, 1) := by decide +kernel
theorem dX5_draw_22 : decode cX5_draw 22 = .ok (.ireturn, 1) := by decide +kernel
theorem dX5_take_0 : decode cX5_take 0 = .ok (.aload_n 0, 1) := by decide +kernel
theorem dX5_take_1 : decode cX5_take 1 = .ok (.getfield 14, 3) := by decide +kernel
theorem dX5_take_4 : decode cX5_take 4 = .ok (.aload_n 1, 1) := by decide +kernel
theorem dX5_take_5 : decode cX5_take 5 = .ok (.getfield 14, 3) := by decide +kernel
theorem dX5_take_8 : decode cX5_take 8 = .ok (.invokevirtual 61, 3) := by decide +kernel
theorem dX5_take_11 : decode cX5_take 11 = .ok (.aload_n 0, 1) := by decide +kernel
theorem dX5_take_12 : decode cX5_take 12 = .ok (.getfield 23, 3) := by decide +kernel
theorem dX5_take_15 : decode cX5_take 15 = .ok (.aload_n 1, 1) := by decide +kernel
theorem dX5_take_16 : decode cX5_take 16 = .ok (.getfield 23, 3) := by decide +kernel
theorem dX5_take_19 : decode cX5_take 19 = .ok (.invokevirtual 65, 3) := by decide +kernel
theorem dX5_take_22 : decode cX5_take 22 = .ok (.aload_n 0, 1) := by decide +kernel
theorem dX5_take_23 : decode cX5_take 23 = .ok (.getfield 27, 3) := by decide +kernel
theorem dX5_take_26 : decode cX5_take 26 = .ok (.aload_n 1, 1) := by decide +kernel
theorem dX5_take_27 : decode cX5_take 27 = .ok (.getfield 27, 3) := by decide +kernel
theorem dX5_take_30 : decode cX5_take 30 = .ok (.invokevirtual 61, 3) := by decide +kernel
theorem dX5_take_33 : decode cX5_take 33 = .ok (.aload_n 0, 1) := by decide +kernel
theorem dX5_take_34 : decode cX5_take 34 = .ok (.getfield 30, 3) := by decide +kernel
theorem dX5_take_37 : decode cX5_take 37 = .ok (.aload_n 1, 1) := by decide +kernel
theorem dX5_take_38 : decode cX5_take 38 = .ok (.getfield 30, 3) := by decide +kernel
theorem dX5_take_41 : decode cX5_take 41 = .ok (.invokevirtual 61, 3) := by decide +kernel
theorem dX5_take_44 : decode cX5_take 44 = .ok (.aload_n 0, 1) := by decide +kernel
theorem dX5_take_45 : decode cX5_take 45 = .ok (.getfield 33, 3) := by decide +kernel
theorem dX5_take_48 : decode cX5_take 48 = .ok (.aload_n 1, 1) := by decide +kernel
theorem dX5_take_49 : decode cX5_take 49 = .ok (.getfield 33, 3) := by decide +kernel
theorem dX5_take_52 : decode cX5_take 52 = .ok (.invokevirtual 61, 3) := by decide +kernel
theorem dX5_take_55 : decode cX5_take 55 = .ok (.aload_n 0, 1) := by decide +kernel
theorem dX5_take_56 : decode cX5_take 56 = .ok (.getfield 39, 3) := by decide +kernel
theorem dX5_take_59 : decode cX5_take 59 = .ok (.aload_n 1, 1) := by decide +kernel
theorem dX5_take_60 : decode cX5_take 60 = .ok (.getfield 39, 3) := by decide +kernel
theorem dX5_take_63 : decode cX5_take 63 = .ok (.invokevirtual 66, 3) := by decide +kernel
theorem dX5_take_66 : decode cX5_take 66 = .ok (.aload_n 0, 1) := by decide +kernel
theorem dX5_take_67 : decode cX5_take 67 = .ok (.getfield 43, 3) := by decide +kernel
theorem dX5_take_70 : decode cX5_take 70 = .ok (.aload_n 1, 1) := by decide +kernel
theorem dX5_take_71 : decode cX5_take 71 = .ok (.getfield 43, 3) := by decide +kernel
theorem dX5_take_74 : decode cX5_take 74 = .ok (.invokevirtual 66, 3) := by decide +kernel
theorem dX5_take_77 : decode cX5_take 77 = .ok (.aload_n 0, 1) := by decide +kernel
theorem dX5_take_78 : decode cX5_take 78 = .ok (.aload_n 1, 1) := by decide +kernel
theorem dX5_take_79 : decode cX5_take 79 = .ok (.getfield 46, 3) := by decide +kernel
theorem dX5_take_82 : decode cX5_take 82 = .ok (.putfield 46, 3) := by decide +kernel
theorem dX5_take_85 : decode cX5_take 85 = .ok (.aload_n 0, 1) := by decide +kernel
theorem dX5_take_86 : decode cX5_take 86 = .ok (.aload_n 1, 1) := by decide +kernel
theorem dX5_take_87 : decode cX5_take 87 = .ok (.getfield 50, 3) := by decide +kernel
theorem dX5_take_90 : decode cX5_take 90 = .ok (.putfield 50, 3) := by decide +kernel
theorem dX5_take_93 : decode cX5_take 93 = .ok (.aload_n 0, 1) := by decide +kernel
theorem dX5_take_94 : decode cX5_take 94 = .ok (.aload_n 1, 1) := by decide +kernel
theorem dX5_take_95 : decode cX5_take 95 = .ok (.getfield 53, 3) := by decide +kernel
theorem dX5_take_98 : decode cX5_take 98 = .ok (.putfield 53, 3) := by decide +kernel
theorem dX5_take_101 : decode cX5_take 101 = .ok (.return_, 1) := by decide +kernel
theorem dX6_init_0 : decode cX6_init 0 = .ok (.aload_n 0, 1) := by decide +kernel
theorem dX6_init_1 : decode cX6_init 1 = .ok (.invokespecial 3, 3) := by decide +kernel
theorem dX6_init_4 : decode cX6_init 4 = .ok (.aload_n 0, 1) := by decide +kernel
theorem dX6_init_5 : decode cX6_init 5 = .ok (.iconst 0, 1) := by decide +kernel
theorem dX6_init_6 : decode cX6_init 6 = .ok (.putfield 9, 3) := by decide +kernel
theorem dX6_init_9 : decode cX6_init 9 = .ok (.aload_n 0, 1) := by decide +kernel
theorem dX6_init_10 : decode cX6_init 10 = .ok (.iload_n 1, 1) := by decide +kernel
theorem dX6_init_11 : decode cX6_init 11 = .ok (.iconst 5, 1) := by decide +kernel
theorem dX6_init_12 : decode cX6_init 12 = .ok (.invokestatic 15, 3) := by decide +kernel
theorem dX6_init_15 : decode cX6_init 15 = .ok (.putfield 19, 3) := by decide +kernel
theorem dX6_init_18 : decode cX6_init 18 = .ok (.aload_n 0, 1) := by decide +kernel
theorem dX6_init_19 : decode cX6_init 19 = .ok (.iload_n 2, 1) := by decide +kernel
theorem dX6_init_20 : decode cX6_init 20 = .ok (.bipush 60, 2) := by decide +kernel
theorem dX6_init_22 : decode cX6_init 22 = .ok (.invokestatic 15, 3) := by decide +kernel
theorem dX6_init_25 : decode cX6_init 25 = .ok (.putfield 22, 3) := by decide +kernel
theorem dX6_init_28 : decode cX6_init 28 = .ok (.aload_n 0, 1) := by decide +kernel
theorem dX6_init_29 : decode cX6_init 29 = .ok (.aload_n 0, 1) := by decide +kernel
theorem dX6_init_30 : decode cX6_init 30 = .ok (.getfield 19, 3) := by decide +kernel
theorem dX6_init_33 : decode cX6_init 33 = .ok (.aload_n 0, 1) := by decide +kernel
theorem dX6_init_34 : decode cX6_init 34 = .ok (.getfield 22, 3) := by decide +kernel
theorem dX6_init_37 : decode cX6_init 37 = .ok (.imul, 1) := by decide +kernel
theorem dX6_init_38 : decode cX6_init 38 = .ok (.newarray .int, 2) := by decide +kernel
theorem dX6_init_40 : decode cX6_init 40 = .ok (.putfield 25, 3) := by decide +kernel
theorem dX6_init_43 : decode cX6_init 43 = .ok (.return_, 1) := by decide +kernel
theorem dX6_used_0 : decode cX6_used 0 = .ok (.aload_n 0, 1) := by decide +kernel
theorem dX6_used_1 : decode cX6_used 1 = .ok (.getfield 9, 3) := by decide +kernel
theorem dX6_used_4 : decode cX6_used 4 = .ok (.ireturn, 1) := by decide +kernel
theorem dX6_use_0 : decode cX6_use 0 = .ok (.aload_n 0, 1) := by decide +kernel
theorem dX6_use_1 : decode cX6_use 1 = .ok (.iload_n 1, 1) := by decide +kernel
theorem dX6_use_2 : decode cX6_use 2 = .ok (.aload_n 0, 1) := by decide +kernel
theorem dX6_use_3 : decode cX6_use 3 = .ok (.getfield 22, 3) := by decide +kernel
theorem dX6_use_6 : decode cX6_use 6 = .ok (.invokestatic 15, 3) := by decide +kernel
theorem dX6_use_9 : decode cX6_use 9 = .ok (.putfield 9, 3) := by decide +kernel
theorem dX6_use_12 : decode cX6_use 12 = .ok (.return_, 1) := by decide +kernel
theorem dX6_has_0 : decode cX6_has 0 = .ok (.iload_n 1, 1) := by decide +kernel
theorem dX6_has_1 : decode cX6_has 1 = .ok (.iconst 0, 1) := by decide +kernel
theorem dX6_has_2 : decode cX6_has 2 = .ok (.aload_n 0, 1) := by decide +kernel
theorem dX6_has_3 : decode cX6_has 3 = .ok (.getfield 9, 3) := by decide +kernel
theorem dX6_has_6 : decode cX6_has 6 = .ok (.iconst 1, 1) := by decide +kernel
theorem dX6_has_7 : decode cX6_has 7 = .ok (.isub, 1) := by decide +kernel
theorem dX6_has_8 : decode cX6_has 8 = .ok (.invokestatic 29, 3) := by decide +kernel
theorem dX6_has_11 : decode cX6_has 11 = .ok (.ireturn, 1) := by decide +kernel
theorem dX6_isFull_0 : decode cX6_isFull 0 = .ok (.aload_n 0, 1) := by decide +kernel
theorem dX6_isFull_1 : decode cX6_isFull 1 = .ok (.getfield 9, 3) := by decide +kernel
theorem dX6_isFull_4 : decode cX6_isFull 4 = .ok (.aload_n 0, 1) := by decide +kernel
theorem dX6_isFull_5 : decode cX6_isFull 5 = .ok (.getfield 22, 3) := by decide +kernel
theorem dX6_isFull_8 : decode cX6_isFull 8 = .ok (.if_icmp .lt 7, 3) := by decide +kernel
theorem dX6_isFull_11 : decode cX6_isFull 11 = .ok (.iconst 1, 1) := by decide +kernel
theorem dX6_isFull_12 : decode cX6_isFull 12 = .ok (.goto 4, 3) := by decide +kernel
theorem dX6_isFull_15 : decode cX6_isFull 15 = .ok (.iconst 0, 1) := by decide +kernel
theorem dX6_isFull_16 : decode cX6_isFull 16 = .ok (.ireturn, 1) := by decide +kernel
theorem dX6_add_0 : decode cX6_add 0 = .ok (.aload_n 0, 1) := by decide +kernel
theorem dX6_add_1 : decode cX6_add 1 = .ok (.getfield 9, 3) := by decide +kernel
theorem dX6_add_4 : decode cX6_add 4 = .ok (.istore_n 2, 1) := by decide +kernel
theorem dX6_add_5 : decode cX6_add 5 = .ok (.aload_n 0, 1) := by decide +kernel
theorem dX6_add_6 : decode cX6_add 6 = .ok (.aload_n 0, 1) := by decide +kernel
theorem dX6_add_7 : decode cX6_add 7 = .ok (.getfield 9, 3) := by decide +kernel
theorem dX6_add_10 : decode cX6_add 10 = .ok (.iconst 1, 1) := by decide +kernel
theorem dX6_add_11 : decode cX6_add 11 = .ok (.iadd, 1) := by decide +kernel
theorem dX6_add_12 : decode cX6_add 12 = .ok (.invokevirtual 33, 3) := by decide +kernel
theorem dX6_add_15 : decode cX6_add 15 = .ok (.aload_n 0, 1) := by decide +kernel
theorem dX6_add_16 : decode cX6_add 16 = .ok (.iconst 0, 1) := by decide +kernel
theorem dX6_add_17 : decode cX6_add 17 = .ok (.iload_n 2, 1) := by decide +kernel
theorem dX6_add_18 : decode cX6_add 18 = .ok (.iload_n 1, 1) := by decide +kernel
theorem dX6_add_19 : decode cX6_add 19 = .ok (.invokevirtual 37, 3) := by decide +kernel
theorem dX6_add_22 : decode cX6_add 22 = .ok (.iload_n 2, 1) := by decide +kernel
theorem dX6_add_23 : decode cX6_add 23 = .ok (.ireturn, 1) := by decide +kernel
theorem dX6_at_0 : decode cX6_at 0 = .ok (.aload_n 0, 1) := by decide +kernel
theorem dX6_at_1 : decode cX6_at 1 = .ok (.iload_n 1, 1) := by decide +kernel
theorem dX6_at_2 : decode cX6_at 2 = .ok (.iload_n 2, 1) := by decide +kernel
theorem dX6_at_3 : decode cX6_at 3 = .ok (.invokevirtual 41, 3) := by decide +kernel
theorem dX6_at_6 : decode cX6_at 6 = .ok (.ifCond .eq 19, 3) := by decide +kernel
theorem dX6_at_9 : decode cX6_at 9 = .ok (.aload_n 0, 1) := by decide +kernel
theorem dX6_at_10 : decode cX6_at 10 = .ok (.getfield 25, 3) := by decide +kernel
theorem dX6_at_13 : decode cX6_at 13 = .ok (.iload_n 1, 1) := by decide +kernel
theorem dX6_at_14 : decode cX6_at 14 = .ok (.aload_n 0, 1) := by decide +kernel
theorem dX6_at_15 : decode cX6_at 15 = .ok (.getfield 22, 3) := by decide +kernel
theorem dX6_at_18 : decode cX6_at 18 = .ok (.imul, 1) := by decide +kernel
theorem dX6_at_19 : decode cX6_at 19 = .ok (.iload_n 2, 1) := by decide +kernel
theorem dX6_at_20 : decode cX6_at 20 = .ok (.iadd, 1) := by decide +kernel
theorem dX6_at_21 : decode cX6_at 21 = .ok (.iaload, 1) := by decide +kernel
theorem dX6_at_22 : decode cX6_at 22 = .ok (.goto 4, 3) := by decide +kernel
theorem dX6_at_25 : decode cX6_at 25 = .ok (.iconst 0, 1) := by decide +kernel
theorem dX6_at_26 : decode cX6_at 26 = .ok (.ireturn, 1) := by decide +kernel
theorem dX6_set_0 : decode cX6_set 0 = .ok (.aload_n 0, 1) := by decide +kernel
theorem dX6_set_1 : decode cX6_set 1 = .ok (.iload_n 1, 1) := by decide +kernel
theorem dX6_set_2 : decode cX6_set 2 = .ok (.iload_n 2, 1) := by decide +kernel
theorem dX6_set_3 : decode cX6_set 3 = .ok (.invokevirtual 41, 3) := by decide +kernel
theorem dX6_set_6 : decode cX6_set 6 = .ok (.ifCond .eq 17, 3) := by decide +kernel
theorem dX6_set_9 : decode cX6_set 9 = .ok (.aload_n 0, 1) := by decide +kernel
theorem dX6_set_10 : decode cX6_set 10 = .ok (.getfield 25, 3) := by decide +kernel
theorem dX6_set_13 : decode cX6_set 13 = .ok (.iload_n 1, 1) := by decide +kernel
theorem dX6_set_14 : decode cX6_set 14 = .ok (.aload_n 0, 1) := by decide +kernel
theorem dX6_set_15 : decode cX6_set 15 = .ok (.getfield 22, 3) := by decide +kernel
theorem dX6_set_18 : decode cX6_set 18 = .ok (.imul, 1) := by decide +kernel
theorem dX6_set_19 : decode cX6_set 19 = .ok (.iload_n 2, 1) := by decide +kernel
theorem dX6_set_20 : decode cX6_set 20 = .ok (.iadd, 1) := by decide +kernel
theorem dX6_set_21 : decode cX6_set 21 = .ok (.iload_n 3, 1) := by decide +kernel
theorem dX6_set_22 : decode cX6_set 22 = .ok (.iastore, 1) := by decide +kernel
theorem dX6_set_23 : decode cX6_set 23 = .ok (.return_, 1) := by decide +kernel
theorem dX6_howMany_0 : decode cX6_howMany 0 = .ok (.iconst 0, 1) := by decide +kernel
theorem dX6_howMany_1 : decode cX6_howMany 1 = .ok (.istore_n 3, 1) := by decide +kernel
theorem dX6_howMany_2 : decode cX6_howMany 2 = .ok (.iconst 0, 1) := by decide +kernel
theorem dX6_howMany_3 : decode cX6_howMany 3 = .ok (.istore 4, 2) := by decide +kernel
theorem dX6_howMany_5 : decode cX6_howMany 5 = .ok (.iload 4, 2) := by decide +kernel
theorem dX6_howMany_7 : decode cX6_howMany 7 = .ok (.aload_n 0, 1) := by decide +kernel
theorem dX6_howMany_8 : decode cX6_howMany 8 = .ok (.getfield 9, 3) := by decide +kernel
theorem dX6_howMany_11 : decode cX6_howMany 11 = .ok (.if_icmp .ge 23, 3) := by decide +kernel
theorem dX6_howMany_14 : decode cX6_howMany 14 = .ok (.aload_n 0, 1) := by decide +kernel
theorem dX6_howMany_15 : decode cX6_howMany 15 = .ok (.iload_n 1, 1) := by decide +kernel
theorem dX6_howMany_16 : decode cX6_howMany 16 = .ok (.iload 4, 2) := by decide +kernel
theorem dX6_howMany_18 : decode cX6_howMany 18 = .ok (.invokevirtual 45, 3) := by decide +kernel
theorem dX6_howMany_21 : decode cX6_howMany 21 = .ok (.iload_n 2, 1) := by decide +kernel
theorem dX6_howMany_22 : decode cX6_howMany 22 = .ok (.if_icmp .ne 6, 3) := by decide +kernel
theorem dX6_howMany_25 : decode cX6_howMany 25 = .ok (.iinc 3 1, 3) := by decide +kernel
theorem dX6_howMany_28 : decode cX6_howMany 28 = .ok (.iinc 4 1, 3) := by decide +kernel
theorem dX6_howMany_31 : decode cX6_howMany 31 = .ok (.goto (-26), 3) := by decide +kernel
theorem dX6_howMany_34 : decode cX6_howMany 34 = .ok (.iload_n 3, 1) := by decide +kernel
theorem dX6_howMany_35 : decode cX6_howMany 35 = .ok (.ireturn, 1) := by decide +kernel
theorem dX6_take_0 : decode cX6_take 0 = .ok (.aload_n 0, 1) := by decide +kernel
theorem dX6_take_1 : decode cX6_take 1 = .ok (.getfield 25, 3) := by decide +kernel
theorem dX6_take_4 : decode cX6_take 4 = .ok (.arraylength, 1) := by decide +kernel
theorem dX6_take_5 : decode cX6_take 5 = .ok (.aload_n 1, 1) := by decide +kernel
theorem dX6_take_6 : decode cX6_take 6 = .ok (.getfield 25, 3) := by decide +kernel
theorem dX6_take_9 : decode cX6_take 9 = .ok (.arraylength, 1) := by decide +kernel
theorem dX6_take_10 : decode cX6_take 10 = .ok (.invokestatic 48, 3) := by decide +kernel
theorem dX6_take_13 : decode cX6_take 13 = .ok (.istore_n 2, 1) := by decide +kernel
theorem dX6_take_14 : decode cX6_take 14 = .ok (.aload_n 1, 1) := by decide +kernel
theorem dX6_take_15 : decode cX6_take 15 = .ok (.getfield 25, 3) := by decide +kernel
theorem dX6_take_18 : decode cX6_take 18 = .ok (.iconst 0, 1) := by decide +kernel
theorem dX6_take_19 : decode cX6_take 19 = .ok (.aload_n 0, 1) := by decide +kernel
theorem dX6_take_20 : decode cX6_take 20 = .ok (.getfield 25, 3) := by decide +kernel
theorem dX6_take_23 : decode cX6_take 23 = .ok (.iconst 0, 1) := by decide +kernel
theorem dX6_take_24 : decode cX6_take 24 = .ok (.iload_n 2, 1) := by decide +kernel
theorem dX6_take_25 : decode cX6_take 25 = .ok (.invokestatic 53, 3) := by decide +kernel
theorem dX6_take_28 : decode cX6_take 28 = .ok (.aload_n 0, 1) := by decide +kernel
theorem dX6_take_29 : decode cX6_take 29 = .ok (.aload_n 1, 1) := by decide +kernel
theorem dX6_take_30 : decode cX6_take 30 = .ok (.getfield 9, 3) := by decide +kernel
theorem dX6_take_33 : decode cX6_take 33 = .ok (.invokevirtual 33, 3) := by decide +kernel
theorem dX6_take_36 : decode cX6_take 36 = .ok (.return_, 1) := by decide +kernel
theorem dX6_holds_0 : decode cX6_holds 0 = .ok (.iload_n 1, 1) := by decide +kernel
theorem dX6_holds_1 : decode cX6_holds 1 = .ok (.ifCond .lt 27, 3) := by decide +kernel
theorem dX6_holds_4 : decode cX6_holds 4 = .ok (.iload_n 1, 1) := by decide +kernel
theorem dX6_holds_5 : decode cX6_holds 5 = .ok (.aload_n 0, 1) := by decide +kernel
theorem dX6_holds_6 : decode cX6_holds 6 = .ok (.getfield 19, 3) := by decide +kernel
theorem dX6_holds_9 : decode cX6_holds 9 = .ok (.if_icmp .ge 19, 3) := by decide +kernel
theorem dX6_holds_12 : decode cX6_holds 12 = .ok (.iload_n 2, 1) := by decide +kernel
theorem dX6_holds_13 : decode cX6_holds 13 = .ok (.ifCond .lt 15, 3) := by decide +kernel
theorem dX6_holds_16 : decode cX6_holds 16 = .ok (.iload_n 2, 1) := by decide +kernel
theorem dX6_holds_17 : decode cX6_holds 17 = .ok (.aload_n 0, 1) := by decide +kernel
theorem dX6_holds_18 : decode cX6_holds 18 = .ok (.getfield 22, 3) := by decide +kernel
theorem dX6_holds_21 : decode cX6_holds 21 = .ok (.if_icmp .ge 7, 3) := by decide +kernel
theorem dX6_holds_24 : decode cX6_holds 24 = .ok (.iconst 1, 1) := by decide +kernel
theorem dX6_holds_25 : decode cX6_holds 25 = .ok (.goto 4, 3) := by decide +kernel
theorem dX6_holds_28 : decode cX6_holds 28 = .ok (.iconst 0, 1) := by decide +kernel
theorem dX6_holds_29 : decode cX6_holds 29 = .ok (.ireturn, 1) := by decide +kernel
theorem dX7_init_0 : decode cX7_init 0 = .ok (.aload_n 0, 1) := by decide +kernel
theorem dX7_init_1 : decode cX7_init 1 = .ok (.invokespecial 3, 3) := by decide +kernel
theorem dX7_init_4 : decode cX7_init 4 = .ok (.aload_n 0, 1) := by decide +kernel
theorem dX7_init_5 : decode cX7_init 5 = .ok (.bipush 25, 2) := by decide +kernel
theorem dX7_init_7 : decode cX7_init 7 = .ok (.newarray .int, 2) := by decide +kernel
theorem dX7_init_9 : decode cX7_init 9 = .ok (.putfield 9, 3) := by decide +kernel
theorem dX7_init_12 : decode cX7_init 12 = .ok (.aload_n 0, 1) := by decide +kernel
theorem dX7_init_13 : decode cX7_init 13 = .ok (.bipush 25, 2) := by decide +kernel
theorem dX7_init_15 : decode cX7_init 15 = .ok (.newarray .int, 2) := by decide +kernel
theorem dX7_init_17 : decode cX7_init 17 = .ok (.putfield 15, 3) := by decide +kernel
theorem dX7_init_20 : decode cX7_init 20 = .ok (.aload_n 0, 1) := by decide +kernel
theorem dX7_init_21 : decode cX7_init 21 = .ok (.bipush 24, 2) := by decide +kernel
theorem dX7_init_23 : decode cX7_init 23 = .ok (.newarray .int, 2) := by decide +kernel
theorem dX7_init_25 : decode cX7_init 25 = .ok (.putfield 18, 3) := by decide +kernel
theorem dX7_init_28 : decode cX7_init 28 = .ok (.aload_n 0, 1) := by decide +kernel
theorem dX7_init_29 : decode cX7_init 29 = .ok (.bipush 24, 2) := by decide +kernel
theorem dX7_init_31 : decode cX7_init 31 = .ok (.newarray .int, 2) := by decide +kernel
theorem dX7_init_33 : decode cX7_init 33 = .ok (.putfield 21, 3) := by decide +kernel
theorem dX7_init_36 : decode cX7_init 36 = .ok (.aload_n 0, 1) := by decide +kernel
theorem dX7_init_37 : decode cX7_init 37 = .ok (.bipush 24, 2) := by decide +kernel
theorem dX7_init_39 : decode cX7_init 39 = .ok (.newarray .int, 2) := by decide +kernel
theorem dX7_init_41 : decode cX7_init 41 = .ok (.putfield 24, 3) := by decide +kernel
theorem dX7_init_44 : decode cX7_init 44 = .ok (.aload_n 0, 1) := by decide +kernel
theorem dX7_init_45 : decode cX7_init 45 = .ok (.bipush 24, 2) := by decide +kernel
theorem dX7_init_47 : decode cX7_init 47 = .ok (.newarray .int, 2) := by decide +kernel
theorem dX7_init_49 : decode cX7_init 49 = .ok (.putfield 27, 3) := by decide +kernel
theorem dX7_init_52 : decode cX7_init 52 = .ok (.aload_n 0, 1) := by decide +kernel
theorem dX7_init_53 : decode cX7_init 53 = .ok (.bipush 24, 2) := by decide +kernel
theorem dX7_init_55 : decode cX7_init 55 = .ok (.newarray .int, 2) := by decide +kernel
theorem dX7_init_57 : decode cX7_init 57 = .ok (.putfield 30, 3) := by decide +kernel
theorem dX7_init_60 : decode cX7_init 60 = .ok (.aload_n 0, 1) := by decide +kernel
theorem dX7_init_61 : decode cX7_init 61 = .ok (.iconst 0, 1) := by decide +kernel
theorem dX7_init_62 : decode cX7_init 62 = .ok (.putfield 33, 3) := by decide +kernel
theorem dX7_init_65 : decode cX7_init 65 = .ok (.aload_n 0, 1) := by decide +kernel
theorem dX7_init_66 : decode cX7_init 66 = .ok (.iconst 0, 1) := by decide +kernel
theorem dX7_init_67 : decode cX7_init 67 = .ok (.putfield 37, 3) := by decide +kernel
theorem dX7_init_70 : decode cX7_init 70 = .ok (.aload_n 0, 1) := by decide +kernel
theorem dX7_init_71 : decode cX7_init 71 = .ok (.iconst 0, 1) := by decide +kernel
theorem dX7_init_72 : decode cX7_init 72 = .ok (.putfield 40, 3) := by decide +kernel
theorem dX7_init_75 : decode cX7_init 75 = .ok (.return_, 1) := by decide +kernel
theorem dX7_go_0 : decode cX7_go 0 = .ok (.aload_n 0, 1) := by decide +kernel
theorem dX7_go_1 : decode cX7_go 1 = .ok (.aload_n 1, 1) := by decide +kernel
theorem dX7_go_2 : decode cX7_go 2 = .ok (.getfield 43, 3) := by decide +kernel
theorem dX7_go_5 : decode cX7_go 5 = .ok (.invokevirtual 49, 3) := by decide +kernel
theorem dX7_go_8 : decode cX7_go 8 = .ok (.bipush 24, 2) := by decide +kernel
theorem dX7_go_10 : decode cX7_go 10 = .ok (.invokestatic 55, 3) := by decide +kernel
theorem dX7_go_13 : decode cX7_go 13 = .ok (.putfield 33, 3) := by decide +kernel
theorem dX7_go_16 : decode cX7_go 16 = .ok (.aload_n 0, 1) := by decide +kernel
theorem dX7_go_17 : decode cX7_go 17 = .ok (.aload_n 1, 1) := by decide +kernel
theorem dX7_go_18 : decode cX7_go 18 = .ok (.getfield 59, 3) := by decide +kernel
theorem dX7_go_21 : decode cX7_go 21 = .ok (.putfield 37, 3) := by decide +kernel
theorem dX7_go_24 : decode cX7_go 24 = .ok (.aload_n 0, 1) := by decide +kernel
theorem dX7_go_25 : decode cX7_go 25 = .ok (.aload_n 1, 1) := by decide +kernel
theorem dX7_go_26 : decode cX7_go 26 = .ok (.getfield 60, 3) := by decide +kernel
theorem dX7_go_29 : decode cX7_go 29 = .ok (.putfield 40, 3) := by decide +kernel
theorem dX7_go_32 : decode cX7_go 32 = .ok (.iconst 0, 1) := by decide +kernel
theorem dX7_go_33 : decode cX7_go 33 = .ok (.istore_n 3, 1) := by decide +kernel
theorem dX7_go_34 : decode cX7_go 34 = .ok (.iconst 0, 1) := by decide +kernel
theorem dX7_go_35 : decode cX7_go 35 = .ok (.istore 4, 2) := by decide +kernel
theorem dX7_go_37 : decode cX7_go 37 = .ok (.iload 4, 2) := by decide +kernel
theorem dX7_go_39 : decode cX7_go 39 = .ok (.aload_n 0, 1) := by decide +kernel
theorem dX7_go_40 : decode cX7_go 40 = .ok (.getfield 33, 3) := by decide +kernel
theorem dX7_go_43 : decode cX7_go 43 = .ok (.if_icmp .ge 154, 3) := by decide +kernel
theorem dX7_go_46 : decode cX7_go 46 = .ok (.aload_n 0, 1) := by decide +kernel
theorem dX7_go_47 : decode cX7_go 47 = .ok (.aload_n 1, 1) := by decide +kernel
theorem dX7_go_48 : decode cX7_go 48 = .ok (.iload 4, 2) := by decide +kernel
theorem dX7_go_50 : decode cX7_go 50 = .ok (.iload_n 2, 1) := by decide +kernel
theorem dX7_go_51 : decode cX7_go 51 = .ok (.invokevirtual 61, 3) := by decide +kernel
theorem dX7_go_54 : decode cX7_go 54 = .ok (.aload_n 0, 1) := by decide +kernel
theorem dX7_go_55 : decode cX7_go 55 = .ok (.getfield 30, 3) := by decide +kernel
theorem dX7_go_58 : decode cX7_go 58 = .ok (.iload 4, 2) := by decide +kernel
theorem dX7_go_60 : decode cX7_go 60 = .ok (.aload_n 1, 1) := by decide +kernel
theorem dX7_go_61 : decode cX7_go 61 = .ok (.getfield 43, 3) := by decide +kernel
theorem dX7_go_64 : decode cX7_go 64 = .ok (.iconst 0, 1) := by decide +kernel
theorem dX7_go_65 : decode cX7_go 65 = .ok (.iload 4, 2) := by decide +kernel
theorem dX7_go_67 : decode cX7_go 67 = .ok (.invokevirtual 65, 3) := by decide +kernel
theorem dX7_go_70 : decode cX7_go 70 = .ok (.aload_n 0, 1) := by decide +kernel
theorem dX7_go_71 : decode cX7_go 71 = .ok (.getfield 24, 3) := by decide +kernel
theorem dX7_go_74 : decode cX7_go 74 = .ok (.iload 4, 2) := by decide +kernel
theorem dX7_go_76 : decode cX7_go 76 = .ok (.iaload, 1) := by decide +kernel
theorem dX7_go_77 : decode cX7_go 77 = .ok (.iadd, 1) := by decide +kernel
theorem dX7_go_78 : decode cX7_go 78 = .ok (.aload_n 1, 1) := by decide +kernel
theorem dX7_go_79 : decode cX7_go 79 = .ok (.getfield 43, 3) := by decide +kernel
theorem dX7_go_82 : decode cX7_go 82 = .ok (.iconst 4, 1) := by decide +kernel
theorem dX7_go_83 : decode cX7_go 83 = .ok (.iload 4, 2) := by decide +kernel
theorem dX7_go_85 : decode cX7_go 85 = .ok (.invokevirtual 65, 3) := by decide +kernel
theorem dX7_go_88 : decode cX7_go 88 = .ok (.iadd, 1) := by decide +kernel
theorem dX7_go_89 : decode cX7_go 89 = .ok (.iastore, 1) := by decide +kernel
theorem dX7_go_90 : decode cX7_go 90 = .ok (.aload_n 1, 1) := by decide +kernel
theorem dX7_go_91 : decode cX7_go 91 = .ok (.getfield 43, 3) := by decide +kernel
theorem dX7_go_94 : decode cX7_go 94 = .ok (.iconst 3, 1) := by decide +kernel
theorem dX7_go_95 : decode cX7_go 95 = .ok (.iload 4, 2) := by decide +kernel
theorem dX7_go_97 : decode cX7_go 97 = .ok (.invokevirtual 65, 3) := by decide +kernel
theorem dX7_go_100 : decode cX7_go 100 = .ok (.iconst 1, 1) := by decide +kernel
theorem dX7_go_101 : decode cX7_go 101 = .ok (.if_icmp .ne 5, 3) := by decide +kernel
theorem dX7_go_104 : decode cX7_go 104 = .ok (.iconst 0, 1) := by decide +kernel
theorem dX7_go_105 : decode cX7_go 105 = .ok (.istore_n 3, 1) := by decide +kernel
theorem dX7_go_106 : decode cX7_go 106 = .ok (.iload_n 3, 1) := by decide +kernel
theorem dX7_go_107 : decode cX7_go 107 = .ok (.aload_n 0, 1) := by decide +kernel
theorem dX7_go_108 : decode cX7_go 108 = .ok (.getfield 21, 3) := by decide +kernel
theorem dX7_go_111 : decode cX7_go 111 = .ok (.iload 4, 2) := by decide +kernel
theorem dX7_go_113 : decode cX7_go 113 = .ok (.iaload, 1) := by decide +kernel
theorem dX7_go_114 : decode cX7_go 114 = .ok (.iadd, 1) := by decide +kernel
theorem dX7_go_115 : decode cX7_go 115 = .ok (.istore_n 3, 1) := by decide +kernel
theorem dX7_go_116 : decode cX7_go 116 = .ok (.aload_n 0, 1) := by decide +kernel
theorem dX7_go_117 : decode cX7_go 117 = .ok (.getfield 18, 3) := by decide +kernel
theorem dX7_go_120 : decode cX7_go 120 = .ok (.iload 4, 2) := by decide +kernel
theorem dX7_go_122 : decode cX7_go 122 = .ok (.iload_n 3, 1) := by decide +kernel
theorem dX7_go_123 : decode cX7_go 123 = .ok (.iastore, 1) := by decide +kernel
theorem dX7_go_124 : decode cX7_go 124 = .ok (.aload_n 0, 1) := by decide +kernel
theorem dX7_go_125 : decode cX7_go 125 = .ok (.getfield 9, 3) := by decide +kernel
theorem dX7_go_128 : decode cX7_go 128 = .ok (.iload 4, 2) := by decide +kernel
theorem dX7_go_130 : decode cX7_go 130 = .ok (.iconst 1, 1) := by decide +kernel
theorem dX7_go_131 : decode cX7_go 131 = .ok (.iadd, 1) := by decide +kernel
theorem dX7_go_132 : decode cX7_go 132 = .ok (.aload_n 0, 1) := by decide +kernel
theorem dX7_go_133 : decode cX7_go 133 = .ok (.getfield 9, 3) := by decide +kernel
theorem dX7_go_136 : decode cX7_go 136 = .ok (.iload 4, 2) := by decide +kernel
theorem dX7_go_138 : decode cX7_go 138 = .ok (.iaload, 1) := by decide +kernel
theorem dX7_go_139 : decode cX7_go 139 = .ok (.iload_n 3, 1) := by decide +kernel
theorem dX7_go_140 : decode cX7_go 140 = .ok (.iadd, 1) := by decide +kernel
theorem dX7_go_141 : decode cX7_go 141 = .ok (.aload_n 0, 1) := by decide +kernel
theorem dX7_go_142 : decode cX7_go 142 = .ok (.getfield 30, 3) := by decide +kernel
theorem dX7_go_145 : decode cX7_go 145 = .ok (.iload 4, 2) := by decide +kernel
theorem dX7_go_147 : decode cX7_go 147 = .ok (.iaload, 1) := by decide +kernel
theorem dX7_go_148 : decode cX7_go 148 = .ok (.iadd, 1) := by decide +kernel
theorem dX7_go_149 : decode cX7_go 149 = .ok (.iastore, 1) := by decide +kernel
theorem dX7_go_150 : decode cX7_go 150 = .ok (.aload_n 0, 1) := by decide +kernel
theorem dX7_go_151 : decode cX7_go 151 = .ok (.getfield 15, 3) := by decide +kernel
theorem dX7_go_154 : decode cX7_go 154 = .ok (.iload 4, 2) := by decide +kernel
theorem dX7_go_156 : decode cX7_go 156 = .ok (.iconst 1, 1) := by decide +kernel
theorem dX7_go_157 : decode cX7_go 157 = .ok (.iadd, 1) := by decide +kernel
theorem dX7_go_158 : decode cX7_go 158 = .ok (.aload_n 0, 1) := by decide +kernel
theorem dX7_go_159 : decode cX7_go 159 = .ok (.getfield 15, 3) := by decide +kernel
theorem dX7_go_162 : decode cX7_go 162 = .ok (.iload 4, 2) := by decide +kernel
theorem dX7_go_164 : decode cX7_go 164 = .ok (.iaload, 1) := by decide +kernel
theorem dX7_go_165 : decode cX7_go 165 = .ok (.sipush 1760, 3) := by decide +kernel
theorem dX7_go_168 : decode cX7_go 168 = .ok (.iadd, 1) := by decide +kernel
theorem dX7_go_169 : decode cX7_go 169 = .ok (.iconst 3, 1) := by decide +kernel
theorem dX7_go_170 : decode cX7_go 170 = .ok (.aload_n 1, 1) := by decide +kernel
theorem dX7_go_171 : decode cX7_go 171 = .ok (.getfield 43, 3) := by decide +kernel
theorem dX7_go_174 : decode cX7_go 174 = .ok (.iconst 1, 1) := by decide +kernel
theorem dX7_go_175 : decode cX7_go 175 = .ok (.iload 4, 2) := by decide +kernel
theorem dX7_go_177 : decode cX7_go 177 = .ok (.invokevirtual 65, 3) := by decide +kernel
theorem dX7_go_180 : decode cX7_go 180 = .ok (.imul, 1) := by decide +kernel
theorem dX7_go_181 : decode cX7_go 181 = .ok (.isub, 1) := by decide +kernel
theorem dX7_go_182 : decode cX7_go 182 = .ok (.aload_n 0, 1) := by decide +kernel
theorem dX7_go_183 : decode cX7_go 183 = .ok (.getfield 27, 3) := by decide +kernel
theorem dX7_go_186 : decode cX7_go 186 = .ok (.iload 4, 2) := by decide +kernel
theorem dX7_go_188 : decode cX7_go 188 = .ok (.iaload, 1) := by decide +kernel
theorem dX7_go_189 : decode cX7_go 189 = .ok (.isub, 1) := by decide +kernel
theorem dX7_go_190 : decode cX7_go 190 = .ok (.iastore, 1) := by decide +kernel
theorem dX7_go_191 : decode cX7_go 191 = .ok (.iinc 4 1, 3) := by decide +kernel
theorem dX7_go_194 : decode cX7_go 194 = .ok (.goto (-157), 3) := by decide +kernel
theorem dX7_go_197 : decode cX7_go 197 = .ok (.return_, 1) := by decide +kernel
theorem dX7_addUpSlips_0 : decode cX7_addUpSlips 0 = .ok (.aload_n 1, 1) := by decide +kernel
theorem dX7_addUpSlips_1 : decode cX7_addUpSlips 1 = .ok (.getfield 43, 3) := by decide +kernel
theorem dX7_addUpSlips_4 : decode cX7_addUpSlips 4 = .ok (.iconst 2, 1) := by decide +kernel
theorem dX7_addUpSlips_5 : decode cX7_addUpSlips 5 = .ok (.iload_n 2, 1) := by decide +kernel
theorem dX7_addUpSlips_6 : decode cX7_addUpSlips 6 = .ok (.invokevirtual 65, 3) := by decide +kernel
theorem dX7_addUpSlips_9 : decode cX7_addUpSlips 9 = .ok (.istore 4, 2) := by decide +kernel
theorem dX7_addUpSlips_11 : decode cX7_addUpSlips 11 = .ok (.aload_n 1, 1) := by decide +kernel
theorem dX7_addUpSlips_12 : decode cX7_addUpSlips 12 = .ok (.getfield 43, 3) := by decide +kernel
theorem dX7_addUpSlips_15 : decode cX7_addUpSlips 15 = .ok (.iconst 1, 1) := by decide +kernel
theorem dX7_addUpSlips_16 : decode cX7_addUpSlips 16 = .ok (.iload_n 2, 1) := by decide +kernel
theorem dX7_addUpSlips_17 : decode cX7_addUpSlips 17 = .ok (.invokevirtual 65, 3) := by decide +kernel
theorem dX7_addUpSlips_20 : decode cX7_addUpSlips 20 = .ok (.istore 5, 2) := by decide +kernel
theorem dX7_addUpSlips_22 : decode cX7_addUpSlips 22 = .ok (.aload_n 0, 1) := by decide +kernel
theorem dX7_addUpSlips_23 : decode cX7_addUpSlips 23 = .ok (.getfield 21, 3) := by decide +kernel
theorem dX7_addUpSlips_26 : decode cX7_addUpSlips 26 = .ok (.iload_n 2, 1) := by decide +kernel
theorem dX7_addUpSlips_27 : decode cX7_addUpSlips 27 = .ok (.iconst 0, 1) := by decide +kernel
theorem dX7_addUpSlips_28 : decode cX7_addUpSlips 28 = .ok (.iastore, 1) := by decide +kernel
theorem dX7_addUpSlips_29 : decode cX7_addUpSlips 29 = .ok (.aload_n 0, 1) := by decide +kernel
theorem dX7_addUpSlips_30 : decode cX7_addUpSlips 30 = .ok (.getfield 24, 3) := by decide +kernel
theorem dX7_addUpSlips_33 : decode cX7_addUpSlips 33 = .ok (.iload_n 2, 1) := by decide +kernel
theorem dX7_addUpSlips_34 : decode cX7_addUpSlips 34 = .ok (.iconst 0, 1) := by decide +kernel
theorem dX7_addUpSlips_35 : decode cX7_addUpSlips 35 = .ok (.iastore, 1) := by decide +kernel
theorem dX7_addUpSlips_36 : decode cX7_addUpSlips 36 = .ok (.aload_n 0, 1) := by decide +kernel
theorem dX7_addUpSlips_37 : decode cX7_addUpSlips 37 = .ok (.getfield 27, 3) := by decide +kernel
theorem dX7_addUpSlips_40 : decode cX7_addUpSlips 40 = .ok (.iload_n 2, 1) := by decide +kernel
theorem dX7_addUpSlips_41 : decode cX7_addUpSlips 41 = .ok (.iconst 0, 1) := by decide +kernel
theorem dX7_addUpSlips_42 : decode cX7_addUpSlips 42 = .ok (.iastore, 1) := by decide +kernel
theorem dX7_addUpSlips_43 : decode cX7_addUpSlips 43 = .ok (.iconst 0, 1) := by decide +kernel
theorem dX7_addUpSlips_44 : decode cX7_addUpSlips 44 = .ok (.istore 6, 2) := by decide +kernel
theorem dX7_addUpSlips_46 : decode cX7_addUpSlips 46 = .ok (.iload 6, 2) := by decide +kernel
theorem dX7_addUpSlips_48 : decode cX7_addUpSlips 48 = .ok (.aload_n 1, 1) := by decide +kernel
theorem dX7_addUpSlips_49 : decode cX7_addUpSlips 49 = .ok (.getfield 68, 3) := by decide +kernel
theorem dX7_addUpSlips_52 : decode cX7_addUpSlips 52 = .ok (.invokevirtual 72, 3) := by decide +kernel
theorem dX7_addUpSlips_55 : decode cX7_addUpSlips 55 = .ok (.if_icmp .ge 90, 3) := by decide +kernel
theorem dX7_addUpSlips_58 : decode cX7_addUpSlips 58 = .ok (.iload 6, 2) := by decide +kernel
theorem dX7_addUpSlips_60 : decode cX7_addUpSlips 60 = .ok (.iload_n 3, 1) := by decide +kernel
theorem dX7_addUpSlips_61 : decode cX7_addUpSlips 61 = .ok (.if_icmp .eq 78, 3) := by decide +kernel
theorem dX7_addUpSlips_64 : decode cX7_addUpSlips 64 = .ok (.aload_n 1, 1) := by decide +kernel
theorem dX7_addUpSlips_65 : decode cX7_addUpSlips 65 = .ok (.getfield 68, 3) := by decide +kernel
theorem dX7_addUpSlips_68 : decode cX7_addUpSlips 68 = .ok (.iconst 4, 1) := by decide +kernel
theorem dX7_addUpSlips_69 : decode cX7_addUpSlips 69 = .ok (.iload 6, 2) := by decide +kernel
theorem dX7_addUpSlips_71 : decode cX7_addUpSlips 71 = .ok (.invokevirtual 75, 3) := by decide +kernel
theorem dX7_addUpSlips_74 : decode cX7_addUpSlips 74 = .ok (.iconst 1, 1) := by decide +kernel
theorem dX7_addUpSlips_75 : decode cX7_addUpSlips 75 = .ok (.if_icmp .ne 64, 3) := by decide +kernel
theorem dX7_addUpSlips_78 : decode cX7_addUpSlips 78 = .ok (.aload_n 0, 1) := by decide +kernel
theorem dX7_addUpSlips_79 : decode cX7_addUpSlips 79 = .ok (.getfield 21, 3) := by decide +kernel
theorem dX7_addUpSlips_82 : decode cX7_addUpSlips 82 = .ok (.iload_n 2, 1) := by decide +kernel
theorem dX7_addUpSlips_83 : decode cX7_addUpSlips 83 = .ok (.dup2, 1) := by decide +kernel
theorem dX7_addUpSlips_84 : decode cX7_addUpSlips 84 = .ok (.iaload, 1) := by decide +kernel
theorem dX7_addUpSlips_85 : decode cX7_addUpSlips 85 = .ok (.aload_n 1, 1) := by decide +kernel
theorem dX7_addUpSlips_86 : decode cX7_addUpSlips 86 = .ok (.getfield 68, 3) := by decide +kernel
theorem dX7_addUpSlips_89 : decode cX7_addUpSlips 89 = .ok (.iload 6, 2) := by decide +kernel
theorem dX7_addUpSlips_91 : decode cX7_addUpSlips 91 = .ok (.iload_n 2, 1) := by decide +kernel
theorem dX7_addUpSlips_92 : decode cX7_addUpSlips 92 = .ok (.invokevirtual 76, 3) := by decide +kernel
theorem dX7_addUpSlips_95 : decode cX7_addUpSlips 95 = .ok (.iadd, 1) := by decide +kernel
theorem dX7_addUpSlips_96 : decode cX7_addUpSlips 96 = .ok (.iastore, 1) := by decide +kernel
theorem dX7_addUpSlips_97 : decode cX7_addUpSlips 97 = .ok (.aload_n 0, 1) := by decide +kernel
theorem dX7_addUpSlips_98 : decode cX7_addUpSlips 98 = .ok (.getfield 24, 3) := by decide +kernel
theorem dX7_addUpSlips_101 : decode cX7_addUpSlips 101 = .ok (.iload_n 2, 1) := by decide +kernel
theorem dX7_addUpSlips_102 : decode cX7_addUpSlips 102 = .ok (.dup2, 1) := by decide +kernel
theorem dX7_addUpSlips_103 : decode cX7_addUpSlips 103 = .ok (.iaload, 1) := by decide +kernel
theorem dX7_addUpSlips_104 : decode cX7_addUpSlips 104 = .ok (.aload_n 1, 1) := by decide +kernel
theorem dX7_addUpSlips_105 : decode cX7_addUpSlips 105 = .ok (.getfield 68, 3) := by decide +kernel
theorem dX7_addUpSlips_108 : decode cX7_addUpSlips 108 = .ok (.iload 6, 2) := by decide +kernel
theorem dX7_addUpSlips_110 : decode cX7_addUpSlips 110 = .ok (.iload_n 2, 1) := by decide +kernel
theorem dX7_addUpSlips_111 : decode cX7_addUpSlips 111 = .ok (.iload 4, 2) := by decide +kernel
theorem dX7_addUpSlips_113 : decode cX7_addUpSlips 113 = .ok (.invokevirtual 79, 3) := by decide +kernel
theorem dX7_addUpSlips_116 : decode cX7_addUpSlips 116 = .ok (.iadd, 1) := by decide +kernel
theorem dX7_addUpSlips_117 : decode cX7_addUpSlips 117 = .ok (.iastore, 1) := by decide +kernel
theorem dX7_addUpSlips_118 : decode cX7_addUpSlips 118 = .ok (.aload_n 0, 1) := by decide +kernel
theorem dX7_addUpSlips_119 : decode cX7_addUpSlips 119 = .ok (.getfield 27, 3) := by decide +kernel
theorem dX7_addUpSlips_122 : decode cX7_addUpSlips 122 = .ok (.iload_n 2, 1) := by decide +kernel
theorem dX7_addUpSlips_123 : decode cX7_addUpSlips 123 = .ok (.dup2, 1) := by decide +kernel
theorem dX7_addUpSlips_124 : decode cX7_addUpSlips 124 = .ok (.iaload, 1) := by decide +kernel
theorem dX7_addUpSlips_125 : decode cX7_addUpSlips 125 = .ok (.aload_n 1, 1) := by decide +kernel
theorem dX7_addUpSlips_126 : decode cX7_addUpSlips 126 = .ok (.getfield 68, 3) := by decide +kernel
theorem dX7_addUpSlips_129 : decode cX7_addUpSlips 129 = .ok (.iload 6, 2) := by decide +kernel
theorem dX7_addUpSlips_131 : decode cX7_addUpSlips 131 = .ok (.iload_n 2, 1) := by decide +kernel
theorem dX7_addUpSlips_132 : decode cX7_addUpSlips 132 = .ok (.iload 5, 2) := by decide +kernel
theorem dX7_addUpSlips_134 : decode cX7_addUpSlips 134 = .ok (.invokevirtual 83, 3) := by decide +kernel
theorem dX7_addUpSlips_137 : decode cX7_addUpSlips 137 = .ok (.iadd, 1) := by decide +kernel
theorem dX7_addUpSlips_138 : decode cX7_addUpSlips 138 = .ok (.iastore, 1) := by decide +kernel
theorem dX7_addUpSlips_139 : decode cX7_addUpSlips 139 = .ok (.iinc 6 1, 3) := by decide +kernel
theorem dX7_addUpSlips_142 : decode cX7_addUpSlips 142 = .ok (.goto (-96), 3) := by decide +kernel
theorem dX7_addUpSlips_145 : decode cX7_addUpSlips 145 = .ok (.return_, 1) := by decide +kernel
theorem dX7_sideOf_0 : decode cX7_sideOf 0 = .ok (.iload_n 1, 1) := by decide +kernel
theorem dX7_sideOf_1 : decode cX7_sideOf 1 = .ok (.iconst 0, 1) := by decide +kernel
theorem dX7_sideOf_2 : decode cX7_sideOf 2 = .ok (.aload_n 0, 1) := by decide +kernel
theorem dX7_sideOf_3 : decode cX7_sideOf 3 = .ok (.getfield 33, 3) := by decide +kernel
theorem dX7_sideOf_6 : decode cX7_sideOf 6 = .ok (.invokestatic 86, 3) := by decide +kernel
theorem dX7_sideOf_9 : decode cX7_sideOf 9 = .ok (.ifCond .eq 12, 3) := by decide +kernel
theorem dX7_sideOf_12 : decode cX7_sideOf 12 = .ok (.aload_n 0, 1) := by decide +kernel
theorem dX7_sideOf_13 : decode cX7_sideOf 13 = .ok (.getfield 9, 3) := by decide +kernel
theorem dX7_sideOf_16 : decode cX7_sideOf 16 = .ok (.iload_n 1, 1) := by decide +kernel
theorem dX7_sideOf_17 : decode cX7_sideOf 17 = .ok (.iaload, 1) := by decide +kernel
theorem dX7_sideOf_18 : decode cX7_sideOf 18 = .ok (.goto 4, 3) := by decide +kernel
theorem dX7_sideOf_21 : decode cX7_sideOf 21 = .ok (.iconst 0, 1) := by decide +kernel
theorem dX7_sideOf_22 : decode cX7_sideOf 22 = .ok (.ireturn, 1) := by decide +kernel
theorem dX7_alongOf_0 : decode cX7_alongOf 0 = .ok (.iload_n 1, 1) := by decide +kernel
theorem dX7_alongOf_1 : decode cX7_alongOf 1 = .ok (.iconst 0, 1) := by decide +kernel
theorem dX7_alongOf_2 : decode cX7_alongOf 2 = .ok (.aload_n 0, 1) := by decide +kernel
theorem dX7_alongOf_3 : decode cX7_alongOf 3 = .ok (.getfield 33, 3) := by decide +kernel
theorem dX7_alongOf_6 : decode cX7_alongOf 6 = .ok (.invokestatic 86, 3) := by decide +kernel
theorem dX7_alongOf_9 : decode cX7_alongOf 9 = .ok (.ifCond .eq 12, 3) := by decide +kernel
theorem dX7_alongOf_12 : decode cX7_alongOf 12 = .ok (.aload_n 0, 1) := by decide +kernel
theorem dX7_alongOf_13 : decode cX7_alongOf 13 = .ok (.getfield 15, 3) := by decide +kernel
theorem dX7_alongOf_16 : decode cX7_alongOf 16 = .ok (.iload_n 1, 1) := by decide +kernel
theorem dX7_alongOf_17 : decode cX7_alongOf 17 = .ok (.iaload, 1) := by decide +kernel
theorem dX7_alongOf_18 : decode cX7_alongOf 18 = .ok (.goto 4, 3) := by decide +kernel
theorem dX7_alongOf_21 : decode cX7_alongOf 21 = .ok (.iconst 0, 1) := by decide +kernel
theorem dX7_alongOf_22 : decode cX7_alongOf 22 = .ok (.ireturn, 1) := by decide +kernel
theorem dX7_headingIn_0 : decode cX7_headingIn 0 = .ok (.iload_n 1, 1) := by decide +kernel
theorem dX7_headingIn_1 : decode cX7_headingIn 1 = .ok (.iconst 0, 1) := by decide +kernel
theorem dX7_headingIn_2 : decode cX7_headingIn 2 = .ok (.aload_n 0, 1) := by decide +kernel
theorem dX7_headingIn_3 : decode cX7_headingIn 3 = .ok (.getfield 33, 3) := by decide +kernel
theorem dX7_headingIn_6 : decode cX7_headingIn 6 = .ok (.iconst 1, 1) := by decide +kernel
theorem dX7_headingIn_7 : decode cX7_headingIn 7 = .ok (.isub, 1) := by decide +kernel
theorem dX7_headingIn_8 : decode cX7_headingIn 8 = .ok (.invokestatic 86, 3) := by decide +kernel
theorem dX7_headingIn_11 : decode cX7_headingIn 11 = .ok (.ifCond .eq 12, 3) := by decide +kernel
theorem dX7_headingIn_14 : decode cX7_headingIn 14 = .ok (.aload_n 0, 1) := by decide +kernel
theorem dX7_headingIn_15 : decode cX7_headingIn 15 = .ok (.getfield 18, 3) := by decide +kernel
theorem dX7_headingIn_18 : decode cX7_headingIn 18 = .ok (.iload_n 1, 1) := by decide +kernel
theorem dX7_headingIn_19 : decode cX7_headingIn 19 = .ok (.iaload, 1) := by decide +kernel
theorem dX7_headingIn_20 : decode cX7_headingIn 20 = .ok (.goto 4, 3) := by decide +kernel
theorem dX7_headingIn_23 : decode cX7_headingIn 23 = .ok (.iconst 0, 1) := by decide +kernel
theorem dX7_headingIn_24 : decode cX7_headingIn 24 = .ok (.ireturn, 1) := by decide +kernel
theorem dX7_pushesIn_0 : decode cX7_pushesIn 0 = .ok (.iload_n 1, 1) := by decide +kernel
theorem dX7_pushesIn_1 : decode cX7_pushesIn 1 = .ok (.iconst 0, 1) := by decide +kernel
theorem dX7_pushesIn_2 : decode cX7_pushesIn 2 = .ok (.aload_n 0, 1) := by decide +kernel
theorem dX7_pushesIn_3 : decode cX7_pushesIn 3 = .ok (.getfield 33, 3) := by decide +kernel
theorem dX7_pushesIn_6 : decode cX7_pushesIn 6 = .ok (.iconst 1, 1) := by decide +kernel
theorem dX7_pushesIn_7 : decode cX7_pushesIn 7 = .ok (.isub, 1) := by decide +kernel
theorem dX7_pushesIn_8 : decode cX7_pushesIn 8 = .ok (.invokestatic 86, 3) := by decide +kernel
theorem dX7_pushesIn_11 : decode cX7_pushesIn 11 = .ok (.ifCond .eq 12, 3) := by decide +kernel
theorem dX7_pushesIn_14 : decode cX7_pushesIn 14 = .ok (.aload_n 0, 1) := by decide +kernel
theorem dX7_pushesIn_15 : decode cX7_pushesIn 15 = .ok (.getfield 24, 3) := by decide +kernel
theorem dX7_pushesIn_18 : decode cX7_pushesIn 18 = .ok (.iload_n 1, 1) := by decide +kernel
theorem dX7_pushesIn_19 : decode cX7_pushesIn 19 = .ok (.iaload, 1) := by decide +kernel
theorem dX7_pushesIn_20 : decode cX7_pushesIn 20 = .ok (.goto 4, 3) := by decide +kernel
theorem dX7_pushesIn_23 : decode cX7_pushesIn 23 = .ok (.iconst 0, 1) := by decide +kernel
theorem dX7_pushesIn_24 : decode cX7_pushesIn 24 = .ok (.ireturn, 1) := by decide +kernel
theorem dX7_shortensIn_0 : decode cX7_shortensIn 0 = .ok (.iload_n 1, 1) := by decide +kernel
theorem dX7_shortensIn_1 : decode cX7_shortensIn 1 = .ok (.iconst 0, 1) := by decide +kernel
theorem dX7_shortensIn_2 : decode cX7_shortensIn 2 = .ok (.aload_n 0, 1) := by decide +kernel
theorem dX7_shortensIn_3 : decode cX7_shortensIn 3 = .ok (.getfield 33, 3) := by decide +kernel
theorem dX7_shortensIn_6 : decode cX7_shortensIn 6 = .ok (.iconst 1, 1) := by decide +kernel
theorem dX7_shortensIn_7 : decode cX7_shortensIn 7 = .ok (.isub, 1) := by decide +kernel
theorem dX7_shortensIn_8 : decode cX7_shortensIn 8 = .ok (.invokestatic 86, 3) := by decide +kernel
theorem dX7_shortensIn_11 : decode cX7_shortensIn 11 = .ok (.ifCond .eq 12, 3) := by decide +kernel
theorem dX7_shortensIn_14 : decode cX7_shortensIn 14 = .ok (.aload_n 0, 1) := by decide +kernel
theorem dX7_shortensIn_15 : decode cX7_shortensIn 15 = .ok (.getfield 27, 3) := by decide +kernel
theorem dX7_shortensIn_18 : decode cX7_shortensIn 18 = .ok (.iload_n 1, 1) := by decide +kernel
theorem dX7_shortensIn_19 : decode cX7_shortensIn 19 = .ok (.iaload, 1) := by decide +kernel
theorem dX7_shortensIn_20 : decode cX7_shortensIn 20 = .ok (.goto 4, 3) := by decide +kernel
theorem dX7_shortensIn_23 : decode cX7_shortensIn 23 = .ok (.iconst 0, 1) := by decide +kernel
theorem dX7_shortensIn_24 : decode cX7_shortensIn 24 = .ok (.ireturn, 1) := by decide +kernel
theorem dX7_missSide_0 : decode cX7_missSide 0 = .ok (.aload_n 0, 1) := by decide +kernel
theorem dX7_missSide_1 : decode cX7_missSide 1 = .ok (.getfield 9, 3) := by decide +kernel
theorem dX7_missSide_4 : decode cX7_missSide 4 = .ok (.aload_n 0, 1) := by decide +kernel
theorem dX7_missSide_5 : decode cX7_missSide 5 = .ok (.getfield 33, 3) := by decide +kernel
theorem dX7_missSide_8 : decode cX7_missSide 8 = .ok (.iaload, 1) := by decide +kernel
theorem dX7_missSide_9 : decode cX7_missSide 9 = .ok (.aload_n 0, 1) := by decide +kernel
theorem dX7_missSide_10 : decode cX7_missSide 10 = .ok (.getfield 37, 3) := by decide +kernel
theorem dX7_missSide_13 : decode cX7_missSide 13 = .ok (.isub, 1) := by decide +kernel
theorem dX7_missSide_14 : decode cX7_missSide 14 = .ok (.ireturn, 1) := by decide +kernel
theorem dX7_missAlong_0 : decode cX7_missAlong 0 = .ok (.aload_n 0, 1) := by decide +kernel
theorem dX7_missAlong_1 : decode cX7_missAlong 1 = .ok (.getfield 15, 3) := by decide +kernel
theorem dX7_missAlong_4 : decode cX7_missAlong 4 = .ok (.aload_n 0, 1) := by decide +kernel
theorem dX7_missAlong_5 : decode cX7_missAlong 5 = .ok (.getfield 33, 3) := by decide +kernel
theorem dX7_missAlong_8 : decode cX7_missAlong 8 = .ok (.iaload, 1) := by decide +kernel
theorem dX7_missAlong_9 : decode cX7_missAlong 9 = .ok (.aload_n 0, 1) := by decide +kernel
theorem dX7_missAlong_10 : decode cX7_missAlong 10 = .ok (.getfield 40, 3) := by decide +kernel
theorem dX7_missAlong_13 : decode cX7_missAlong 13 = .ok (.isub, 1) := by decide +kernel
theorem dX7_missAlong_14 : decode cX7_missAlong 14 = .ok (.ireturn, 1) := by decide +kernel
theorem dX7_wholeMiss_0 : decode cX7_wholeMiss 0 = .ok (.aload_n 0, 1) := by decide +kernel
theorem dX7_wholeMiss_1 : decode cX7_wholeMiss 1 = .ok (.invokevirtual 90, 3) := by decide +kernel
theorem dX7_wholeMiss_4 : decode cX7_wholeMiss 4 = .ok (.invokestatic 93, 3) := by decide +kernel
theorem dX7_wholeMiss_7 : decode cX7_wholeMiss 7 = .ok (.aload_n 0, 1) := by decide +kernel
theorem dX7_wholeMiss_8 : decode cX7_wholeMiss 8 = .ok (.invokevirtual 99, 3) := by decide +kernel
theorem dX7_wholeMiss_11 : decode cX7_wholeMiss 11 = .ok (.invokestatic 93, 3) := by decide +kernel
theorem dX7_wholeMiss_14 : decode cX7_wholeMiss 14 = .ok (.iadd, 1) := by decide +kernel
theorem dX7_wholeMiss_15 : decode cX7_wholeMiss 15 = .ok (.ireturn, 1) := by decide +kernel
theorem dX7_distanceOf_0 : decode cX7_distanceOf 0 = .ok (.aload_n 0, 1) := by decide +kernel
theorem dX7_distanceOf_1 : decode cX7_distanceOf 1 = .ok (.iload_n 1, 1) := by decide +kernel
theorem dX7_distanceOf_2 : decode cX7_distanceOf 2 = .ok (.invokevirtual 102, 3) := by decide +kernel
theorem dX7_distanceOf_5 : decode cX7_distanceOf 5 = .ok (.iload_n 2, 1) := by decide +kernel
theorem dX7_distanceOf_6 : decode cX7_distanceOf 6 = .ok (.isub, 1) := by decide +kernel
theorem dX7_distanceOf_7 : decode cX7_distanceOf 7 = .ok (.invokestatic 93, 3) := by decide +kernel
theorem dX7_distanceOf_10 : decode cX7_distanceOf 10 = .ok (.aload_n 0, 1) := by decide +kernel
theorem dX7_distanceOf_11 : decode cX7_distanceOf 11 = .ok (.iload_n 1, 1) := by decide +kernel
theorem dX7_distanceOf_12 : decode cX7_distanceOf 12 = .ok (.invokevirtual 105, 3) := by decide +kernel
theorem dX7_distanceOf_15 : decode cX7_distanceOf 15 = .ok (.iload_n 3, 1) := by decide +kernel
theorem dX7_distanceOf_16 : decode cX7_distanceOf 16 = .ok (.isub, 1) := by decide +kernel
theorem dX7_distanceOf_17 : decode cX7_distanceOf 17 = .ok (.invokestatic 93, 3) := by decide +kernel
theorem dX7_distanceOf_20 : decode cX7_distanceOf 20 = .ok (.iadd, 1) := by decide +kernel
theorem dX7_distanceOf_21 : decode cX7_distanceOf 21 = .ok (.ireturn, 1) := by decide +kernel
theorem dX7_offWithChecks_0 : decode cX7_offWithChecks 0 = .ok (.iconst 0, 1) := by decide +kernel
theorem dX7_offWithChecks_1 : decode cX7_offWithChecks 1 = .ok (.istore_n 2, 1) := by decide +kernel
theorem dX7_offWithChecks_2 : decode cX7_offWithChecks 2 = .ok (.iconst 0, 1) := by decide +kernel
theorem dX7_offWithChecks_3 : decode cX7_offWithChecks 3 = .ok (.istore_n 3, 1) := by decide +kernel
theorem dX7_offWithChecks_4 : decode cX7_offWithChecks 4 = .ok (.iconst 0, 1) := by decide +kernel
theorem dX7_offWithChecks_5 : decode cX7_offWithChecks 5 = .ok (.istore 4, 2) := by decide +kernel
theorem dX7_offWithChecks_7 : decode cX7_offWithChecks 7 = .ok (.iload 4, 2) := by decide +kernel
theorem dX7_offWithChecks_9 : decode cX7_offWithChecks 9 = .ok (.aload_n 0, 1) := by decide +kernel
theorem dX7_offWithChecks_10 : decode cX7_offWithChecks 10 = .ok (.getfield 33, 3) := by decide +kernel
theorem dX7_offWithChecks_13 : decode cX7_offWithChecks 13 = .ok (.if_icmp .ge 43, 3) := by decide +kernel
theorem dX7_offWithChecks_16 : decode cX7_offWithChecks 16 = .ok (.iload_n 1, 1) := by decide +kernel
theorem dX7_offWithChecks_17 : decode cX7_offWithChecks 17 = .ok (.iload 4, 2) := by decide +kernel
theorem dX7_offWithChecks_19 : decode cX7_offWithChecks 19 = .ok (.iushr, 1) := by decide +kernel
theorem dX7_offWithChecks_20 : decode cX7_offWithChecks 20 = .ok (.iconst 1, 1) := by decide +kernel
theorem dX7_offWithChecks_21 : decode cX7_offWithChecks 21 = .ok (.iand, 1) := by decide +kernel
theorem dX7_offWithChecks_22 : decode cX7_offWithChecks 22 = .ok (.iconst 1, 1) := by decide +kernel
theorem dX7_offWithChecks_23 : decode cX7_offWithChecks 23 = .ok (.if_icmp .ne 5, 3) := by decide +kernel
theorem dX7_offWithChecks_26 : decode cX7_offWithChecks 26 = .ok (.iconst 0, 1) := by decide +kernel
theorem dX7_offWithChecks_27 : decode cX7_offWithChecks 27 = .ok (.istore_n 2, 1) := by decide +kernel
theorem dX7_offWithChecks_28 : decode cX7_offWithChecks 28 = .ok (.iload_n 2, 1) := by decide +kernel
theorem dX7_offWithChecks_29 : decode cX7_offWithChecks 29 = .ok (.aload_n 0, 1) := by decide +kernel
theorem dX7_offWithChecks_30 : decode cX7_offWithChecks 30 = .ok (.getfield 21, 3) := by decide +kernel
theorem dX7_offWithChecks_33 : decode cX7_offWithChecks 33 = .ok (.iload 4, 2) := by decide +kernel
theorem dX7_offWithChecks_35 : decode cX7_offWithChecks 35 = .ok (.iaload, 1) := by decide +kernel
theorem dX7_offWithChecks_36 : decode cX7_offWithChecks 36 = .ok (.iadd, 1) := by decide +kernel
theorem dX7_offWithChecks_37 : decode cX7_offWithChecks 37 = .ok (.istore_n 2, 1) := by decide +kernel
theorem dX7_offWithChecks_38 : decode cX7_offWithChecks 38 = .ok (.iload_n 3, 1) := by decide +kernel
theorem dX7_offWithChecks_39 : decode cX7_offWithChecks 39 = .ok (.iload_n 2, 1) := by decide +kernel
theorem dX7_offWithChecks_40 : decode cX7_offWithChecks 40 = .ok (.aload_n 0, 1) := by decide +kernel
theorem dX7_offWithChecks_41 : decode cX7_offWithChecks 41 = .ok (.getfield 30, 3) := by decide +kernel
theorem dX7_offWithChecks_44 : decode cX7_offWithChecks 44 = .ok (.iload 4, 2) := by decide +kernel
theorem dX7_offWithChecks_46 : decode cX7_offWithChecks 46 = .ok (.iaload, 1) := by decide +kernel
theorem dX7_offWithChecks_47 : decode cX7_offWithChecks 47 = .ok (.iadd, 1) := by decide +kernel
theorem dX7_offWithChecks_48 : decode cX7_offWithChecks 48 = .ok (.iadd, 1) := by decide +kernel
theorem dX7_offWithChecks_49 : decode cX7_offWithChecks 49 = .ok (.istore_n 3, 1) := by decide +kernel
theorem dX7_offWithChecks_50 : decode cX7_offWithChecks 50 = .ok (.iinc 4 1, 3) := by decide +kernel
theorem dX7_offWithChecks_53 : decode cX7_offWithChecks 53 = .ok (.goto (-46), 3) := by decide +kernel
theorem dX7_offWithChecks_56 : decode cX7_offWithChecks 56 = .ok (.iload_n 3, 1) := by decide +kernel
theorem dX7_offWithChecks_57 : decode cX7_offWithChecks 57 = .ok (.aload_n 0, 1) := by decide +kernel
theorem dX7_offWithChecks_58 : decode cX7_offWithChecks 58 = .ok (.getfield 37, 3) := by decide +kernel
theorem dX7_offWithChecks_61 : decode cX7_offWithChecks 61 = .ok (.isub, 1) := by decide +kernel
theorem dX7_offWithChecks_62 : decode cX7_offWithChecks 62 = .ok (.invokestatic 93, 3) := by decide +kernel
theorem dX7_offWithChecks_65 : decode cX7_offWithChecks 65 = .ok (.ireturn, 1) := by decide +kernel
theorem dX7_bestCheck_0 : decode cX7_bestCheck 0 = .ok (.iconst 1, 1) := by decide +kernel
theorem dX7_bestCheck_1 : decode cX7_bestCheck 1 = .ok (.istore_n 1, 1) := by decide +kernel
theorem dX7_bestCheck_2 : decode cX7_bestCheck 2 = .ok (.aload_n 0, 1) := by decide +kernel
theorem dX7_bestCheck_3 : decode cX7_bestCheck 3 = .ok (.iload_n 1, 1) := by decide +kernel
theorem dX7_bestCheck_4 : decode cX7_bestCheck 4 = .ok (.invokevirtual 108, 3) := by decide +kernel
theorem dX7_bestCheck_7 : decode cX7_bestCheck 7 = .ok (.istore_n 2, 1) := by decide +kernel
theorem dX7_bestCheck_8 : decode cX7_bestCheck 8 = .ok (.iconst 1, 1) := by decide +kernel
theorem dX7_bestCheck_9 : decode cX7_bestCheck 9 = .ok (.istore_n 3, 1) := by decide +kernel
theorem dX7_bestCheck_10 : decode cX7_bestCheck 10 = .ok (.iload_n 3, 1) := by decide +kernel
theorem dX7_bestCheck_11 : decode cX7_bestCheck 11 = .ok (.aload_n 0, 1) := by decide +kernel
theorem dX7_bestCheck_12 : decode cX7_bestCheck 12 = .ok (.getfield 33, 3) := by decide +kernel
theorem dX7_bestCheck_15 : decode cX7_bestCheck 15 = .ok (.if_icmp .ge 31, 3) := by decide +kernel
theorem dX7_bestCheck_18 : decode cX7_bestCheck 18 = .ok (.aload_n 0, 1) := by decide +kernel
theorem dX7_bestCheck_19 : decode cX7_bestCheck 19 = .ok (.iconst 1, 1) := by decide +kernel
theorem dX7_bestCheck_20 : decode cX7_bestCheck 20 = .ok (.iload_n 3, 1) := by decide +kernel
theorem dX7_bestCheck_21 : decode cX7_bestCheck 21 = .ok (.ishl, 1) := by decide +kernel
theorem dX7_bestCheck_22 : decode cX7_bestCheck 22 = .ok (.invokevirtual 108, 3) := by decide +kernel
theorem dX7_bestCheck_25 : decode cX7_bestCheck 25 = .ok (.istore 4, 2) := by decide +kernel
theorem dX7_bestCheck_27 : decode cX7_bestCheck 27 = .ok (.iload 4, 2) := by decide +kernel
theorem dX7_bestCheck_29 : decode cX7_bestCheck 29 = .ok (.iload_n 2, 1) := by decide +kernel
theorem dX7_bestCheck_30 : decode cX7_bestCheck 30 = .ok (.if_icmp .ge 10, 3) := by decide +kernel
theorem dX7_bestCheck_33 : decode cX7_bestCheck 33 = .ok (.iconst 1, 1) := by decide +kernel
theorem dX7_bestCheck_34 : decode cX7_bestCheck 34 = .ok (.iload_n 3, 1) := by decide +kernel
theorem dX7_bestCheck_35 : decode cX7_bestCheck 35 = .ok (.ishl, 1) := by decide +kernel
theorem dX7_bestCheck_36 : decode cX7_bestCheck 36 = .ok (.istore_n 1, 1) := by decide +kernel
theorem dX7_bestCheck_37 : decode cX7_bestCheck 37 = .ok (.iload 4, 2) := by decide +kernel
theorem dX7_bestCheck_39 : decode cX7_bestCheck 39 = .ok (.istore_n 2, 1) := by decide +kernel
theorem dX7_bestCheck_40 : decode cX7_bestCheck 40 = .ok (.iinc 3 1, 3) := by decide +kernel
theorem dX7_bestCheck_43 : decode cX7_bestCheck 43 = .ok (.goto (-33), 3) := by decide +kernel
theorem dX7_bestCheck_46 : decode cX7_bestCheck 46 = .ok (.iload_n 1, 1) := by decide +kernel
theorem dX7_bestCheck_47 : decode cX7_bestCheck 47 = .ok (.ireturn, 1) := by decide +kernel
theorem dX7_bestPairOfChecks_0 : decode cX7_bestPairOfChecks 0 = .ok (.iconst 3, 1) := by decide +kernel
theorem dX7_bestPairOfChecks_1 : decode cX7_bestPairOfChecks 1 = .ok (.istore_n 1, 1) := by decide +kernel
theorem dX7_bestPairOfChecks_2 : decode cX7_bestPairOfChecks 2 = .ok (.aload_n 0, 1) := by decide +kernel
theorem dX7_bestPairOfChecks_3 : decode cX7_bestPairOfChecks 3 = .ok (.iload_n 1, 1) := by decide +kernel
theorem dX7_bestPairOfChecks_4 : decode cX7_bestPairOfChecks 4 = .ok (.invokevirtual 108, 3) := by decide +kernel
theorem dX7_bestPairOfChecks_7 : decode cX7_bestPairOfChecks 7 = .ok (.istore_n 2, 1) := by decide +kernel
theorem dX7_bestPairOfChecks_8 : decode cX7_bestPairOfChecks 8 = .ok (.iconst 2, 1) := by decide +kernel
theorem dX7_bestPairOfChecks_9 : decode cX7_bestPairOfChecks 9 = .ok (.istore_n 3, 1) := by decide +kernel
theorem dX7_bestPairOfChecks_10 : decode cX7_bestPairOfChecks 10 = .ok (.iload_n 3, 1) := by decide +kernel
theorem dX7_bestPairOfChecks_11 : decode cX7_bestPairOfChecks 11 = .ok (.aload_n 0, 1) := by decide +kernel
theorem dX7_bestPairOfChecks_12 : decode cX7_bestPairOfChecks 12 = .ok (.getfield 33, 3) := by decide +kernel
theorem dX7_bestPairOfChecks_15 : decode cX7_bestPairOfChecks 15 = .ok (.if_icmp .ge 54, 3) := by decide +kernel
theorem dX7_bestPairOfChecks_18 : decode cX7_bestPairOfChecks 18 = .ok (.iconst 0, 1) := by decide +kernel
theorem dX7_bestPairOfChecks_19 : decode cX7_bestPairOfChecks 19 = .ok (.istore 4, 2) := by decide +kernel
theorem dX7_bestPairOfChecks_21 : decode cX7_bestPairOfChecks 21 = .ok (.iload 4, 2) := by decide +kernel
theorem dX7_bestPairOfChecks_23 : decode cX7_bestPairOfChecks 23 = .ok (.iload_n 3, 1) := by decide +kernel
theorem dX7_bestPairOfChecks_24 : decode cX7_bestPairOfChecks 24 = .ok (.if_icmp .ge 39, 3) := by decide +kernel
theorem dX7_bestPairOfChecks_27 : decode cX7_bestPairOfChecks 27 = .ok (.iconst 1, 1) := by decide +kernel
theorem dX7_bestPairOfChecks_28 : decode cX7_bestPairOfChecks 28 = .ok (.iload_n 3, 1) := by decide +kernel
theorem dX7_bestPairOfChecks_29 : decode cX7_bestPairOfChecks 29 = .ok (.ishl, 1) := by decide +kernel
theorem dX7_bestPairOfChecks_30 : decode cX7_bestPairOfChecks 30 = .ok (.iconst 1, 1) := by decide +kernel
theorem dX7_bestPairOfChecks_31 : decode cX7_bestPairOfChecks 31 = .ok (.iload 4, 2) := by decide +kernel
theorem dX7_bestPairOfChecks_33 : decode cX7_bestPairOfChecks 33 = .ok (.ishl, 1) := by decide +kernel
theorem dX7_bestPairOfChecks_34 : decode cX7_bestPairOfChecks 34 = .ok (.ior, 1) := by decide +kernel
theorem dX7_bestPairOfChecks_35 : decode cX7_bestPairOfChecks 35 = .ok (.istore 5, 2) := by decide +kernel
theorem dX7_bestPairOfChecks_37 : decode cX7_bestPairOfChecks 37 = .ok (.aload_n 0, 1) := by decide +kernel
theorem dX7_bestPairOfChecks_38 : decode cX7_bestPairOfChecks 38 = .ok (.iload 5, 2) := by decide +kernel
theorem dX7_bestPairOfChecks_40 : decode cX7_bestPairOfChecks 40 = .ok (.invokevirtual 108, 3) := by decide +kernel
theorem dX7_bestPairOfChecks_43 : decode cX7_bestPairOfChecks 43 = .ok (.istore 6, 2) := by decide +kernel
theorem dX7_bestPairOfChecks_45 : decode cX7_bestPairOfChecks 45 = .ok (.iload 6, 2) := by decide +kernel
theorem dX7_bestPairOfChecks_47 : decode cX7_bestPairOfChecks 47 = .ok (.iload_n 2, 1) := by decide +kernel
theorem dX7_bestPairOfChecks_48 : decode cX7_bestPairOfChecks 48 = .ok (.if_icmp .ge 9, 3) := by decide +kernel
theorem dX7_bestPairOfChecks_51 : decode cX7_bestPairOfChecks 51 = .ok (.iload 5, 2) := by decide +kernel
theorem dX7_bestPairOfChecks_53 : decode cX7_bestPairOfChecks 53 = .ok (.istore_n 1, 1) := by decide +kernel
theorem dX7_bestPairOfChecks_54 : decode cX7_bestPairOfChecks 54 = .ok (.iload 6, 2) := by decide +kernel
theorem dX7_bestPairOfChecks_56 : decode cX7_bestPairOfChecks 56 = .ok (.istore_n 2, 1) := by decide +kernel
theorem dX7_bestPairOfChecks_57 : decode cX7_bestPairOfChecks 57 = .ok (.iinc 4 1, 3) := by decide +kernel
theorem dX7_bestPairOfChecks_60 : decode cX7_bestPairOfChecks 60 = .ok (.goto (-39), 3) := by decide +kernel
theorem dX7_bestPairOfChecks_63 : decode cX7_bestPairOfChecks 63 = .ok (.iinc 3 1, 3) := by decide +kernel
theorem dX7_bestPairOfChecks_66 : decode cX7_bestPairOfChecks 66 = .ok (.goto (-56), 3) := by decide +kernel
theorem dX7_bestPairOfChecks_69 : decode cX7_bestPairOfChecks 69 = .ok (.iload_n 1, 1) := by decide +kernel
theorem dX7_bestPairOfChecks_70 : decode cX7_bestPairOfChecks 70 = .ok (.ireturn, 1) := by decide +kernel
theorem dX7_sumOfSides_0 : decode cX7_sumOfSides 0 = .ok (.lconst 0, 1) := by decide +kernel
theorem dX7_sumOfSides_1 : decode cX7_sumOfSides 1 = .ok (.lstore_n 1, 1) := by decide +kernel
theorem dX7_sumOfSides_2 : decode cX7_sumOfSides 2 = .ok (.iconst 1, 1) := by decide +kernel
theorem dX7_sumOfSides_3 : decode cX7_sumOfSides 3 = .ok (.istore_n 3, 1) := by decide +kernel
theorem dX7_sumOfSides_4 : decode cX7_sumOfSides 4 = .ok (.iload_n 3, 1) := by decide +kernel
theorem dX7_sumOfSides_5 : decode cX7_sumOfSides 5 = .ok (.aload_n 0, 1) := by decide +kernel
theorem dX7_sumOfSides_6 : decode cX7_sumOfSides 6 = .ok (.getfield 33, 3) := by decide +kernel
theorem dX7_sumOfSides_9 : decode cX7_sumOfSides 9 = .ok (.if_icmp .gt 22, 3) := by decide +kernel
theorem dX7_sumOfSides_12 : decode cX7_sumOfSides 12 = .ok (.lload_n 1, 1) := by decide +kernel
theorem dX7_sumOfSides_13 : decode cX7_sumOfSides 13 = .ok (.iload_n 3, 1) := by decide +kernel
theorem dX7_sumOfSides_14 : decode cX7_sumOfSides 14 = .ok (.i2l, 1) := by decide +kernel
theorem dX7_sumOfSides_15 : decode cX7_sumOfSides 15 = .ok (.aload_n 0, 1) := by decide +kernel
theorem dX7_sumOfSides_16 : decode cX7_sumOfSides 16 = .ok (.getfield 9, 3) := by decide +kernel
theorem dX7_sumOfSides_19 : decode cX7_sumOfSides 19 = .ok (.iload_n 3, 1) := by decide +kernel
theorem dX7_sumOfSides_20 : decode cX7_sumOfSides 20 = .ok (.iaload, 1) := by decide +kernel
theorem dX7_sumOfSides_21 : decode cX7_sumOfSides 21 = .ok (.i2l, 1) := by decide +kernel
theorem dX7_sumOfSides_22 : decode cX7_sumOfSides 22 = .ok (.lmul, 1) := by decide +kernel
theorem dX7_sumOfSides_23 : decode cX7_sumOfSides 23 = .ok (.ladd, 1) := by decide +kernel
theorem dX7_sumOfSides_24 : decode cX7_sumOfSides 24 = .ok (.lstore_n 1, 1) := by decide +kernel
theorem dX7_sumOfSides_25 : decode cX7_sumOfSides 25 = .ok (.iinc 3 1, 3) := by decide +kernel
theorem dX7_sumOfSides_28 : decode cX7_sumOfSides 28 = .ok (.goto (-24), 3) := by decide +kernel
theorem dX7_sumOfSides_31 : decode cX7_sumOfSides 31 = .ok (.lload_n 1, 1) := by decide +kernel
theorem dX7_sumOfSides_32 : decode cX7_sumOfSides 32 = .ok (.lreturn, 1) := by decide +kernel
theorem dX7_sumOfSquares_0 : decode cX7_sumOfSquares 0 = .ok (.lconst 0, 1) := by decide +kernel
theorem dX7_sumOfSquares_1 : decode cX7_sumOfSquares 1 = .ok (.lstore_n 1, 1) := by decide +kernel
theorem dX7_sumOfSquares_2 : decode cX7_sumOfSquares 2 = .ok (.iconst 1, 1) := by decide +kernel
theorem dX7_sumOfSquares_3 : decode cX7_sumOfSquares 3 = .ok (.istore_n 3, 1) := by decide +kernel
theorem dX7_sumOfSquares_4 : decode cX7_sumOfSquares 4 = .ok (.iload_n 3, 1) := by decide +kernel
theorem dX7_sumOfSquares_5 : decode cX7_sumOfSquares 5 = .ok (.aload_n 0, 1) := by decide +kernel
theorem dX7_sumOfSquares_6 : decode cX7_sumOfSquares 6 = .ok (.getfield 33, 3) := by decide +kernel
theorem dX7_sumOfSquares_9 : decode cX7_sumOfSquares 9 = .ok (.if_icmp .gt 17, 3) := by decide +kernel
theorem dX7_sumOfSquares_12 : decode cX7_sumOfSquares 12 = .ok (.lload_n 1, 1) := by decide +kernel
theorem dX7_sumOfSquares_13 : decode cX7_sumOfSquares 13 = .ok (.iload_n 3, 1) := by decide +kernel
theorem dX7_sumOfSquares_14 : decode cX7_sumOfSquares 14 = .ok (.i2l, 1) := by decide +kernel
theorem dX7_sumOfSquares_15 : decode cX7_sumOfSquares 15 = .ok (.iload_n 3, 1) := by decide +kernel
theorem dX7_sumOfSquares_16 : decode cX7_sumOfSquares 16 = .ok (.i2l, 1) := by decide +kernel
theorem dX7_sumOfSquares_17 : decode cX7_sumOfSquares 17 = .ok (.lmul, 1) := by decide +kernel
theorem dX7_sumOfSquares_18 : decode cX7_sumOfSquares 18 = .ok (.ladd, 1) := by decide +kernel
theorem dX7_sumOfSquares_19 : decode cX7_sumOfSquares 19 = .ok (.lstore_n 1, 1) := by decide +kernel
theorem dX7_sumOfSquares_20 : decode cX7_sumOfSquares 20 = .ok (.iinc 3 1, 3) := by decide +kernel
theorem dX7_sumOfSquares_23 : decode cX7_sumOfSquares 23 = .ok (.goto (-19), 3) := by decide +kernel
theorem dX7_sumOfSquares_26 : decode cX7_sumOfSquares 26 = .ok (.lload_n 1, 1) := by decide +kernel
theorem dX7_sumOfSquares_27 : decode cX7_sumOfSquares 27 = .ok (.lreturn, 1) := by decide +kernel
theorem dX7_offStraight_0 : decode cX7_offStraight 0 = .ok (.aload_n 0, 1) := by decide +kernel
theorem dX7_offStraight_1 : decode cX7_offStraight 1 = .ok (.iload_n 1, 1) := by decide +kernel
theorem dX7_offStraight_2 : decode cX7_offStraight 2 = .ok (.invokevirtual 102, 3) := by decide +kernel
theorem dX7_offStraight_5 : decode cX7_offStraight 5 = .ok (.i2l, 1) := by decide +kernel
theorem dX7_offStraight_6 : decode cX7_offStraight 6 = .ok (.aload_n 0, 1) := by decide +kernel
theorem dX7_offStraight_7 : decode cX7_offStraight 7 = .ok (.invokevirtual 111, 3) := by decide +kernel
theorem dX7_offStraight_10 : decode cX7_offStraight 10 = .ok (.lmul, 1) := by decide +kernel
theorem dX7_offStraight_11 : decode cX7_offStraight 11 = .ok (.aload_n 0, 1) := by decide +kernel
theorem dX7_offStraight_12 : decode cX7_offStraight 12 = .ok (.invokevirtual 115, 3) := by decide +kernel
theorem dX7_offStraight_15 : decode cX7_offStraight 15 = .ok (.iload_n 1, 1) := by decide +kernel
theorem dX7_offStraight_16 : decode cX7_offStraight 16 = .ok (.i2l, 1) := by decide +kernel
theorem dX7_offStraight_17 : decode cX7_offStraight 17 = .ok (.lmul, 1) := by decide +kernel
theorem dX7_offStraight_18 : decode cX7_offStraight 18 = .ok (.lsub, 1) := by decide +kernel
theorem dX7_offStraight_19 : decode cX7_offStraight 19 = .ok (.invokestatic 118, 3) := by decide +kernel
theorem dX7_offStraight_22 : decode cX7_offStraight 22 = .ok (.lreturn, 1) := by decide +kernel
theorem dX8_init_0 : decode cX8_init 0 = .ok (.aload_n 0, 1) := by decide +kernel
theorem dX8_init_1 : decode cX8_init 1 = .ok (.invokespecial 1, 3) := by decide +kernel
theorem dX8_init_4 : decode cX8_init 4 = .ok (.aload_n 0, 1) := by decide +kernel
theorem dX8_init_5 : decode cX8_init 5 = .ok (.new 7, 3) := by decide +kernel
theorem dX8_init_8 : decode cX8_init 8 = .ok (.dup, 1) := by decide +kernel
theorem dX8_init_9 : decode cX8_init 9 = .ok (.invokespecial 9, 3) := by decide +kernel
theorem dX8_init_12 : decode cX8_init 12 = .ok (.putfield 10, 3) := by decide +kernel
theorem dX8_init_15 : decode cX8_init 15 = .ok (.aload_n 0, 1) := by decide +kernel
theorem dX8_init_16 : decode cX8_init 16 = .ok (.new 7, 3) := by decide +kernel
theorem dX8_init_19 : decode cX8_init 19 = .ok (.dup, 1) := by decide +kernel
theorem dX8_init_20 : decode cX8_init 20 = .ok (.invokespecial 9, 3) := by decide +kernel
theorem dX8_init_23 : decode cX8_init 23 = .ok (.putfield 16, 3) := by decide +kernel
theorem dX8_init_26 : decode cX8_init 26 = .ok (.aload_n 0, 1) := by decide +kernel
theorem dX8_init_27 : decode cX8_init 27 = .ok (.new 19, 3) := by decide +kernel
theorem dX8_init_30 : decode cX8_init 30 = .ok (.dup, 1) := by decide +kernel
theorem dX8_init_31 : decode cX8_init 31 = .ok (.invokespecial 21, 3) := by decide +kernel
theorem dX8_init_34 : decode cX8_init 34 = .ok (.putfield 22, 3) := by decide +kernel
theorem dX8_init_37 : decode cX8_init 37 = .ok (.aload_n 0, 1) := by decide +kernel
theorem dX8_init_38 : decode cX8_init 38 = .ok (.new 26, 3) := by decide +kernel
theorem dX8_init_41 : decode cX8_init 41 = .ok (.dup, 1) := by decide +kernel
theorem dX8_init_42 : decode cX8_init 42 = .ok (.invokespecial 28, 3) := by decide +kernel
theorem dX8_init_45 : decode cX8_init 45 = .ok (.putfield 29, 3) := by decide +kernel
theorem dX8_init_48 : decode cX8_init 48 = .ok (.aload_n 0, 1) := by decide +kernel
theorem dX8_init_49 : decode cX8_init 49 = .ok (.new 33, 3) := by decide +kernel
theorem dX8_init_52 : decode cX8_init 52 = .ok (.dup, 1) := by decide +kernel
theorem dX8_init_53 : decode cX8_init 53 = .ok (.invokespecial 35, 3) := by decide +kernel
theorem dX8_init_56 : decode cX8_init 56 = .ok (.putfield 36, 3) := by decide +kernel
theorem dX8_init_59 : decode cX8_init 59 = .ok (.aload_n 0, 1) := by decide +kernel
theorem dX8_init_60 : decode cX8_init 60 = .ok (.iconst 4, 1) := by decide +kernel
theorem dX8_init_61 : decode cX8_init 61 = .ok (.anewarray 40, 3) := by decide +kernel
theorem dX8_init_64 : decode cX8_init 64 = .ok (.putfield 42, 3) := by decide +kernel
theorem dX8_init_67 : decode cX8_init 67 = .ok (.aload_n 0, 1) := by decide +kernel
theorem dX8_init_68 : decode cX8_init 68 = .ok (.bipush 7, 2) := by decide +kernel
theorem dX8_init_70 : decode cX8_init 70 = .ok (.newarray .int, 2) := by decide +kernel
theorem dX8_init_72 : decode cX8_init 72 = .ok (.putfield 46, 3) := by decide +kernel
theorem dX8_init_75 : decode cX8_init 75 = .ok (.aload_n 0, 1) := by decide +kernel
theorem dX8_init_76 : decode cX8_init 76 = .ok (.iconst 5, 1) := by decide +kernel
theorem dX8_init_77 : decode cX8_init 77 = .ok (.newarray .int, 2) := by decide +kernel
theorem dX8_init_79 : decode cX8_init 79 = .ok (.putfield 50, 3) := by decide +kernel
theorem dX8_init_82 : decode cX8_init 82 = .ok (.aload_n 0, 1) := by decide +kernel
theorem dX8_init_83 : decode cX8_init 83 = .ok (.bipush 60, 2) := by decide +kernel
theorem dX8_init_85 : decode cX8_init 85 = .ok (.newarray .int, 2) := by decide +kernel
theorem dX8_init_87 : decode cX8_init 87 = .ok (.putfield 53, 3) := by decide +kernel
theorem dX8_init_90 : decode cX8_init 90 = .ok (.aload_n 0, 1) := by decide +kernel
theorem dX8_init_91 : decode cX8_init 91 = .ok (.iconst 0, 1) := by decide +kernel
theorem dX8_init_92 : decode cX8_init 92 = .ok (.putfield 56, 3) := by decide +kernel
theorem dX8_init_95 : decode cX8_init 95 = .ok (.iconst 0, 1) := by decide +kernel
theorem dX8_init_96 : decode cX8_init 96 = .ok (.istore_n 1, 1) := by decide +kernel
theorem dX8_init_97 : decode cX8_init 97 = .ok (.iload_n 1, 1) := by decide +kernel
theorem dX8_init_98 : decode cX8_init 98 = .ok (.aload_n 0, 1) := by decide +kernel
theorem dX8_init_99 : decode cX8_init 99 = .ok (.getfield 42, 3) := by decide +kernel
theorem dX8_init_102 : decode cX8_init 102 = .ok (.arraylength, 1) := by decide +kernel
theorem dX8_init_103 : decode cX8_init 103 = .ok (.if_icmp .ge 22, 3) := by decide +kernel
theorem dX8_init_106 : decode cX8_init 106 = .ok (.aload_n 0, 1) := by decide +kernel
theorem dX8_init_107 : decode cX8_init 107 = .ok (.getfield 42, 3) := by decide +kernel
theorem dX8_init_110 : decode cX8_init 110 = .ok (.iload_n 1, 1) := by decide +kernel
theorem dX8_init_111 : decode cX8_init 111 = .ok (.new 40, 3) := by decide +kernel
theorem dX8_init_114 : decode cX8_init 114 = .ok (.dup, 1) := by decide +kernel
theorem dX8_init_115 : decode cX8_init 115 = .ok (.invokespecial 60, 3) := by decide +kernel
theorem dX8_init_118 : decode cX8_init 118 = .ok (.aastore, 1) := by decide +kernel
theorem dX8_init_119 : decode cX8_init 119 = .ok (.iinc 1 1, 3) := by decide +kernel
theorem dX8_init_122 : decode cX8_init 122 = .ok (.goto (-25), 3) := by decide +kernel
theorem dX8_init_125 : decode cX8_init 125 = .ok (.return_, 1) := by decide +kernel
theorem dX8_miles_0 : decode cX8_miles 0 = .ok (.iload_n 1, 1) := by decide +kernel
theorem dX8_miles_1 : decode cX8_miles 1 = .ok (.iconst 1, 1) := by decide +kernel
theorem dX8_miles_2 : decode cX8_miles 2 = .ok (.bipush 24, 2) := by decide +kernel
theorem dX8_miles_4 : decode cX8_miles 4 = .ok (.invokestatic 61, 3) := by decide +kernel
theorem dX8_miles_7 : decode cX8_miles 7 = .ok (.ifCond .ne 9, 3) := by decide +kernel
theorem dX8_miles_10 : decode cX8_miles 10 = .ok (.aload_n 0, 1) := by decide +kernel
theorem dX8_miles_11 : decode cX8_miles 11 = .ok (.iconst 1, 1) := by decide +kernel
theorem dX8_miles_12 : decode cX8_miles 12 = .ok (.invokevirtual 65, 3) := by decide +kernel
theorem dX8_miles_15 : decode cX8_miles 15 = .ok (.ireturn, 1) := by decide +kernel
theorem dX8_miles_16 : decode cX8_miles 16 = .ok (.aload_n 0, 1) := by decide +kernel
theorem dX8_miles_17 : decode cX8_miles 17 = .ok (.getfield 10, 3) := by decide +kernel
theorem dX8_miles_20 : decode cX8_miles 20 = .ok (.getfield 69, 3) := by decide +kernel
theorem dX8_miles_23 : decode cX8_miles 23 = .ok (.invokevirtual 73, 3) := by decide +kernel
theorem dX8_miles_26 : decode cX8_miles 26 = .ok (.istore_n 2, 1) := by decide +kernel
theorem dX8_miles_27 : decode cX8_miles 27 = .ok (.aload_n 0, 1) := by decide +kernel
theorem dX8_miles_28 : decode cX8_miles 28 = .ok (.getfield 10, 3) := by decide +kernel
theorem dX8_miles_31 : decode cX8_miles 31 = .ok (.getfield 69, 3) := by decide +kernel
theorem dX8_miles_34 : decode cX8_miles 34 = .ok (.iload_n 1, 1) := by decide +kernel
theorem dX8_miles_35 : decode cX8_miles 35 = .ok (.invokevirtual 79, 3) := by decide +kernel
theorem dX8_miles_38 : decode cX8_miles 38 = .ok (.iload_n 2, 1) := by decide +kernel
theorem dX8_miles_39 : decode cX8_miles 39 = .ok (.ireturn, 1) := by decide +kernel
theorem dX8_mile_0 : decode cX8_mile 0 = .ok (.iload_n 1, 1) := by decide +kernel
theorem dX8_mile_1 : decode cX8_mile 1 = .ok (.iconst 0, 1) := by decide +kernel
theorem dX8_mile_2 : decode cX8_mile 2 = .ok (.bipush 23, 2) := by decide +kernel
theorem dX8_mile_4 : decode cX8_mile 4 = .ok (.invokestatic 61, 3) := by decide +kernel
theorem dX8_mile_7 : decode cX8_mile 7 = .ok (.ifCond .eq 29, 3) := by decide +kernel
theorem dX8_mile_10 : decode cX8_mile 10 = .ok (.iload_n 2, 1) := by decide +kernel
theorem dX8_mile_11 : decode cX8_mile 11 = .ok (.iconst 0, 1) := by decide +kernel
theorem dX8_mile_12 : decode cX8_mile 12 = .ok (.iconst 3, 1) := by decide +kernel
theorem dX8_mile_13 : decode cX8_mile 13 = .ok (.invokestatic 61, 3) := by decide +kernel
theorem dX8_mile_16 : decode cX8_mile 16 = .ok (.ifCond .eq 20, 3) := by decide +kernel
theorem dX8_mile_19 : decode cX8_mile 19 = .ok (.iload_n 3, 1) := by decide +kernel
theorem dX8_mile_20 : decode cX8_mile 20 = .ok (.getstatic 83, 3) := by decide +kernel
theorem dX8_mile_23 : decode cX8_mile 23 = .ok (.iload_n 2, 1) := by decide +kernel
theorem dX8_mile_24 : decode cX8_mile 24 = .ok (.iaload, 1) := by decide +kernel
theorem dX8_mile_25 : decode cX8_mile 25 = .ok (.getstatic 86, 3) := by decide +kernel
theorem dX8_mile_28 : decode cX8_mile 28 = .ok (.iload_n 2, 1) := by decide +kernel
theorem dX8_mile_29 : decode cX8_mile 29 = .ok (.iaload, 1) := by decide +kernel
theorem dX8_mile_30 : decode cX8_mile 30 = .ok (.invokestatic 61, 3) := by decide +kernel
theorem dX8_mile_33 : decode cX8_mile 33 = .ok (.ifCond .ne 9, 3) := by decide +kernel
theorem dX8_mile_36 : decode cX8_mile 36 = .ok (.aload_n 0, 1) := by decide +kernel
theorem dX8_mile_37 : decode cX8_mile 37 = .ok (.iconst 1, 1) := by decide +kernel
theorem dX8_mile_38 : decode cX8_mile 38 = .ok (.invokevirtual 65, 3) := by decide +kernel
theorem dX8_mile_41 : decode cX8_mile 41 = .ok (.ireturn, 1) := by decide +kernel
theorem dX8_mile_42 : decode cX8_mile 42 = .ok (.aload_n 0, 1) := by decide +kernel
theorem dX8_mile_43 : decode cX8_mile 43 = .ok (.getfield 10, 3) := by decide +kernel
theorem dX8_mile_46 : decode cX8_mile 46 = .ok (.getfield 69, 3) := by decide +kernel
theorem dX8_mile_49 : decode cX8_mile 49 = .ok (.iload_n 2, 1) := by decide +kernel
theorem dX8_mile_50 : decode cX8_mile 50 = .ok (.iload_n 1, 1) := by decide +kernel
theorem dX8_mile_51 : decode cX8_mile 51 = .ok (.invokevirtual 89, 3) := by decide +kernel
theorem dX8_mile_54 : decode cX8_mile 54 = .ok (.istore 4, 2) := by decide +kernel
theorem dX8_mile_56 : decode cX8_mile 56 = .ok (.aload_n 0, 1) := by decide +kernel
theorem dX8_mile_57 : decode cX8_mile 57 = .ok (.getfield 10, 3) := by decide +kernel
theorem dX8_mile_60 : decode cX8_mile 60 = .ok (.getfield 69, 3) := by decide +kernel
theorem dX8_mile_63 : decode cX8_mile 63 = .ok (.iload_n 2, 1) := by decide +kernel
theorem dX8_mile_64 : decode cX8_mile 64 = .ok (.iload_n 1, 1) := by decide +kernel
theorem dX8_mile_65 : decode cX8_mile 65 = .ok (.iload_n 3, 1) := by decide +kernel
theorem dX8_mile_66 : decode cX8_mile 66 = .ok (.invokevirtual 93, 3) := by decide +kernel
theorem dX8_mile_69 : decode cX8_mile 69 = .ok (.iload 4, 2) := by decide +kernel
theorem dX8_mile_71 : decode cX8_mile 71 = .ok (.ireturn, 1) := by decide +kernel
theorem dX8_mileIs_0 : decode cX8_mileIs 0 = .ok (.aload_n 0, 1) := by decide +kernel
theorem dX8_mileIs_1 : decode cX8_mileIs 1 = .ok (.getfield 10, 3) := by decide +kernel
theorem dX8_mileIs_4 : decode cX8_mileIs 4 = .ok (.getfield 69, 3) := by decide +kernel
theorem dX8_mileIs_7 : decode cX8_mileIs 7 = .ok (.iload_n 1, 1) := by decide +kernel
theorem dX8_mileIs_8 : decode cX8_mileIs 8 = .ok (.invokevirtual 97, 3) := by decide +kernel
theorem dX8_mileIs_11 : decode cX8_mileIs 11 = .ok (.ifCond .eq 13, 3) := by decide +kernel
theorem dX8_mileIs_14 : decode cX8_mileIs 14 = .ok (.iload_n 2, 1) := by decide +kernel
theorem dX8_mileIs_15 : decode cX8_mileIs 15 = .ok (.iconst 0, 1) := by decide +kernel
theorem dX8_mileIs_16 : decode cX8_mileIs 16 = .ok (.bipush 8, 2) := by decide +kernel
theorem dX8_mileIs_18 : decode cX8_mileIs 18 = .ok (.invokestatic 61, 3) := by decide +kernel
theorem dX8_mileIs_21 : decode cX8_mileIs 21 = .ok (.ifCond .ne 9, 3) := by decide +kernel
theorem dX8_mileIs_24 : decode cX8_mileIs 24 = .ok (.aload_n 0, 1) := by decide +kernel
theorem dX8_mileIs_25 : decode cX8_mileIs 25 = .ok (.iconst 1, 1) := by decide +kernel
theorem dX8_mileIs_26 : decode cX8_mileIs 26 = .ok (.invokevirtual 65, 3) := by decide +kernel
theorem dX8_mileIs_29 : decode cX8_mileIs 29 = .ok (.ireturn, 1) := by decide +kernel
theorem dX8_mileIs_30 : decode cX8_mileIs 30 = .ok (.iload_n 2, 1) := by decide +kernel
theorem dX8_mileIs_31 : decode cX8_mileIs 31 = .ok (.iconst 4, 1) := by decide +kernel
theorem dX8_mileIs_32 : decode cX8_mileIs 32 = .ok (.if_icmp .gt 16, 3) := by decide +kernel
theorem dX8_mileIs_35 : decode cX8_mileIs 35 = .ok (.aload_n 0, 1) := by decide +kernel
theorem dX8_mileIs_36 : decode cX8_mileIs 36 = .ok (.getfield 10, 3) := by decide +kernel
theorem dX8_mileIs_39 : decode cX8_mileIs 39 = .ok (.getfield 69, 3) := by decide +kernel
theorem dX8_mileIs_42 : decode cX8_mileIs 42 = .ok (.iload_n 2, 1) := by decide +kernel
theorem dX8_mileIs_43 : decode cX8_mileIs 43 = .ok (.iload_n 1, 1) := by decide +kernel
theorem dX8_mileIs_44 : decode cX8_mileIs 44 = .ok (.invokevirtual 89, 3) := by decide +kernel
theorem dX8_mileIs_47 : decode cX8_mileIs 47 = .ok (.ireturn, 1) := by decide +kernel
theorem dX8_mileIs_48 : decode cX8_mileIs 48 = .ok (.aload_n 0, 1) := by decide +kernel
theorem dX8_mileIs_49 : decode cX8_mileIs 49 = .ok (.getfield 22, 3) := by decide +kernel
theorem dX8_mileIs_52 : decode cX8_mileIs 52 = .ok (.aload_n 0, 1) := by decide +kernel
theorem dX8_mileIs_53 : decode cX8_mileIs 53 = .ok (.getfield 10, 3) := by decide +kernel
theorem dX8_mileIs_56 : decode cX8_mileIs 56 = .ok (.iconst (-1), 1) := by decide +kernel
theorem dX8_mileIs_57 : decode cX8_mileIs 57 = .ok (.invokevirtual 101, 3) := by decide +kernel
theorem dX8_mileIs_60 : decode cX8_mileIs 60 = .ok (.iload_n 2, 1) := by decide +kernel
theorem dX8_mileIs_61 : decode cX8_mileIs 61 = .ok (.tableswitch 51 5 7 #[27, 33, 42], 27) := by decide +kernel
theorem dX8_mileIs_88 : decode cX8_mileIs 88 = .ok (.aload_n 0, 1) := by decide +kernel
theorem dX8_mileIs_89 : decode cX8_mileIs 89 = .ok (.iload_n 1, 1) := by decide +kernel
theorem dX8_mileIs_90 : decode cX8_mileIs 90 = .ok (.invokevirtual 105, 3) := by decide +kernel
theorem dX8_mileIs_93 : decode cX8_mileIs 93 = .ok (.ireturn, 1) := by decide +kernel
theorem dX8_mileIs_94 : decode cX8_mileIs 94 = .ok (.aload_n 0, 1) := by decide +kernel
theorem dX8_mileIs_95 : decode cX8_mileIs 95 = .ok (.getfield 22, 3) := by decide +kernel
theorem dX8_mileIs_98 : decode cX8_mileIs 98 = .ok (.iload_n 1, 1) := by decide +kernel
theorem dX8_mileIs_99 : decode cX8_mileIs 99 = .ok (.invokevirtual 108, 3) := by decide +kernel
theorem dX8_mileIs_102 : decode cX8_mileIs 102 = .ok (.ireturn, 1) := by decide +kernel
theorem dX8_mileIs_103 : decode cX8_mileIs 103 = .ok (.aload_n 0, 1) := by decide +kernel
theorem dX8_mileIs_104 : decode cX8_mileIs 104 = .ok (.getfield 22, 3) := by decide +kernel
theorem dX8_mileIs_107 : decode cX8_mileIs 107 = .ok (.iload_n 1, 1) := by decide +kernel
theorem dX8_mileIs_108 : decode cX8_mileIs 108 = .ok (.invokevirtual 111, 3) := by decide +kernel
theorem dX8_mileIs_111 : decode cX8_mileIs 111 = .ok (.ireturn, 1) := by decide +kernel
theorem dX8_mileIs_112 : decode cX8_mileIs 112 = .ok (.aload_n 0, 1) := by decide +kernel
theorem dX8_mileIs_113 : decode cX8_mileIs 113 = .ok (.getfield 22, 3) := by decide +kernel
theorem dX8_mileIs_116 : decode cX8_mileIs 116 = .ok (.iload_n 1, 1) := by decide +kernel
theorem dX8_mileIs_117 : decode cX8_mileIs 117 = .ok (.invokevirtual 114, 3) := by decide +kernel
theorem dX8_mileIs_120 : decode cX8_mileIs 120 = .ok (.ireturn, 1) := by decide +kernel
theorem dX8_stone_0 : decode cX8_stone 0 = .ok (.iload_n 1, 1) := by decide +kernel
theorem dX8_stone_1 : decode cX8_stone 1 = .ok (.sipush (-9999), 3) := by decide +kernel
theorem dX8_stone_4 : decode cX8_stone 4 = .ok (.sipush 9999, 3) := by decide +kernel
theorem dX8_stone_7 : decode cX8_stone 7 = .ok (.invokestatic 61, 3) := by decide +kernel
theorem dX8_stone_10 : decode cX8_stone 10 = .ok (.ifCond .eq 13, 3) := by decide +kernel
theorem dX8_stone_13 : decode cX8_stone 13 = .ok (.iload_n 2, 1) := by decide +kernel
theorem dX8_stone_14 : decode cX8_stone 14 = .ok (.iconst 0, 1) := by decide +kernel
theorem dX8_stone_15 : decode cX8_stone 15 = .ok (.ldc 117, 2) := by decide +kernel
theorem dX8_stone_17 : decode cX8_stone 17 = .ok (.invokestatic 61, 3) := by decide +kernel
theorem dX8_stone_20 : decode cX8_stone 20 = .ok (.ifCond .ne 9, 3) := by decide +kernel
theorem dX8_stone_23 : decode cX8_stone 23 = .ok (.aload_n 0, 1) := by decide +kernel
theorem dX8_stone_24 : decode cX8_stone 24 = .ok (.iconst 1, 1) := by decide +kernel
theorem dX8_stone_25 : decode cX8_stone 25 = .ok (.invokevirtual 65, 3) := by decide +kernel
theorem dX8_stone_28 : decode cX8_stone 28 = .ok (.ireturn, 1) := by decide +kernel
theorem dX8_stone_29 : decode cX8_stone 29 = .ok (.aload_n 0, 1) := by decide +kernel
theorem dX8_stone_30 : decode cX8_stone 30 = .ok (.getfield 10, 3) := by decide +kernel
theorem dX8_stone_33 : decode cX8_stone 33 = .ok (.iload_n 1, 1) := by decide +kernel
theorem dX8_stone_34 : decode cX8_stone 34 = .ok (.putfield 118, 3) := by decide +kernel
theorem dX8_stone_37 : decode cX8_stone 37 = .ok (.aload_n 0, 1) := by decide +kernel
theorem dX8_stone_38 : decode cX8_stone 38 = .ok (.getfield 10, 3) := by decide +kernel
theorem dX8_stone_41 : decode cX8_stone 41 = .ok (.iload_n 2, 1) := by decide +kernel
theorem dX8_stone_42 : decode cX8_stone 42 = .ok (.putfield 121, 3) := by decide +kernel
theorem dX8_stone_45 : decode cX8_stone 45 = .ok (.iconst 1, 1) := by decide +kernel
theorem dX8_stone_46 : decode cX8_stone 46 = .ok (.ireturn, 1) := by decide +kernel
theorem dX8_slip_0 : decode cX8_slip 0 = .ok (.iload_n 2, 1) := by decide +kernel
theorem dX8_slip_1 : decode cX8_slip 1 = .ok (.bipush 100, 2) := by decide +kernel
theorem dX8_slip_3 : decode cX8_slip 3 = .ok (.idiv, 1) := by decide +kernel
theorem dX8_slip_4 : decode cX8_slip 4 = .ok (.istore 4, 2) := by decide +kernel
theorem dX8_slip_6 : decode cX8_slip 6 = .ok (.iload_n 2, 1) := by decide +kernel
theorem dX8_slip_7 : decode cX8_slip 7 = .ok (.bipush 100, 2) := by decide +kernel
theorem dX8_slip_9 : decode cX8_slip 9 = .ok (.irem, 1) := by decide +kernel
theorem dX8_slip_10 : decode cX8_slip 10 = .ok (.istore 5, 2) := by decide +kernel
theorem dX8_slip_12 : decode cX8_slip 12 = .ok (.iload_n 1, 1) := by decide +kernel
theorem dX8_slip_13 : decode cX8_slip 13 = .ok (.iconst 0, 1) := by decide +kernel
theorem dX8_slip_14 : decode cX8_slip 14 = .ok (.bipush 6, 2) := by decide +kernel
theorem dX8_slip_16 : decode cX8_slip 16 = .ok (.invokestatic 61, 3) := by decide +kernel
theorem dX8_slip_19 : decode cX8_slip 19 = .ok (.ifCond .eq 37, 3) := by decide +kernel
theorem dX8_slip_22 : decode cX8_slip 22 = .ok (.iload_n 3, 1) := by decide +kernel
theorem dX8_slip_23 : decode cX8_slip 23 = .ok (.bipush (-99), 2) := by decide +kernel
theorem dX8_slip_25 : decode cX8_slip 25 = .ok (.bipush 99, 2) := by decide +kernel
theorem dX8_slip_27 : decode cX8_slip 27 = .ok (.invokestatic 61, 3) := by decide +kernel
theorem dX8_slip_30 : decode cX8_slip 30 = .ok (.ifCond .eq 26, 3) := by decide +kernel
theorem dX8_slip_33 : decode cX8_slip 33 = .ok (.iload 4, 2) := by decide +kernel
theorem dX8_slip_35 : decode cX8_slip 35 = .ok (.iconst 0, 1) := by decide +kernel
theorem dX8_slip_36 : decode cX8_slip 36 = .ok (.bipush 23, 2) := by decide +kernel
theorem dX8_slip_38 : decode cX8_slip 38 = .ok (.invokestatic 61, 3) := by decide +kernel
theorem dX8_slip_41 : decode cX8_slip 41 = .ok (.ifCond .eq 15, 3) := by decide +kernel
theorem dX8_slip_44 : decode cX8_slip 44 = .ok (.iload 5, 2) := by decide +kernel
theorem dX8_slip_46 : decode cX8_slip 46 = .ok (.iload 4, 2) := by decide +kernel
theorem dX8_slip_48 : decode cX8_slip 48 = .ok (.bipush 23, 2) := by decide +kernel
theorem dX8_slip_50 : decode cX8_slip 50 = .ok (.invokestatic 61, 3) := by decide +kernel
theorem dX8_slip_53 : decode cX8_slip 53 = .ok (.ifCond .ne 9, 3) := by decide +kernel
theorem dX8_slip_56 : decode cX8_slip 56 = .ok (.aload_n 0, 1) := by decide +kernel
theorem dX8_slip_57 : decode cX8_slip 57 = .ok (.iconst 1, 1) := by decide +kernel
theorem dX8_slip_58 : decode cX8_slip 58 = .ok (.invokevirtual 65, 3) := by decide +kernel
theorem dX8_slip_61 : decode cX8_slip 61 = .ok (.ireturn, 1) := by decide +kernel
theorem dX8_slip_62 : decode cX8_slip 62 = .ok (.aload_n 0, 1) := by decide +kernel
theorem dX8_slip_63 : decode cX8_slip 63 = .ok (.getfield 10, 3) := by decide +kernel
theorem dX8_slip_66 : decode cX8_slip 66 = .ok (.getfield 124, 3) := by decide +kernel
theorem dX8_slip_69 : decode cX8_slip 69 = .ok (.invokevirtual 128, 3) := by decide +kernel
theorem dX8_slip_72 : decode cX8_slip 72 = .ok (.ifCond .eq 9, 3) := by decide +kernel
theorem dX8_slip_75 : decode cX8_slip 75 = .ok (.aload_n 0, 1) := by decide +kernel
theorem dX8_slip_76 : decode cX8_slip 76 = .ok (.iconst 4, 1) := by decide +kernel
theorem dX8_slip_77 : decode cX8_slip 77 = .ok (.invokevirtual 65, 3) := by decide +kernel
theorem dX8_slip_80 : decode cX8_slip 80 = .ok (.ireturn, 1) := by decide +kernel
theorem dX8_slip_81 : decode cX8_slip 81 = .ok (.aload_n 0, 1) := by decide +kernel
theorem dX8_slip_82 : decode cX8_slip 82 = .ok (.getfield 10, 3) := by decide +kernel
theorem dX8_slip_85 : decode cX8_slip 85 = .ok (.getfield 124, 3) := by decide +kernel
theorem dX8_slip_88 : decode cX8_slip 88 = .ok (.iload_n 1, 1) := by decide +kernel
theorem dX8_slip_89 : decode cX8_slip 89 = .ok (.invokevirtual 134, 3) := by decide +kernel
theorem dX8_slip_92 : decode cX8_slip 92 = .ok (.istore 6, 2) := by decide +kernel
theorem dX8_slip_94 : decode cX8_slip 94 = .ok (.aload_n 0, 1) := by decide +kernel
theorem dX8_slip_95 : decode cX8_slip 95 = .ok (.getfield 10, 3) := by decide +kernel
theorem dX8_slip_98 : decode cX8_slip 98 = .ok (.getfield 124, 3) := by decide +kernel
theorem dX8_slip_101 : decode cX8_slip 101 = .ok (.iconst 1, 1) := by decide +kernel
theorem dX8_slip_102 : decode cX8_slip 102 = .ok (.iload 6, 2) := by decide +kernel
theorem dX8_slip_104 : decode cX8_slip 104 = .ok (.iload 4, 2) := by decide +kernel
theorem dX8_slip_106 : decode cX8_slip 106 = .ok (.invokevirtual 137, 3) := by decide +kernel
theorem dX8_slip_109 : decode cX8_slip 109 = .ok (.aload_n 0, 1) := by decide +kernel
theorem dX8_slip_110 : decode cX8_slip 110 = .ok (.getfield 10, 3) := by decide +kernel
theorem dX8_slip_113 : decode cX8_slip 113 = .ok (.getfield 124, 3) := by decide +kernel
theorem dX8_slip_116 : decode cX8_slip 116 = .ok (.iconst 2, 1) := by decide +kernel
theorem dX8_slip_117 : decode cX8_slip 117 = .ok (.iload 6, 2) := by decide +kernel
theorem dX8_slip_119 : decode cX8_slip 119 = .ok (.iload 5, 2) := by decide +kernel
theorem dX8_slip_121 : decode cX8_slip 121 = .ok (.invokevirtual 137, 3) := by decide +kernel
theorem dX8_slip_124 : decode cX8_slip 124 = .ok (.aload_n 0, 1) := by decide +kernel
theorem dX8_slip_125 : decode cX8_slip 125 = .ok (.getfield 10, 3) := by decide +kernel
theorem dX8_slip_128 : decode cX8_slip 128 = .ok (.getfield 124, 3) := by decide +kernel
theorem dX8_slip_131 : decode cX8_slip 131 = .ok (.iconst 3, 1) := by decide +kernel
theorem dX8_slip_132 : decode cX8_slip 132 = .ok (.iload 6, 2) := by decide +kernel
theorem dX8_slip_134 : decode cX8_slip 134 = .ok (.iload_n 3, 1) := by decide +kernel
theorem dX8_slip_135 : decode cX8_slip 135 = .ok (.invokevirtual 137, 3) := by decide +kernel
theorem dX8_slip_138 : decode cX8_slip 138 = .ok (.aload_n 0, 1) := by decide +kernel
theorem dX8_slip_139 : decode cX8_slip 139 = .ok (.getfield 10, 3) := by decide +kernel
theorem dX8_slip_142 : decode cX8_slip 142 = .ok (.getfield 124, 3) := by decide +kernel
theorem dX8_slip_145 : decode cX8_slip 145 = .ok (.iconst 4, 1) := by decide +kernel
theorem dX8_slip_146 : decode cX8_slip 146 = .ok (.iload 6, 2) := by decide +kernel
theorem dX8_slip_148 : decode cX8_slip 148 = .ok (.iconst 1, 1) := by decide +kernel
theorem dX8_slip_149 : decode cX8_slip 149 = .ok (.invokevirtual 137, 3) := by decide +kernel
theorem dX8_slip_152 : decode cX8_slip 152 = .ok (.iload 6, 2) := by decide +kernel
theorem dX8_slip_154 : decode cX8_slip 154 = .ok (.ireturn, 1) := by decide +kernel
theorem dX8_slipIs_0 : decode cX8_slipIs 0 = .ok (.aload_n 0, 1) := by decide +kernel
theorem dX8_slipIs_1 : decode cX8_slipIs 1 = .ok (.getfield 10, 3) := by decide +kernel
theorem dX8_slipIs_4 : decode cX8_slipIs 4 = .ok (.getfield 124, 3) := by decide +kernel
theorem dX8_slipIs_7 : decode cX8_slipIs 7 = .ok (.iload_n 1, 1) := by decide +kernel
theorem dX8_slipIs_8 : decode cX8_slipIs 8 = .ok (.invokevirtual 138, 3) := by decide +kernel
theorem dX8_slipIs_11 : decode cX8_slipIs 11 = .ok (.ifCond .eq 12, 3) := by decide +kernel
theorem dX8_slipIs_14 : decode cX8_slipIs 14 = .ok (.iload_n 2, 1) := by decide +kernel
theorem dX8_slipIs_15 : decode cX8_slipIs 15 = .ok (.iconst 0, 1) := by decide +kernel
theorem dX8_slipIs_16 : decode cX8_slipIs 16 = .ok (.iconst 4, 1) := by decide +kernel
theorem dX8_slipIs_17 : decode cX8_slipIs 17 = .ok (.invokestatic 61, 3) := by decide +kernel
theorem dX8_slipIs_20 : decode cX8_slipIs 20 = .ok (.ifCond .ne 9, 3) := by decide +kernel
theorem dX8_slipIs_23 : decode cX8_slipIs 23 = .ok (.aload_n 0, 1) := by decide +kernel
theorem dX8_slipIs_24 : decode cX8_slipIs 24 = .ok (.iconst 1, 1) := by decide +kernel
theorem dX8_slipIs_25 : decode cX8_slipIs 25 = .ok (.invokevirtual 65, 3) := by decide +kernel
theorem dX8_slipIs_28 : decode cX8_slipIs 28 = .ok (.ireturn, 1) := by decide +kernel
theorem dX8_slipIs_29 : decode cX8_slipIs 29 = .ok (.aload_n 0, 1) := by decide +kernel
theorem dX8_slipIs_30 : decode cX8_slipIs 30 = .ok (.getfield 10, 3) := by decide +kernel
theorem dX8_slipIs_33 : decode cX8_slipIs 33 = .ok (.getfield 124, 3) := by decide +kernel
theorem dX8_slipIs_36 : decode cX8_slipIs 36 = .ok (.iload_n 2, 1) := by decide +kernel
theorem dX8_slipIs_37 : decode cX8_slipIs 37 = .ok (.iload_n 1, 1) := by decide +kernel
theorem dX8_slipIs_38 : decode cX8_slipIs 38 = .ok (.invokevirtual 139, 3) := by decide +kernel
theorem dX8_slipIs_41 : decode cX8_slipIs 41 = .ok (.ireturn, 1) := by decide +kernel
theorem dX8_as_0 : decode cX8_as 0 = .ok (.aload_n 0, 1) := by decide +kernel
theorem dX8_as_1 : decode cX8_as 1 = .ok (.getfield 10, 3) := by decide +kernel
theorem dX8_as_4 : decode cX8_as 4 = .ok (.getfield 124, 3) := by decide +kernel
theorem dX8_as_7 : decode cX8_as 7 = .ok (.iload_n 1, 1) := by decide +kernel
theorem dX8_as_8 : decode cX8_as 8 = .ok (.invokevirtual 138, 3) := by decide +kernel
theorem dX8_as_11 : decode cX8_as 11 = .ok (.ifCond .eq 13, 3) := by decide +kernel
theorem dX8_as_14 : decode cX8_as 14 = .ok (.iload_n 2, 1) := by decide +kernel
theorem dX8_as_15 : decode cX8_as 15 = .ok (.iconst 0, 1) := by decide +kernel
theorem dX8_as_16 : decode cX8_as 16 = .ok (.bipush 6, 2) := by decide +kernel
theorem dX8_as_18 : decode cX8_as 18 = .ok (.invokestatic 61, 3) := by decide +kernel
theorem dX8_as_21 : decode cX8_as 21 = .ok (.ifCond .ne 9, 3) := by decide +kernel
theorem dX8_as_24 : decode cX8_as 24 = .ok (.aload_n 0, 1) := by decide +kernel
theorem dX8_as_25 : decode cX8_as 25 = .ok (.iconst 1, 1) := by decide +kernel
theorem dX8_as_26 : decode cX8_as 26 = .ok (.invokevirtual 65, 3) := by decide +kernel
theorem dX8_as_29 : decode cX8_as 29 = .ok (.ireturn, 1) := by decide +kernel
theorem dX8_as_30 : decode cX8_as 30 = .ok (.aload_n 0, 1) := by decide +kernel
theorem dX8_as_31 : decode cX8_as 31 = .ok (.getfield 10, 3) := by decide +kernel
theorem dX8_as_34 : decode cX8_as 34 = .ok (.getfield 124, 3) := by decide +kernel
theorem dX8_as_37 : decode cX8_as 37 = .ok (.iload_n 1, 1) := by decide +kernel
theorem dX8_as_38 : decode cX8_as 38 = .ok (.iload_n 2, 1) := by decide +kernel
theorem dX8_as_39 : decode cX8_as 39 = .ok (.invokevirtual 140, 3) := by decide +kernel
theorem dX8_as_42 : decode cX8_as 42 = .ok (.ifCond .eq 18, 3) := by decide +kernel
theorem dX8_as_45 : decode cX8_as 45 = .ok (.aload_n 0, 1) := by decide +kernel
theorem dX8_as_46 : decode cX8_as 46 = .ok (.getfield 10, 3) := by decide +kernel
theorem dX8_as_49 : decode cX8_as 49 = .ok (.getfield 124, 3) := by decide +kernel
theorem dX8_as_52 : decode cX8_as 52 = .ok (.iconst 3, 1) := by decide +kernel
theorem dX8_as_53 : decode cX8_as 53 = .ok (.iload_n 1, 1) := by decide +kernel
theorem dX8_as_54 : decode cX8_as 54 = .ok (.invokevirtual 139, 3) := by decide +kernel
theorem dX8_as_57 : decode cX8_as 57 = .ok (.goto 8, 3) := by decide +kernel
theorem dX8_as_60 : decode cX8_as 60 = .ok (.aload_n 0, 1) := by decide +kernel
theorem dX8_as_61 : decode cX8_as 61 = .ok (.iconst 5, 1) := by decide +kernel
theorem dX8_as_62 : decode cX8_as 62 = .ok (.invokevirtual 65, 3) := by decide +kernel
theorem dX8_as_65 : decode cX8_as 65 = .ok (.ireturn, 1) := by decide +kernel
theorem dX8_turn_0 : decode cX8_turn 0 = .ok (.aload_n 0, 1) := by decide +kernel
theorem dX8_turn_1 : decode cX8_turn 1 = .ok (.getfield 10, 3) := by decide +kernel
theorem dX8_turn_4 : decode cX8_turn 4 = .ok (.getfield 124, 3) := by decide +kernel
theorem dX8_turn_7 : decode cX8_turn 7 = .ok (.iload_n 1, 1) := by decide +kernel
theorem dX8_turn_8 : decode cX8_turn 8 = .ok (.invokevirtual 138, 3) := by decide +kernel
theorem dX8_turn_11 : decode cX8_turn 11 = .ok (.ifCond .eq 12, 3) := by decide +kernel
theorem dX8_turn_14 : decode cX8_turn 14 = .ok (.iload_n 2, 1) := by decide +kernel
theorem dX8_turn_15 : decode cX8_turn 15 = .ok (.iconst 0, 1) := by decide +kernel
theorem dX8_turn_16 : decode cX8_turn 16 = .ok (.iconst 1, 1) := by decide +kernel
theorem dX8_turn_17 : decode cX8_turn 17 = .ok (.invokestatic 61, 3) := by decide +kernel
theorem dX8_turn_20 : decode cX8_turn 20 = .ok (.ifCond .ne 9, 3) := by decide +kernel
theorem dX8_turn_23 : decode cX8_turn 23 = .ok (.aload_n 0, 1) := by decide +kernel
