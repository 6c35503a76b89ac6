theorem dX8_turn_24 : decode cX8_turn 24 = .ok (.iconst 1, 1) := by decide +kernel
theorem dX8_turn_25 : decode cX8_turn 25 = .ok (.invokevirtual 65, 3) := by decide +kernel
theorem dX8_turn_28 : decode cX8_turn 28 = .ok (.ireturn, 1) := by decide +kernel
theorem dX8_turn_29 : decode cX8_turn 29 = .ok (.aload_n 0, 1) := by decide +kernel
theorem dX8_turn_30 : decode cX8_turn 30 = .ok (.getfield 10, 3) := by decide +kernel
theorem dX8_turn_33 : decode cX8_turn 33 = .ok (.getfield 124, 3) := by decide +kernel
theorem dX8_turn_36 : decode cX8_turn 36 = .ok (.iconst 4, 1) := by decide +kernel
theorem dX8_turn_37 : decode cX8_turn 37 = .ok (.iload_n 1, 1) := by decide +kernel
theorem dX8_turn_38 : decode cX8_turn 38 = .ok (.invokevirtual 139, 3) := by decide +kernel
theorem dX8_turn_41 : decode cX8_turn 41 = .ok (.istore_n 3, 1) := by decide +kernel
theorem dX8_turn_42 : decode cX8_turn 42 = .ok (.aload_n 0, 1) := by decide +kernel
theorem dX8_turn_43 : decode cX8_turn 43 = .ok (.getfield 10, 3) := by decide +kernel
theorem dX8_turn_46 : decode cX8_turn 46 = .ok (.getfield 124, 3) := by decide +kernel
theorem dX8_turn_49 : decode cX8_turn 49 = .ok (.iconst 4, 1) := by decide +kernel
theorem dX8_turn_50 : decode cX8_turn 50 = .ok (.iload_n 1, 1) := by decide +kernel
theorem dX8_turn_51 : decode cX8_turn 51 = .ok (.iload_n 2, 1) := by decide +kernel
theorem dX8_turn_52 : decode cX8_turn 52 = .ok (.invokevirtual 137, 3) := by decide +kernel
theorem dX8_turn_55 : decode cX8_turn 55 = .ok (.iload_n 3, 1) := by decide +kernel
theorem dX8_turn_56 : decode cX8_turn 56 = .ok (.ireturn, 1) := by decide +kernel
theorem dX8_does_0 : decode cX8_does 0 = .ok (.aload_n 0, 1) := by decide +kernel
theorem dX8_does_1 : decode cX8_does 1 = .ok (.getfield 10, 3) := by decide +kernel
theorem dX8_does_4 : decode cX8_does 4 = .ok (.getfield 124, 3) := by decide +kernel
theorem dX8_does_7 : decode cX8_does 7 = .ok (.iload_n 1, 1) := by decide +kernel
theorem dX8_does_8 : decode cX8_does 8 = .ok (.invokevirtual 138, 3) := by decide +kernel
theorem dX8_does_11 : decode cX8_does 11 = .ok (.ifCond .eq 22, 3) := by decide +kernel
theorem dX8_does_14 : decode cX8_does 14 = .ok (.iload_n 2, 1) := by decide +kernel
theorem dX8_does_15 : decode cX8_does 15 = .ok (.iconst 0, 1) := by decide +kernel
theorem dX8_does_16 : decode cX8_does 16 = .ok (.bipush 23, 2) := by decide +kernel
theorem dX8_does_18 : decode cX8_does 18 = .ok (.invokestatic 61, 3) := by decide +kernel
theorem dX8_does_21 : decode cX8_does 21 = .ok (.ifCond .eq 12, 3) := by decide +kernel
theorem dX8_does_24 : decode cX8_does 24 = .ok (.iload_n 3, 1) := by decide +kernel
theorem dX8_does_25 : decode cX8_does 25 = .ok (.iconst 0, 1) := by decide +kernel
theorem dX8_does_26 : decode cX8_does 26 = .ok (.iconst 2, 1) := by decide +kernel
theorem dX8_does_27 : decode cX8_does 27 = .ok (.invokestatic 61, 3) := by decide +kernel
theorem dX8_does_30 : decode cX8_does 30 = .ok (.ifCond .ne 9, 3) := by decide +kernel
theorem dX8_does_33 : decode cX8_does 33 = .ok (.aload_n 0, 1) := by decide +kernel
theorem dX8_does_34 : decode cX8_does 34 = .ok (.iconst 1, 1) := by decide +kernel
theorem dX8_does_35 : decode cX8_does 35 = .ok (.invokevirtual 65, 3) := by decide +kernel
theorem dX8_does_38 : decode cX8_does 38 = .ok (.ireturn, 1) := by decide +kernel
theorem dX8_does_39 : decode cX8_does 39 = .ok (.iload_n 3, 1) := by decide +kernel
theorem dX8_does_40 : decode cX8_does 40 = .ok (.lookupswitch 66 #[(0, 28), (1, 41)], 28) := by decide +kernel
theorem dX8_does_68 : decode cX8_does 68 = .ok (.aload_n 0, 1) := by decide +kernel
theorem dX8_does_69 : decode cX8_does 69 = .ok (.getfield 10, 3) := by decide +kernel
theorem dX8_does_72 : decode cX8_does 72 = .ok (.getfield 124, 3) := by decide +kernel
theorem dX8_does_75 : decode cX8_does 75 = .ok (.iload_n 1, 1) := by decide +kernel
theorem dX8_does_76 : decode cX8_does 76 = .ok (.iload_n 2, 1) := by decide +kernel
theorem dX8_does_77 : decode cX8_does 77 = .ok (.invokevirtual 144, 3) := by decide +kernel
theorem dX8_does_80 : decode cX8_does 80 = .ok (.ireturn, 1) := by decide +kernel
theorem dX8_does_81 : decode cX8_does 81 = .ok (.aload_n 0, 1) := by decide +kernel
theorem dX8_does_82 : decode cX8_does 82 = .ok (.getfield 10, 3) := by decide +kernel
theorem dX8_does_85 : decode cX8_does 85 = .ok (.getfield 124, 3) := by decide +kernel
theorem dX8_does_88 : decode cX8_does 88 = .ok (.iload_n 1, 1) := by decide +kernel
theorem dX8_does_89 : decode cX8_does 89 = .ok (.iload_n 2, 1) := by decide +kernel
theorem dX8_does_90 : decode cX8_does 90 = .ok (.aload_n 0, 1) := by decide +kernel
theorem dX8_does_91 : decode cX8_does 91 = .ok (.getfield 10, 3) := by decide +kernel
theorem dX8_does_94 : decode cX8_does 94 = .ok (.getfield 69, 3) := by decide +kernel
theorem dX8_does_97 : decode cX8_does 97 = .ok (.iconst 2, 1) := by decide +kernel
theorem dX8_does_98 : decode cX8_does 98 = .ok (.iload_n 2, 1) := by decide +kernel
theorem dX8_does_99 : decode cX8_does 99 = .ok (.invokevirtual 89, 3) := by decide +kernel
theorem dX8_does_102 : decode cX8_does 102 = .ok (.invokevirtual 147, 3) := by decide +kernel
theorem dX8_does_105 : decode cX8_does 105 = .ok (.ireturn, 1) := by decide +kernel
theorem dX8_does_106 : decode cX8_does 106 = .ok (.aload_n 0, 1) := by decide +kernel
theorem dX8_does_107 : decode cX8_does 107 = .ok (.getfield 10, 3) := by decide +kernel
theorem dX8_does_110 : decode cX8_does 110 = .ok (.getfield 124, 3) := by decide +kernel
theorem dX8_does_113 : decode cX8_does 113 = .ok (.iload_n 1, 1) := by decide +kernel
theorem dX8_does_114 : decode cX8_does 114 = .ok (.iload_n 2, 1) := by decide +kernel
theorem dX8_does_115 : decode cX8_does 115 = .ok (.aload_n 0, 1) := by decide +kernel
theorem dX8_does_116 : decode cX8_does 116 = .ok (.getfield 10, 3) := by decide +kernel
theorem dX8_does_119 : decode cX8_does 119 = .ok (.getfield 69, 3) := by decide +kernel
theorem dX8_does_122 : decode cX8_does 122 = .ok (.iconst 1, 1) := by decide +kernel
theorem dX8_does_123 : decode cX8_does 123 = .ok (.iload_n 2, 1) := by decide +kernel
theorem dX8_does_124 : decode cX8_does 124 = .ok (.invokevirtual 89, 3) := by decide +kernel
theorem dX8_does_127 : decode cX8_does 127 = .ok (.invokevirtual 151, 3) := by decide +kernel
theorem dX8_does_130 : decode cX8_does 130 = .ok (.ireturn, 1) := by decide +kernel
theorem dX8_feed_0 : decode cX8_feed 0 = .ok (.iload_n 3, 1) := by decide +kernel
theorem dX8_feed_1 : decode cX8_feed 1 = .ok (.iconst 1, 1) := by decide +kernel
theorem dX8_feed_2 : decode cX8_feed 2 = .ok (.bipush 8, 2) := by decide +kernel
theorem dX8_feed_4 : decode cX8_feed 4 = .ok (.invokestatic 61, 3) := by decide +kernel
theorem dX8_feed_7 : decode cX8_feed 7 = .ok (.ifCond .ne 9, 3) := by decide +kernel
theorem dX8_feed_10 : decode cX8_feed 10 = .ok (.aload_n 0, 1) := by decide +kernel
theorem dX8_feed_11 : decode cX8_feed 11 = .ok (.iconst 1, 1) := by decide +kernel
theorem dX8_feed_12 : decode cX8_feed 12 = .ok (.invokevirtual 65, 3) := by decide +kernel
theorem dX8_feed_15 : decode cX8_feed 15 = .ok (.ireturn, 1) := by decide +kernel
theorem dX8_feed_16 : decode cX8_feed 16 = .ok (.aload_n 0, 1) := by decide +kernel
theorem dX8_feed_17 : decode cX8_feed 17 = .ok (.getfield 10, 3) := by decide +kernel
theorem dX8_feed_20 : decode cX8_feed 20 = .ok (.getfield 154, 3) := by decide +kernel
theorem dX8_feed_23 : decode cX8_feed 23 = .ok (.invokevirtual 73, 3) := by decide +kernel
theorem dX8_feed_26 : decode cX8_feed 26 = .ok (.iload_n 3, 1) := by decide +kernel
theorem dX8_feed_27 : decode cX8_feed 27 = .ok (.iadd, 1) := by decide +kernel
theorem dX8_feed_28 : decode cX8_feed 28 = .ok (.bipush 60, 2) := by decide +kernel
theorem dX8_feed_30 : decode cX8_feed 30 = .ok (.if_icmp .le 9, 3) := by decide +kernel
theorem dX8_feed_33 : decode cX8_feed 33 = .ok (.aload_n 0, 1) := by decide +kernel
theorem dX8_feed_34 : decode cX8_feed 34 = .ok (.iconst 4, 1) := by decide +kernel
theorem dX8_feed_35 : decode cX8_feed 35 = .ok (.invokevirtual 65, 3) := by decide +kernel
theorem dX8_feed_38 : decode cX8_feed 38 = .ok (.ireturn, 1) := by decide +kernel
theorem dX8_feed_39 : decode cX8_feed 39 = .ok (.iconst 0, 1) := by decide +kernel
theorem dX8_feed_40 : decode cX8_feed 40 = .ok (.istore 4, 2) := by decide +kernel
theorem dX8_feed_42 : decode cX8_feed 42 = .ok (.iload 4, 2) := by decide +kernel
theorem dX8_feed_44 : decode cX8_feed 44 = .ok (.iload_n 3, 1) := by decide +kernel
theorem dX8_feed_45 : decode cX8_feed 45 = .ok (.if_icmp .ge 32, 3) := by decide +kernel
theorem dX8_feed_48 : decode cX8_feed 48 = .ok (.aload_n 0, 1) := by decide +kernel
theorem dX8_feed_49 : decode cX8_feed 49 = .ok (.getfield 10, 3) := by decide +kernel
theorem dX8_feed_52 : decode cX8_feed 52 = .ok (.getfield 154, 3) := by decide +kernel
theorem dX8_feed_55 : decode cX8_feed 55 = .ok (.lload_n 1, 1) := by decide +kernel
theorem dX8_feed_56 : decode cX8_feed 56 = .ok (.bipush 8, 2) := by decide +kernel
theorem dX8_feed_58 : decode cX8_feed 58 = .ok (.iload 4, 2) := by decide +kernel
theorem dX8_feed_60 : decode cX8_feed 60 = .ok (.imul, 1) := by decide +kernel
theorem dX8_feed_61 : decode cX8_feed 61 = .ok (.lushr, 1) := by decide +kernel
theorem dX8_feed_62 : decode cX8_feed 62 = .ok (.l2i, 1) := by decide +kernel
theorem dX8_feed_63 : decode cX8_feed 63 = .ok (.sipush 255, 3) := by decide +kernel
theorem dX8_feed_66 : decode cX8_feed 66 = .ok (.iand, 1) := by decide +kernel
theorem dX8_feed_67 : decode cX8_feed 67 = .ok (.invokevirtual 157, 3) := by decide +kernel
theorem dX8_feed_70 : decode cX8_feed 70 = .ok (.pop, 1) := by decide +kernel
theorem dX8_feed_71 : decode cX8_feed 71 = .ok (.iinc 4 1, 3) := by decide +kernel
theorem dX8_feed_74 : decode cX8_feed 74 = .ok (.goto (-32), 3) := by decide +kernel
theorem dX8_feed_77 : decode cX8_feed 77 = .ok (.aload_n 0, 1) := by decide +kernel
theorem dX8_feed_78 : decode cX8_feed 78 = .ok (.getfield 10, 3) := by decide +kernel
theorem dX8_feed_81 : decode cX8_feed 81 = .ok (.getfield 154, 3) := by decide +kernel
theorem dX8_feed_84 : decode cX8_feed 84 = .ok (.invokevirtual 73, 3) := by decide +kernel
theorem dX8_feed_87 : decode cX8_feed 87 = .ok (.ireturn, 1) := by decide +kernel
theorem dX8_text_0 : decode cX8_text 0 = .ok (.iload_n 1, 1) := by decide +kernel
theorem dX8_text_1 : decode cX8_text 1 = .ok (.iconst 0, 1) := by decide +kernel
theorem dX8_text_2 : decode cX8_text 2 = .ok (.iconst 1, 1) := by decide +kernel
theorem dX8_text_3 : decode cX8_text 3 = .ok (.invokestatic 61, 3) := by decide +kernel
theorem dX8_text_6 : decode cX8_text 6 = .ok (.ifCond .ne 9, 3) := by decide +kernel
theorem dX8_text_9 : decode cX8_text 9 = .ok (.aload_n 0, 1) := by decide +kernel
theorem dX8_text_10 : decode cX8_text 10 = .ok (.iconst 1, 1) := by decide +kernel
theorem dX8_text_11 : decode cX8_text 11 = .ok (.invokevirtual 65, 3) := by decide +kernel
theorem dX8_text_14 : decode cX8_text 14 = .ok (.ireturn, 1) := by decide +kernel
theorem dX8_text_15 : decode cX8_text 15 = .ok (.aload_n 0, 1) := by decide +kernel
theorem dX8_text_16 : decode cX8_text 16 = .ok (.getfield 29, 3) := by decide +kernel
theorem dX8_text_19 : decode cX8_text 19 = .ok (.aload_n 0, 1) := by decide +kernel
theorem dX8_text_20 : decode cX8_text 20 = .ok (.getfield 10, 3) := by decide +kernel
theorem dX8_text_23 : decode cX8_text 23 = .ok (.getfield 154, 3) := by decide +kernel
theorem dX8_text_26 : decode cX8_text 26 = .ok (.iload_n 1, 1) := by decide +kernel
theorem dX8_text_27 : decode cX8_text 27 = .ok (.ifCond .ne 8, 3) := by decide +kernel
theorem dX8_text_30 : decode cX8_text 30 = .ok (.ldc 158, 2) := by decide +kernel
theorem dX8_text_32 : decode cX8_text 32 = .ok (.goto 5, 3) := by decide +kernel
theorem dX8_text_35 : decode cX8_text 35 = .ok (.ldc 160, 2) := by decide +kernel
theorem dX8_text_37 : decode cX8_text 37 = .ok (.invokevirtual 162, 3) := by decide +kernel
theorem dX8_text_40 : decode cX8_text 40 = .ok (.istore_n 2, 1) := by decide +kernel
theorem dX8_text_41 : decode cX8_text 41 = .ok (.aload_n 0, 1) := by decide +kernel
theorem dX8_text_42 : decode cX8_text 42 = .ok (.getfield 10, 3) := by decide +kernel
theorem dX8_text_45 : decode cX8_text 45 = .ok (.getfield 154, 3) := by decide +kernel
theorem dX8_text_48 : decode cX8_text 48 = .ok (.iconst 0, 1) := by decide +kernel
theorem dX8_text_49 : decode cX8_text 49 = .ok (.invokevirtual 79, 3) := by decide +kernel
theorem dX8_text_52 : decode cX8_text 52 = .ok (.iload_n 2, 1) := by decide +kernel
theorem dX8_text_53 : decode cX8_text 53 = .ok (.ifCond .lt 8, 3) := by decide +kernel
theorem dX8_text_56 : decode cX8_text 56 = .ok (.bipush (-10), 2) := by decide +kernel
theorem dX8_text_58 : decode cX8_text 58 = .ok (.iload_n 2, 1) := by decide +kernel
theorem dX8_text_59 : decode cX8_text 59 = .ok (.isub, 1) := by decide +kernel
theorem dX8_text_60 : decode cX8_text 60 = .ok (.ireturn, 1) := by decide +kernel
theorem dX8_text_61 : decode cX8_text 61 = .ok (.aload_n 0, 1) := by decide +kernel
theorem dX8_text_62 : decode cX8_text 62 = .ok (.iload_n 1, 1) := by decide +kernel
theorem dX8_text_63 : decode cX8_text 63 = .ok (.invokevirtual 166, 3) := by decide +kernel
theorem dX8_text_66 : decode cX8_text 66 = .ok (.aload_n 0, 1) := by decide +kernel
theorem dX8_text_67 : decode cX8_text 67 = .ok (.getfield 29, 3) := by decide +kernel
theorem dX8_text_70 : decode cX8_text 70 = .ok (.getfield 170, 3) := by decide +kernel
theorem dX8_text_73 : decode cX8_text 73 = .ok (.invokevirtual 174, 3) := by decide +kernel
theorem dX8_text_76 : decode cX8_text 76 = .ok (.iconst 1, 1) := by decide +kernel
theorem dX8_text_77 : decode cX8_text 77 = .ok (.ireturn, 1) := by decide +kernel
theorem dX8_untell_0 : decode cX8_untell 0 = .ok (.iload_n 1, 1) := by decide +kernel
theorem dX8_untell_1 : decode cX8_untell 1 = .ok (.iconst 0, 1) := by decide +kernel
theorem dX8_untell_2 : decode cX8_untell 2 = .ok (.iconst 1, 1) := by decide +kernel
theorem dX8_untell_3 : decode cX8_untell 3 = .ok (.invokestatic 61, 3) := by decide +kernel
theorem dX8_untell_6 : decode cX8_untell 6 = .ok (.ifCond .ne 9, 3) := by decide +kernel
theorem dX8_untell_9 : decode cX8_untell 9 = .ok (.aload_n 0, 1) := by decide +kernel
theorem dX8_untell_10 : decode cX8_untell 10 = .ok (.iconst 1, 1) := by decide +kernel
theorem dX8_untell_11 : decode cX8_untell 11 = .ok (.invokevirtual 65, 3) := by decide +kernel
theorem dX8_untell_14 : decode cX8_untell 14 = .ok (.ireturn, 1) := by decide +kernel
theorem dX8_untell_15 : decode cX8_untell 15 = .ok (.aload_n 0, 1) := by decide +kernel
theorem dX8_untell_16 : decode cX8_untell 16 = .ok (.iload_n 1, 1) := by decide +kernel
theorem dX8_untell_17 : decode cX8_untell 17 = .ok (.invokevirtual 166, 3) := by decide +kernel
theorem dX8_untell_20 : decode cX8_untell 20 = .ok (.invokevirtual 180, 3) := by decide +kernel
theorem dX8_untell_23 : decode cX8_untell 23 = .ok (.ifCond .eq 7, 3) := by decide +kernel
theorem dX8_untell_26 : decode cX8_untell 26 = .ok (.iconst 1, 1) := by decide +kernel
theorem dX8_untell_27 : decode cX8_untell 27 = .ok (.goto 4, 3) := by decide +kernel
theorem dX8_untell_30 : decode cX8_untell 30 = .ok (.iconst 0, 1) := by decide +kernel
theorem dX8_untell_31 : decode cX8_untell 31 = .ok (.istore_n 2, 1) := by decide +kernel
theorem dX8_untell_32 : decode cX8_untell 32 = .ok (.aload_n 0, 1) := by decide +kernel
theorem dX8_untell_33 : decode cX8_untell 33 = .ok (.iload_n 1, 1) := by decide +kernel
theorem dX8_untell_34 : decode cX8_untell 34 = .ok (.invokevirtual 166, 3) := by decide +kernel
theorem dX8_untell_37 : decode cX8_untell 37 = .ok (.invokevirtual 183, 3) := by decide +kernel
theorem dX8_untell_40 : decode cX8_untell 40 = .ok (.iload_n 2, 1) := by decide +kernel
theorem dX8_untell_41 : decode cX8_untell 41 = .ok (.ireturn, 1) := by decide +kernel
theorem dX8_post_0 : decode cX8_post 0 = .ok (.iload_n 1, 1) := by decide +kernel
theorem dX8_post_1 : decode cX8_post 1 = .ok (.iconst 0, 1) := by decide +kernel
theorem dX8_post_2 : decode cX8_post 2 = .ok (.aload_n 0, 1) := by decide +kernel
theorem dX8_post_3 : decode cX8_post 3 = .ok (.getfield 10, 3) := by decide +kernel
theorem dX8_post_6 : decode cX8_post 6 = .ok (.getfield 69, 3) := by decide +kernel
theorem dX8_post_9 : decode cX8_post 9 = .ok (.invokevirtual 73, 3) := by decide +kernel
theorem dX8_post_12 : decode cX8_post 12 = .ok (.invokestatic 61, 3) := by decide +kernel
theorem dX8_post_15 : decode cX8_post 15 = .ok (.ifCond .eq 12, 3) := by decide +kernel
theorem dX8_post_18 : decode cX8_post 18 = .ok (.iload_n 2, 1) := by decide +kernel
theorem dX8_post_19 : decode cX8_post 19 = .ok (.iconst 0, 1) := by decide +kernel
theorem dX8_post_20 : decode cX8_post 20 = .ok (.iconst 5, 1) := by decide +kernel
theorem dX8_post_21 : decode cX8_post 21 = .ok (.invokestatic 61, 3) := by decide +kernel
theorem dX8_post_24 : decode cX8_post 24 = .ok (.ifCond .ne 9, 3) := by decide +kernel
theorem dX8_post_27 : decode cX8_post 27 = .ok (.aload_n 0, 1) := by decide +kernel
theorem dX8_post_28 : decode cX8_post 28 = .ok (.iconst 1, 1) := by decide +kernel
theorem dX8_post_29 : decode cX8_post 29 = .ok (.invokevirtual 65, 3) := by decide +kernel
theorem dX8_post_32 : decode cX8_post 32 = .ok (.ireturn, 1) := by decide +kernel
theorem dX8_post_33 : decode cX8_post 33 = .ok (.aload_n 0, 1) := by decide +kernel
theorem dX8_post_34 : decode cX8_post 34 = .ok (.getfield 22, 3) := by decide +kernel
theorem dX8_post_37 : decode cX8_post 37 = .ok (.aload_n 0, 1) := by decide +kernel
theorem dX8_post_38 : decode cX8_post 38 = .ok (.getfield 10, 3) := by decide +kernel
theorem dX8_post_41 : decode cX8_post 41 = .ok (.iconst (-1), 1) := by decide +kernel
theorem dX8_post_42 : decode cX8_post 42 = .ok (.invokevirtual 101, 3) := by decide +kernel
theorem dX8_post_45 : decode cX8_post 45 = .ok (.iload_n 2, 1) := by decide +kernel
theorem dX8_post_46 : decode cX8_post 46 = .ok (.tableswitch 102 0 4 #[34, 43, 52, 74, 96], 34) := by decide +kernel
theorem dX8_post_80 : decode cX8_post 80 = .ok (.aload_n 0, 1) := by decide +kernel
theorem dX8_post_81 : decode cX8_post 81 = .ok (.getfield 22, 3) := by decide +kernel
theorem dX8_post_84 : decode cX8_post 84 = .ok (.iload_n 1, 1) := by decide +kernel
theorem dX8_post_85 : decode cX8_post 85 = .ok (.invokevirtual 186, 3) := by decide +kernel
theorem dX8_post_88 : decode cX8_post 88 = .ok (.ireturn, 1) := by decide +kernel
theorem dX8_post_89 : decode cX8_post 89 = .ok (.aload_n 0, 1) := by decide +kernel
theorem dX8_post_90 : decode cX8_post 90 = .ok (.getfield 22, 3) := by decide +kernel
theorem dX8_post_93 : decode cX8_post 93 = .ok (.iload_n 1, 1) := by decide +kernel
theorem dX8_post_94 : decode cX8_post 94 = .ok (.invokevirtual 189, 3) := by decide +kernel
theorem dX8_post_97 : decode cX8_post 97 = .ok (.ireturn, 1) := by decide +kernel
theorem dX8_post_98 : decode cX8_post 98 = .ok (.aload_n 0, 1) := by decide +kernel
theorem dX8_post_99 : decode cX8_post 99 = .ok (.getfield 22, 3) := by decide +kernel
theorem dX8_post_102 : decode cX8_post 102 = .ok (.iload_n 1, 1) := by decide +kernel
theorem dX8_post_103 : decode cX8_post 103 = .ok (.invokevirtual 186, 3) := by decide +kernel
theorem dX8_post_106 : decode cX8_post 106 = .ok (.aload_n 0, 1) := by decide +kernel
theorem dX8_post_107 : decode cX8_post 107 = .ok (.iload_n 1, 1) := by decide +kernel
theorem dX8_post_108 : decode cX8_post 108 = .ok (.aload_n 0, 1) := by decide +kernel
theorem dX8_post_109 : decode cX8_post 109 = .ok (.getfield 22, 3) := by decide +kernel
theorem dX8_post_112 : decode cX8_post 112 = .ok (.invokevirtual 192, 3) := by decide +kernel
theorem dX8_post_115 : decode cX8_post 115 = .ok (.invokevirtual 195, 3) := by decide +kernel
theorem dX8_post_118 : decode cX8_post 118 = .ok (.isub, 1) := by decide +kernel
theorem dX8_post_119 : decode cX8_post 119 = .ok (.ireturn, 1) := by decide +kernel
theorem dX8_post_120 : decode cX8_post 120 = .ok (.aload_n 0, 1) := by decide +kernel
theorem dX8_post_121 : decode cX8_post 121 = .ok (.getfield 22, 3) := by decide +kernel
theorem dX8_post_124 : decode cX8_post 124 = .ok (.iload_n 1, 1) := by decide +kernel
theorem dX8_post_125 : decode cX8_post 125 = .ok (.invokevirtual 189, 3) := by decide +kernel
theorem dX8_post_128 : decode cX8_post 128 = .ok (.aload_n 0, 1) := by decide +kernel
theorem dX8_post_129 : decode cX8_post 129 = .ok (.iload_n 1, 1) := by decide +kernel
theorem dX8_post_130 : decode cX8_post 130 = .ok (.aload_n 0, 1) := by decide +kernel
theorem dX8_post_131 : decode cX8_post 131 = .ok (.getfield 22, 3) := by decide +kernel
theorem dX8_post_134 : decode cX8_post 134 = .ok (.invokevirtual 198, 3) := by decide +kernel
theorem dX8_post_137 : decode cX8_post 137 = .ok (.invokevirtual 195, 3) := by decide +kernel
theorem dX8_post_140 : decode cX8_post 140 = .ok (.isub, 1) := by decide +kernel
theorem dX8_post_141 : decode cX8_post 141 = .ok (.ireturn, 1) := by decide +kernel
theorem dX8_post_142 : decode cX8_post 142 = .ok (.aload_n 0, 1) := by decide +kernel
theorem dX8_post_143 : decode cX8_post 143 = .ok (.iload_n 1, 1) := by decide +kernel
theorem dX8_post_144 : decode cX8_post 144 = .ok (.invokevirtual 201, 3) := by decide +kernel
theorem dX8_post_147 : decode cX8_post 147 = .ok (.ireturn, 1) := by decide +kernel
theorem dX8_post_148 : decode cX8_post 148 = .ok (.aload_n 0, 1) := by decide +kernel
theorem dX8_post_149 : decode cX8_post 149 = .ok (.getfield 10, 3) := by decide +kernel
theorem dX8_post_152 : decode cX8_post 152 = .ok (.getfield 204, 3) := by decide +kernel
theorem dX8_post_155 : decode cX8_post 155 = .ok (.iconst 0, 1) := by decide +kernel
theorem dX8_post_156 : decode cX8_post 156 = .ok (.iload_n 1, 1) := by decide +kernel
theorem dX8_post_157 : decode cX8_post 157 = .ok (.invokevirtual 207, 3) := by decide +kernel
theorem dX8_post_160 : decode cX8_post 160 = .ok (.ireturn, 1) := by decide +kernel
theorem dX8_miss_0 : decode cX8_miss 0 = .ok (.iload_n 1, 1) := by decide +kernel
theorem dX8_miss_1 : decode cX8_miss 1 = .ok (.iconst 0, 1) := by decide +kernel
theorem dX8_miss_2 : decode cX8_miss 2 = .ok (.iconst 2, 1) := by decide +kernel
theorem dX8_miss_3 : decode cX8_miss 3 = .ok (.invokestatic 61, 3) := by decide +kernel
theorem dX8_miss_6 : decode cX8_miss 6 = .ok (.ifCond .ne 9, 3) := by decide +kernel
theorem dX8_miss_9 : decode cX8_miss 9 = .ok (.aload_n 0, 1) := by decide +kernel
theorem dX8_miss_10 : decode cX8_miss 10 = .ok (.iconst 1, 1) := by decide +kernel
theorem dX8_miss_11 : decode cX8_miss 11 = .ok (.invokevirtual 65, 3) := by decide +kernel
theorem dX8_miss_14 : decode cX8_miss 14 = .ok (.ireturn, 1) := by decide +kernel
theorem dX8_miss_15 : decode cX8_miss 15 = .ok (.aload_n 0, 1) := by decide +kernel
theorem dX8_miss_16 : decode cX8_miss 16 = .ok (.getfield 22, 3) := by decide +kernel
theorem dX8_miss_19 : decode cX8_miss 19 = .ok (.aload_n 0, 1) := by decide +kernel
theorem dX8_miss_20 : decode cX8_miss 20 = .ok (.getfield 10, 3) := by decide +kernel
theorem dX8_miss_23 : decode cX8_miss 23 = .ok (.iconst (-1), 1) := by decide +kernel
theorem dX8_miss_24 : decode cX8_miss 24 = .ok (.invokevirtual 101, 3) := by decide +kernel
theorem dX8_miss_27 : decode cX8_miss 27 = .ok (.iload_n 1, 1) := by decide +kernel
theorem dX8_miss_28 : decode cX8_miss 28 = .ok (.lookupswitch 44 #[(0, 28), (1, 36)], 28) := by decide +kernel
theorem dX8_miss_56 : decode cX8_miss 56 = .ok (.aload_n 0, 1) := by decide +kernel
theorem dX8_miss_57 : decode cX8_miss 57 = .ok (.getfield 22, 3) := by decide +kernel
theorem dX8_miss_60 : decode cX8_miss 60 = .ok (.invokevirtual 192, 3) := by decide +kernel
theorem dX8_miss_63 : decode cX8_miss 63 = .ok (.ireturn, 1) := by decide +kernel
theorem dX8_miss_64 : decode cX8_miss 64 = .ok (.aload_n 0, 1) := by decide +kernel
theorem dX8_miss_65 : decode cX8_miss 65 = .ok (.getfield 22, 3) := by decide +kernel
theorem dX8_miss_68 : decode cX8_miss 68 = .ok (.invokevirtual 198, 3) := by decide +kernel
theorem dX8_miss_71 : decode cX8_miss 71 = .ok (.ireturn, 1) := by decide +kernel
theorem dX8_miss_72 : decode cX8_miss 72 = .ok (.aload_n 0, 1) := by decide +kernel
theorem dX8_miss_73 : decode cX8_miss 73 = .ok (.getfield 22, 3) := by decide +kernel
theorem dX8_miss_76 : decode cX8_miss 76 = .ok (.invokevirtual 210, 3) := by decide +kernel
theorem dX8_miss_79 : decode cX8_miss 79 = .ok (.ireturn, 1) := by decide +kernel
theorem dX8_wronged_0 : decode cX8_wronged 0 = .ok (.iload_n 1, 1) := by decide +kernel
theorem dX8_wronged_1 : decode cX8_wronged 1 = .ok (.iconst 1, 1) := by decide +kernel
theorem dX8_wronged_2 : decode cX8_wronged 2 = .ok (.sipush 9999, 3) := by decide +kernel
theorem dX8_wronged_5 : decode cX8_wronged 5 = .ok (.invokestatic 61, 3) := by decide +kernel
theorem dX8_wronged_8 : decode cX8_wronged 8 = .ok (.ifCond .ne 9, 3) := by decide +kernel
theorem dX8_wronged_11 : decode cX8_wronged 11 = .ok (.aload_n 0, 1) := by decide +kernel
theorem dX8_wronged_12 : decode cX8_wronged 12 = .ok (.iconst 1, 1) := by decide +kernel
theorem dX8_wronged_13 : decode cX8_wronged 13 = .ok (.invokevirtual 65, 3) := by decide +kernel
theorem dX8_wronged_16 : decode cX8_wronged 16 = .ok (.ireturn, 1) := by decide +kernel
theorem dX8_wronged_17 : decode cX8_wronged 17 = .ok (.aload_n 0, 1) := by decide +kernel
theorem dX8_wronged_18 : decode cX8_wronged 18 = .ok (.getfield 22, 3) := by decide +kernel
theorem dX8_wronged_21 : decode cX8_wronged 21 = .ok (.aload_n 0, 1) := by decide +kernel
theorem dX8_wronged_22 : decode cX8_wronged 22 = .ok (.getfield 10, 3) := by decide +kernel
theorem dX8_wronged_25 : decode cX8_wronged 25 = .ok (.iconst (-1), 1) := by decide +kernel
theorem dX8_wronged_26 : decode cX8_wronged 26 = .ok (.invokevirtual 101, 3) := by decide +kernel
theorem dX8_wronged_29 : decode cX8_wronged 29 = .ok (.iconst 0, 1) := by decide +kernel
theorem dX8_wronged_30 : decode cX8_wronged 30 = .ok (.istore_n 2, 1) := by decide +kernel
theorem dX8_wronged_31 : decode cX8_wronged 31 = .ok (.aload_n 0, 1) := by decide +kernel
theorem dX8_wronged_32 : decode cX8_wronged 32 = .ok (.iconst 0, 1) := by decide +kernel
theorem dX8_wronged_33 : decode cX8_wronged 33 = .ok (.iload_n 1, 1) := by decide +kernel
theorem dX8_wronged_34 : decode cX8_wronged 34 = .ok (.invokevirtual 213, 3) := by decide +kernel
theorem dX8_wronged_37 : decode cX8_wronged 37 = .ok (.istore_n 3, 1) := by decide +kernel
theorem dX8_wronged_38 : decode cX8_wronged 38 = .ok (.iconst 0, 1) := by decide +kernel
theorem dX8_wronged_39 : decode cX8_wronged 39 = .ok (.istore 4, 2) := by decide +kernel
theorem dX8_wronged_41 : decode cX8_wronged 41 = .ok (.iload 4, 2) := by decide +kernel
theorem dX8_wronged_43 : decode cX8_wronged 43 = .ok (.aload_n 0, 1) := by decide +kernel
theorem dX8_wronged_44 : decode cX8_wronged 44 = .ok (.getfield 10, 3) := by decide +kernel
theorem dX8_wronged_47 : decode cX8_wronged 47 = .ok (.getfield 69, 3) := by decide +kernel
theorem dX8_wronged_50 : decode cX8_wronged 50 = .ok (.invokevirtual 73, 3) := by decide +kernel
theorem dX8_wronged_53 : decode cX8_wronged 53 = .ok (.if_icmp .ge 39, 3) := by decide +kernel
theorem dX8_wronged_56 : decode cX8_wronged 56 = .ok (.aload_n 0, 1) := by decide +kernel
theorem dX8_wronged_57 : decode cX8_wronged 57 = .ok (.iload 4, 2) := by decide +kernel
theorem dX8_wronged_59 : decode cX8_wronged 59 = .ok (.iconst 1, 1) := by decide +kernel
theorem dX8_wronged_60 : decode cX8_wronged 60 = .ok (.iadd, 1) := by decide +kernel
theorem dX8_wronged_61 : decode cX8_wronged 61 = .ok (.iload_n 1, 1) := by decide +kernel
theorem dX8_wronged_62 : decode cX8_wronged 62 = .ok (.invokevirtual 213, 3) := by decide +kernel
theorem dX8_wronged_65 : decode cX8_wronged 65 = .ok (.istore 5, 2) := by decide +kernel
theorem dX8_wronged_67 : decode cX8_wronged 67 = .ok (.iload_n 3, 1) := by decide +kernel
theorem dX8_wronged_68 : decode cX8_wronged 68 = .ok (.ifCond .ne 8, 3) := by decide +kernel
theorem dX8_wronged_71 : decode cX8_wronged 71 = .ok (.iload 5, 2) := by decide +kernel
theorem dX8_wronged_73 : decode cX8_wronged 73 = .ok (.ifCond .eq 10, 3) := by decide +kernel
theorem dX8_wronged_76 : decode cX8_wronged 76 = .ok (.iload_n 2, 1) := by decide +kernel
theorem dX8_wronged_77 : decode cX8_wronged 77 = .ok (.iconst 1, 1) := by decide +kernel
theorem dX8_wronged_78 : decode cX8_wronged 78 = .ok (.iload 4, 2) := by decide +kernel
theorem dX8_wronged_80 : decode cX8_wronged 80 = .ok (.ishl, 1) := by decide +kernel
theorem dX8_wronged_81 : decode cX8_wronged 81 = .ok (.ior, 1) := by decide +kernel
theorem dX8_wronged_82 : decode cX8_wronged 82 = .ok (.istore_n 2, 1) := by decide +kernel
theorem dX8_wronged_83 : decode cX8_wronged 83 = .ok (.iload 5, 2) := by decide +kernel
theorem dX8_wronged_85 : decode cX8_wronged 85 = .ok (.istore_n 3, 1) := by decide +kernel
theorem dX8_wronged_86 : decode cX8_wronged 86 = .ok (.iinc 4 1, 3) := by decide +kernel
theorem dX8_wronged_89 : decode cX8_wronged 89 = .ok (.goto (-48), 3) := by decide +kernel
theorem dX8_wronged_92 : decode cX8_wronged 92 = .ok (.iload_n 2, 1) := by decide +kernel
theorem dX8_wronged_93 : decode cX8_wronged 93 = .ok (.ireturn, 1) := by decide +kernel
theorem dX8_which_0 : decode cX8_which 0 = .ok (.iload_n 1, 1) := by decide +kernel
theorem dX8_which_1 : decode cX8_which 1 = .ok (.iconst 0, 1) := by decide +kernel
theorem dX8_which_2 : decode cX8_which 2 = .ok (.iconst 1, 1) := by decide +kernel
theorem dX8_which_3 : decode cX8_which 3 = .ok (.invokestatic 61, 3) := by decide +kernel
theorem dX8_which_6 : decode cX8_which 6 = .ok (.ifCond .ne 9, 3) := by decide +kernel
theorem dX8_which_9 : decode cX8_which 9 = .ok (.aload_n 0, 1) := by decide +kernel
theorem dX8_which_10 : decode cX8_which 10 = .ok (.iconst 1, 1) := by decide +kernel
theorem dX8_which_11 : decode cX8_which 11 = .ok (.invokevirtual 65, 3) := by decide +kernel
theorem dX8_which_14 : decode cX8_which 14 = .ok (.ireturn, 1) := by decide +kernel
theorem dX8_which_15 : decode cX8_which 15 = .ok (.iconst (-1), 1) := by decide +kernel
theorem dX8_which_16 : decode cX8_which 16 = .ok (.istore_n 2, 1) := by decide +kernel
theorem dX8_which_17 : decode cX8_which 17 = .ok (.iconst 0, 1) := by decide +kernel
theorem dX8_which_18 : decode cX8_which 18 = .ok (.istore_n 3, 1) := by decide +kernel
theorem dX8_which_19 : decode cX8_which 19 = .ok (.iconst 0, 1) := by decide +kernel
theorem dX8_which_20 : decode cX8_which 20 = .ok (.istore 4, 2) := by decide +kernel
theorem dX8_which_22 : decode cX8_which 22 = .ok (.iload 4, 2) := by decide +kernel
theorem dX8_which_24 : decode cX8_which 24 = .ok (.aload_n 0, 1) := by decide +kernel
theorem dX8_which_25 : decode cX8_which 25 = .ok (.getfield 10, 3) := by decide +kernel
theorem dX8_which_28 : decode cX8_which 28 = .ok (.getfield 124, 3) := by decide +kernel
theorem dX8_which_31 : decode cX8_which 31 = .ok (.invokevirtual 216, 3) := by decide +kernel
theorem dX8_which_34 : decode cX8_which 34 = .ok (.if_icmp .ge 65, 3) := by decide +kernel
theorem dX8_which_37 : decode cX8_which 37 = .ok (.aload_n 0, 1) := by decide +kernel
theorem dX8_which_38 : decode cX8_which 38 = .ok (.getfield 10, 3) := by decide +kernel
theorem dX8_which_41 : decode cX8_which 41 = .ok (.getfield 124, 3) := by decide +kernel
theorem dX8_which_44 : decode cX8_which 44 = .ok (.iconst 4, 1) := by decide +kernel
theorem dX8_which_45 : decode cX8_which 45 = .ok (.iload 4, 2) := by decide +kernel
theorem dX8_which_47 : decode cX8_which 47 = .ok (.invokevirtual 139, 3) := by decide +kernel
theorem dX8_which_50 : decode cX8_which 50 = .ok (.iconst 1, 1) := by decide +kernel
theorem dX8_which_51 : decode cX8_which 51 = .ok (.if_icmp .ne 42, 3) := by decide +kernel
theorem dX8_which_54 : decode cX8_which 54 = .ok (.aload_n 0, 1) := by decide +kernel
theorem dX8_which_55 : decode cX8_which 55 = .ok (.getfield 22, 3) := by decide +kernel
theorem dX8_which_58 : decode cX8_which 58 = .ok (.aload_n 0, 1) := by decide +kernel
theorem dX8_which_59 : decode cX8_which 59 = .ok (.getfield 10, 3) := by decide +kernel
theorem dX8_which_62 : decode cX8_which 62 = .ok (.iload 4, 2) := by decide +kernel
theorem dX8_which_64 : decode cX8_which 64 = .ok (.invokevirtual 101, 3) := by decide +kernel
theorem dX8_which_67 : decode cX8_which 67 = .ok (.aload_n 0, 1) := by decide +kernel
theorem dX8_which_68 : decode cX8_which 68 = .ok (.getfield 22, 3) := by decide +kernel
theorem dX8_which_71 : decode cX8_which 71 = .ok (.invokevirtual 210, 3) := by decide +kernel
theorem dX8_which_74 : decode cX8_which 74 = .ok (.istore 5, 2) := by decide +kernel
theorem dX8_which_76 : decode cX8_which 76 = .ok (.iload_n 2, 1) := by decide +kernel
theorem dX8_which_77 : decode cX8_which 77 = .ok (.iconst (-1), 1) := by decide +kernel
theorem dX8_which_78 : decode cX8_which 78 = .ok (.if_icmp .eq 9, 3) := by decide +kernel
theorem dX8_which_81 : decode cX8_which 81 = .ok (.iload 5, 2) := by decide +kernel
theorem dX8_which_83 : decode cX8_which 83 = .ok (.iload_n 3, 1) := by decide +kernel
theorem dX8_which_84 : decode cX8_which 84 = .ok (.if_icmp .ge 9, 3) := by decide +kernel
theorem dX8_which_87 : decode cX8_which 87 = .ok (.iload 4, 2) := by decide +kernel
theorem dX8_which_89 : decode cX8_which 89 = .ok (.istore_n 2, 1) := by decide +kernel
theorem dX8_which_90 : decode cX8_which 90 = .ok (.iload 5, 2) := by decide +kernel
theorem dX8_which_92 : decode cX8_which 92 = .ok (.istore_n 3, 1) := by decide +kernel
theorem dX8_which_93 : decode cX8_which 93 = .ok (.iinc 4 1, 3) := by decide +kernel
theorem dX8_which_96 : decode cX8_which 96 = .ok (.goto (-74), 3) := by decide +kernel
theorem dX8_which_99 : decode cX8_which 99 = .ok (.iload_n 2, 1) := by decide +kernel
theorem dX8_which_100 : decode cX8_which 100 = .ok (.iconst (-1), 1) := by decide +kernel
theorem dX8_which_101 : decode cX8_which 101 = .ok (.if_icmp .ne 9, 3) := by decide +kernel
theorem dX8_which_104 : decode cX8_which 104 = .ok (.aload_n 0, 1) := by decide +kernel
theorem dX8_which_105 : decode cX8_which 105 = .ok (.iconst 2, 1) := by decide +kernel
theorem dX8_which_106 : decode cX8_which 106 = .ok (.invokevirtual 65, 3) := by decide +kernel
theorem dX8_which_109 : decode cX8_which 109 = .ok (.ireturn, 1) := by decide +kernel
theorem dX8_which_110 : decode cX8_which 110 = .ok (.iload_n 1, 1) := by decide +kernel
theorem dX8_which_111 : decode cX8_which 111 = .ok (.ifCond .ne 7, 3) := by decide +kernel
theorem dX8_which_114 : decode cX8_which 114 = .ok (.iload_n 2, 1) := by decide +kernel
theorem dX8_which_115 : decode cX8_which 115 = .ok (.goto 4, 3) := by decide +kernel
theorem dX8_which_118 : decode cX8_which 118 = .ok (.iload_n 3, 1) := by decide +kernel
theorem dX8_which_119 : decode cX8_which 119 = .ok (.ireturn, 1) := by decide +kernel
theorem dX8_checks_0 : decode cX8_checks 0 = .ok (.iload_n 1, 1) := by decide +kernel
theorem dX8_checks_1 : decode cX8_checks 1 = .ok (.iconst 1, 1) := by decide +kernel
theorem dX8_checks_2 : decode cX8_checks 2 = .ok (.iconst 2, 1) := by decide +kernel
theorem dX8_checks_3 : decode cX8_checks 3 = .ok (.invokestatic 61, 3) := by decide +kernel
theorem dX8_checks_6 : decode cX8_checks 6 = .ok (.ifCond .eq 12, 3) := by decide +kernel
theorem dX8_checks_9 : decode cX8_checks 9 = .ok (.iload_n 2, 1) := by decide +kernel
theorem dX8_checks_10 : decode cX8_checks 10 = .ok (.iconst 0, 1) := by decide +kernel
theorem dX8_checks_11 : decode cX8_checks 11 = .ok (.iconst 1, 1) := by decide +kernel
theorem dX8_checks_12 : decode cX8_checks 12 = .ok (.invokestatic 61, 3) := by decide +kernel
theorem dX8_checks_15 : decode cX8_checks 15 = .ok (.ifCond .ne 9, 3) := by decide +kernel
theorem dX8_checks_18 : decode cX8_checks 18 = .ok (.aload_n 0, 1) := by decide +kernel
theorem dX8_checks_19 : decode cX8_checks 19 = .ok (.iconst 1, 1) := by decide +kernel
theorem dX8_checks_20 : decode cX8_checks 20 = .ok (.invokevirtual 65, 3) := by decide +kernel
theorem dX8_checks_23 : decode cX8_checks 23 = .ok (.ireturn, 1) := by decide +kernel
theorem dX8_checks_24 : decode cX8_checks 24 = .ok (.aload_n 0, 1) := by decide +kernel
theorem dX8_checks_25 : decode cX8_checks 25 = .ok (.getfield 10, 3) := by decide +kernel
theorem dX8_checks_28 : decode cX8_checks 28 = .ok (.getfield 69, 3) := by decide +kernel
theorem dX8_checks_31 : decode cX8_checks 31 = .ok (.invokevirtual 73, 3) := by decide +kernel
theorem dX8_checks_34 : decode cX8_checks 34 = .ok (.iload_n 1, 1) := by decide +kernel
theorem dX8_checks_35 : decode cX8_checks 35 = .ok (.if_icmp .ge 9, 3) := by decide +kernel
theorem dX8_checks_38 : decode cX8_checks 38 = .ok (.aload_n 0, 1) := by decide +kernel
theorem dX8_checks_39 : decode cX8_checks 39 = .ok (.iconst 2, 1) := by decide +kernel
theorem dX8_checks_40 : decode cX8_checks 40 = .ok (.invokevirtual 65, 3) := by decide +kernel
theorem dX8_checks_43 : decode cX8_checks 43 = .ok (.ireturn, 1) := by decide +kernel
theorem dX8_checks_44 : decode cX8_checks 44 = .ok (.aload_n 0, 1) := by decide +kernel
theorem dX8_checks_45 : decode cX8_checks 45 = .ok (.getfield 22, 3) := by decide +kernel
theorem dX8_checks_48 : decode cX8_checks 48 = .ok (.aload_n 0, 1) := by decide +kernel
theorem dX8_checks_49 : decode cX8_checks 49 = .ok (.getfield 10, 3) := by decide +kernel
theorem dX8_checks_52 : decode cX8_checks 52 = .ok (.iconst (-1), 1) := by decide +kernel
theorem dX8_checks_53 : decode cX8_checks 53 = .ok (.invokevirtual 101, 3) := by decide +kernel
theorem dX8_checks_56 : decode cX8_checks 56 = .ok (.iload_n 1, 1) := by decide +kernel
theorem dX8_checks_57 : decode cX8_checks 57 = .ok (.iconst 1, 1) := by decide +kernel
theorem dX8_checks_58 : decode cX8_checks 58 = .ok (.if_icmp .ne 13, 3) := by decide +kernel
theorem dX8_checks_61 : decode cX8_checks 61 = .ok (.aload_n 0, 1) := by decide +kernel
theorem dX8_checks_62 : decode cX8_checks 62 = .ok (.getfield 22, 3) := by decide +kernel
theorem dX8_checks_65 : decode cX8_checks 65 = .ok (.invokevirtual 217, 3) := by decide +kernel
theorem dX8_checks_68 : decode cX8_checks 68 = .ok (.goto 10, 3) := by decide +kernel
theorem dX8_checks_71 : decode cX8_checks 71 = .ok (.aload_n 0, 1) := by decide +kernel
theorem dX8_checks_72 : decode cX8_checks 72 = .ok (.getfield 22, 3) := by decide +kernel
theorem dX8_checks_75 : decode cX8_checks 75 = .ok (.invokevirtual 220, 3) := by decide +kernel
theorem dX8_checks_78 : decode cX8_checks 78 = .ok (.istore_n 3, 1) := by decide +kernel
theorem dX8_checks_79 : decode cX8_checks 79 = .ok (.iload_n 2, 1) := by decide +kernel
theorem dX8_checks_80 : decode cX8_checks 80 = .ok (.ifCond .ne 7, 3) := by decide +kernel
theorem dX8_checks_83 : decode cX8_checks 83 = .ok (.iload_n 3, 1) := by decide +kernel
theorem dX8_checks_84 : decode cX8_checks 84 = .ok (.goto 11, 3) := by decide +kernel
theorem dX8_checks_87 : decode cX8_checks 87 = .ok (.aload_n 0, 1) := by decide +kernel
theorem dX8_checks_88 : decode cX8_checks 88 = .ok (.getfield 22, 3) := by decide +kernel
theorem dX8_checks_91 : decode cX8_checks 91 = .ok (.iload_n 3, 1) := by decide +kernel
theorem dX8_checks_92 : decode cX8_checks 92 = .ok (.invokevirtual 223, 3) := by decide +kernel
theorem dX8_checks_95 : decode cX8_checks 95 = .ok (.ireturn, 1) := by decide +kernel
theorem dX8_hours_0 : decode cX8_hours 0 = .ok (.iconst 0, 1) := by decide +kernel
theorem dX8_hours_1 : decode cX8_hours 1 = .ok (.istore_n 1, 1) := by decide +kernel
theorem dX8_hours_2 : decode cX8_hours 2 = .ok (.iconst 0, 1) := by decide +kernel
theorem dX8_hours_3 : decode cX8_hours 3 = .ok (.istore_n 2, 1) := by decide +kernel
theorem dX8_hours_4 : decode cX8_hours 4 = .ok (.iload_n 2, 1) := by decide +kernel
theorem dX8_hours_5 : decode cX8_hours 5 = .ok (.aload_n 0, 1) := by decide +kernel
theorem dX8_hours_6 : decode cX8_hours 6 = .ok (.getfield 10, 3) := by decide +kernel
theorem dX8_hours_9 : decode cX8_hours 9 = .ok (.getfield 69, 3) := by decide +kernel
theorem dX8_hours_12 : decode cX8_hours 12 = .ok (.invokevirtual 73, 3) := by decide +kernel
theorem dX8_hours_15 : decode cX8_hours 15 = .ok (.if_icmp .ge 17, 3) := by decide +kernel
theorem dX8_hours_18 : decode cX8_hours 18 = .ok (.iload_n 1, 1) := by decide +kernel
theorem dX8_hours_19 : decode cX8_hours 19 = .ok (.aload_n 0, 1) := by decide +kernel
theorem dX8_hours_20 : decode cX8_hours 20 = .ok (.iload_n 2, 1) := by decide +kernel
theorem dX8_hours_21 : decode cX8_hours 21 = .ok (.invokevirtual 105, 3) := by decide +kernel
theorem dX8_hours_24 : decode cX8_hours 24 = .ok (.iadd, 1) := by decide +kernel
theorem dX8_hours_25 : decode cX8_hours 25 = .ok (.istore_n 1, 1) := by decide +kernel
theorem dX8_hours_26 : decode cX8_hours 26 = .ok (.iinc 2 1, 3) := by decide +kernel
theorem dX8_hours_29 : decode cX8_hours 29 = .ok (.goto (-25), 3) := by decide +kernel
theorem dX8_hours_32 : decode cX8_hours 32 = .ok (.iload_n 1, 1) := by decide +kernel
theorem dX8_hours_33 : decode cX8_hours 33 = .ok (.ireturn, 1) := by decide +kernel
theorem dX8_within_0 : decode cX8_within 0 = .ok (.iload_n 1, 1) := by decide +kernel
theorem dX8_within_1 : decode cX8_within 1 = .ok (.iconst 0, 1) := by decide +kernel
theorem dX8_within_2 : decode cX8_within 2 = .ok (.ldc 117, 2) := by decide +kernel
theorem dX8_within_4 : decode cX8_within 4 = .ok (.invokestatic 61, 3) := by decide +kernel
theorem dX8_within_7 : decode cX8_within 7 = .ok (.ifCond .ne 9, 3) := by decide +kernel
theorem dX8_within_10 : decode cX8_within 10 = .ok (.aload_n 0, 1) := by decide +kernel
theorem dX8_within_11 : decode cX8_within 11 = .ok (.iconst 1, 1) := by decide +kernel
theorem dX8_within_12 : decode cX8_within 12 = .ok (.invokevirtual 65, 3) := by decide +kernel
theorem dX8_within_15 : decode cX8_within 15 = .ok (.ireturn, 1) := by decide +kernel
theorem dX8_within_16 : decode cX8_within 16 = .ok (.iconst 0, 1) := by decide +kernel
theorem dX8_within_17 : decode cX8_within 17 = .ok (.istore_n 2, 1) := by decide +kernel
theorem dX8_within_18 : decode cX8_within 18 = .ok (.iconst 0, 1) := by decide +kernel
theorem dX8_within_19 : decode cX8_within 19 = .ok (.istore_n 3, 1) := by decide +kernel
theorem dX8_within_20 : decode cX8_within 20 = .ok (.iload_n 3, 1) := by decide +kernel
theorem dX8_within_21 : decode cX8_within 21 = .ok (.aload_n 0, 1) := by decide +kernel
theorem dX8_within_22 : decode cX8_within 22 = .ok (.getfield 10, 3) := by decide +kernel
theorem dX8_within_25 : decode cX8_within 25 = .ok (.getfield 69, 3) := by decide +kernel
theorem dX8_within_28 : decode cX8_within 28 = .ok (.invokevirtual 73, 3) := by decide +kernel
theorem dX8_within_31 : decode cX8_within 31 = .ok (.if_icmp .ge 24, 3) := by decide +kernel
theorem dX8_within_34 : decode cX8_within 34 = .ok (.iload_n 2, 1) := by decide +kernel
theorem dX8_within_35 : decode cX8_within 35 = .ok (.aload_n 0, 1) := by decide +kernel
theorem dX8_within_36 : decode cX8_within 36 = .ok (.iload_n 3, 1) := by decide +kernel
theorem dX8_within_37 : decode cX8_within 37 = .ok (.invokevirtual 105, 3) := by decide +kernel
theorem dX8_within_40 : decode cX8_within 40 = .ok (.iadd, 1) := by decide +kernel
theorem dX8_within_41 : decode cX8_within 41 = .ok (.istore_n 2, 1) := by decide +kernel
theorem dX8_within_42 : decode cX8_within 42 = .ok (.iload_n 2, 1) := by decide +kernel
theorem dX8_within_43 : decode cX8_within 43 = .ok (.iload_n 1, 1) := by decide +kernel
theorem dX8_within_44 : decode cX8_within 44 = .ok (.if_icmp .le 5, 3) := by decide +kernel
theorem dX8_within_47 : decode cX8_within 47 = .ok (.iload_n 3, 1) := by decide +kernel
theorem dX8_within_48 : decode cX8_within 48 = .ok (.ireturn, 1) := by decide +kernel
theorem dX8_within_49 : decode cX8_within 49 = .ok (.iinc 3 1, 3) := by decide +kernel
theorem dX8_within_52 : decode cX8_within 52 = .ok (.goto (-32), 3) := by decide +kernel
theorem dX8_within_55 : decode cX8_within 55 = .ok (.aload_n 0, 1) := by decide +kernel
theorem dX8_within_56 : decode cX8_within 56 = .ok (.getfield 10, 3) := by decide +kernel
theorem dX8_within_59 : decode cX8_within 59 = .ok (.getfield 69, 3) := by decide +kernel
theorem dX8_within_62 : decode cX8_within 62 = .ok (.invokevirtual 73, 3) := by decide +kernel
theorem dX8_within_65 : decode cX8_within 65 = .ok (.ireturn, 1) := by decide +kernel
theorem dX8_leaning_0 : decode cX8_leaning 0 = .ok (.aload_n 0, 1) := by decide +kernel
theorem dX8_leaning_1 : decode cX8_leaning 1 = .ok (.getfield 22, 3) := by decide +kernel
theorem dX8_leaning_4 : decode cX8_leaning 4 = .ok (.aload_n 0, 1) := by decide +kernel
theorem dX8_leaning_5 : decode cX8_leaning 5 = .ok (.getfield 10, 3) := by decide +kernel
theorem dX8_leaning_8 : decode cX8_leaning 8 = .ok (.iconst (-1), 1) := by decide +kernel
theorem dX8_leaning_9 : decode cX8_leaning 9 = .ok (.invokevirtual 101, 3) := by decide +kernel
theorem dX8_leaning_12 : decode cX8_leaning 12 = .ok (.iconst 0, 1) := by decide +kernel
theorem dX8_leaning_13 : decode cX8_leaning 13 = .ok (.istore_n 1, 1) := by decide +kernel
theorem dX8_leaning_14 : decode cX8_leaning 14 = .ok (.iconst 1, 1) := by decide +kernel
theorem dX8_leaning_15 : decode cX8_leaning 15 = .ok (.istore_n 2, 1) := by decide +kernel
theorem dX8_leaning_16 : decode cX8_leaning 16 = .ok (.iload_n 2, 1) := by decide +kernel
theorem dX8_leaning_17 : decode cX8_leaning 17 = .ok (.aload_n 0, 1) := by decide +kernel
theorem dX8_leaning_18 : decode cX8_leaning 18 = .ok (.getfield 10, 3) := by decide +kernel
theorem dX8_leaning_21 : decode cX8_leaning 21 = .ok (.getfield 69, 3) := by decide +kernel
theorem dX8_leaning_24 : decode cX8_leaning 24 = .ok (.invokevirtual 73, 3) := by decide +kernel
theorem dX8_leaning_27 : decode cX8_leaning 27 = .ok (.if_icmp .ge 36, 3) := by decide +kernel
theorem dX8_leaning_30 : decode cX8_leaning 30 = .ok (.aload_n 0, 1) := by decide +kernel
theorem dX8_leaning_31 : decode cX8_leaning 31 = .ok (.getfield 22, 3) := by decide +kernel
theorem dX8_leaning_34 : decode cX8_leaning 34 = .ok (.iload_n 2, 1) := by decide +kernel
theorem dX8_leaning_35 : decode cX8_leaning 35 = .ok (.invokevirtual 108, 3) := by decide +kernel
theorem dX8_leaning_38 : decode cX8_leaning 38 = .ok (.invokestatic 226, 3) := by decide +kernel
theorem dX8_leaning_41 : decode cX8_leaning 41 = .ok (.aload_n 0, 1) := by decide +kernel
theorem dX8_leaning_42 : decode cX8_leaning 42 = .ok (.getfield 22, 3) := by decide +kernel
theorem dX8_leaning_45 : decode cX8_leaning 45 = .ok (.iload_n 1, 1) := by decide +kernel
theorem dX8_leaning_46 : decode cX8_leaning 46 = .ok (.invokevirtual 108, 3) := by decide +kernel
theorem dX8_leaning_49 : decode cX8_leaning 49 = .ok (.invokestatic 226, 3) := by decide +kernel
theorem dX8_leaning_52 : decode cX8_leaning 52 = .ok (.if_icmp .le 5, 3) := by decide +kernel
theorem dX8_leaning_55 : decode cX8_leaning 55 = .ok (.iload_n 2, 1) := by decide +kernel
theorem dX8_leaning_56 : decode cX8_leaning 56 = .ok (.istore_n 1, 1) := by decide +kernel
theorem dX8_leaning_57 : decode cX8_leaning 57 = .ok (.iinc 2 1, 3) := by decide +kernel
theorem dX8_leaning_60 : decode cX8_leaning 60 = .ok (.goto (-44), 3) := by decide +kernel
theorem dX8_leaning_63 : decode cX8_leaning 63 = .ok (.iload_n 1, 1) := by decide +kernel
theorem dX8_leaning_64 : decode cX8_leaning 64 = .ok (.ireturn, 1) := by decide +kernel
theorem dX8_straight_0 : decode cX8_straight 0 = .ok (.iload_n 1, 1) := by decide +kernel
theorem dX8_straight_1 : decode cX8_straight 1 = .ok (.iconst 0, 1) := by decide +kernel
theorem dX8_straight_2 : decode cX8_straight 2 = .ok (.iconst 1, 1) := by decide +kernel
theorem dX8_straight_3 : decode cX8_straight 3 = .ok (.invokestatic 61, 3) := by decide +kernel
theorem dX8_straight_6 : decode cX8_straight 6 = .ok (.ifCond .ne 10, 3) := by decide +kernel
theorem dX8_straight_9 : decode cX8_straight 9 = .ok (.aload_n 0, 1) := by decide +kernel
theorem dX8_straight_10 : decode cX8_straight 10 = .ok (.iconst 1, 1) := by decide +kernel
theorem dX8_straight_11 : decode cX8_straight 11 = .ok (.invokevirtual 65, 3) := by decide +kernel
theorem dX8_straight_14 : decode cX8_straight 14 = .ok (.i2l, 1) := by decide +kernel
theorem dX8_straight_15 : decode cX8_straight 15 = .ok (.lreturn, 1) := by decide +kernel
theorem dX8_straight_16 : decode cX8_straight 16 = .ok (.aload_n 0, 1) := by decide +kernel
theorem dX8_straight_17 : decode cX8_straight 17 = .ok (.getfield 22, 3) := by decide +kernel
theorem dX8_straight_20 : decode cX8_straight 20 = .ok (.aload_n 0, 1) := by decide +kernel
theorem dX8_straight_21 : decode cX8_straight 21 = .ok (.getfield 10, 3) := by decide +kernel
theorem dX8_straight_24 : decode cX8_straight 24 = .ok (.iconst (-1), 1) := by decide +kernel
theorem dX8_straight_25 : decode cX8_straight 25 = .ok (.invokevirtual 101, 3) := by decide +kernel
theorem dX8_straight_28 : decode cX8_straight 28 = .ok (.aload_n 0, 1) := by decide +kernel
theorem dX8_straight_29 : decode cX8_straight 29 = .ok (.getfield 22, 3) := by decide +kernel
theorem dX8_straight_32 : decode cX8_straight 32 = .ok (.invokevirtual 231, 3) := by decide +kernel
theorem dX8_straight_35 : decode cX8_straight 35 = .ok (.lstore_n 2, 1) := by decide +kernel
theorem dX8_straight_36 : decode cX8_straight 36 = .ok (.aload_n 0, 1) := by decide +kernel
theorem dX8_straight_37 : decode cX8_straight 37 = .ok (.getfield 22, 3) := by decide +kernel
theorem dX8_straight_40 : decode cX8_straight 40 = .ok (.invokevirtual 235, 3) := by decide +kernel
theorem dX8_straight_43 : decode cX8_straight 43 = .ok (.lstore 4, 2) := by decide +kernel
theorem dX8_straight_45 : decode cX8_straight 45 = .ok (.lload_n 2, 1) := by decide +kernel
theorem dX8_straight_46 : decode cX8_straight 46 = .ok (.invokestatic 238, 3) := by decide +kernel
theorem dX8_straight_49 : decode cX8_straight 49 = .ok (.lload 4, 2) := by decide +kernel
theorem dX8_straight_51 : decode cX8_straight 51 = .ok (.invokestatic 241, 3) := by decide +kernel
theorem dX8_straight_54 : decode cX8_straight 54 = .ok (.lstore 6, 2) := by decide +kernel
theorem dX8_straight_56 : decode cX8_straight 56 = .ok (.iload_n 1, 1) := by decide +kernel
theorem dX8_straight_57 : decode cX8_straight 57 = .ok (.ifCond .ne 7, 3) := by decide +kernel
theorem dX8_straight_60 : decode cX8_straight 60 = .ok (.lload_n 2, 1) := by decide +kernel
theorem dX8_straight_61 : decode cX8_straight 61 = .ok (.goto 5, 3) := by decide +kernel
theorem dX8_straight_64 : decode cX8_straight 64 = .ok (.lload 4, 2) := by decide +kernel
theorem dX8_straight_66 : decode cX8_straight 66 = .ok (.lstore 8, 2) := by decide +kernel
theorem dX8_straight_68 : decode cX8_straight 68 = .ok (.lload 6, 2) := by decide +kernel
theorem dX8_straight_70 : decode cX8_straight 70 = .ok (.lconst 0, 1) := by decide +kernel
theorem dX8_straight_71 : decode cX8_straight 71 = .ok (.lcmp, 1) := by decide +kernel
theorem dX8_straight_72 : decode cX8_straight 72 = .ok (.ifCond .le 11, 3) := by decide +kernel
theorem dX8_straight_75 : decode cX8_straight 75 = .ok (.lload 8, 2) := by decide +kernel
theorem dX8_straight_77 : decode cX8_straight 77 = .ok (.lload 6, 2) := by decide +kernel
theorem dX8_straight_79 : decode cX8_straight 79 = .ok (.ldiv, 1) := by decide +kernel
theorem dX8_straight_80 : decode cX8_straight 80 = .ok (.goto 5, 3) := by decide +kernel
theorem dX8_straight_83 : decode cX8_straight 83 = .ok (.lload 8, 2) := by decide +kernel
theorem dX8_straight_85 : decode cX8_straight 85 = .ok (.lreturn, 1) := by decide +kernel
theorem dX8_offIt_0 : decode cX8_offIt 0 = .ok (.aload_n 0, 1) := by decide +kernel
theorem dX8_offIt_1 : decode cX8_offIt 1 = .ok (.getfield 22, 3) := by decide +kernel
theorem dX8_offIt_4 : decode cX8_offIt 4 = .ok (.aload_n 0, 1) := by decide +kernel
theorem dX8_offIt_5 : decode cX8_offIt 5 = .ok (.getfield 10, 3) := by decide +kernel
theorem dX8_offIt_8 : decode cX8_offIt 8 = .ok (.iconst (-1), 1) := by decide +kernel
theorem dX8_offIt_9 : decode cX8_offIt 9 = .ok (.invokevirtual 101, 3) := by decide +kernel
theorem dX8_offIt_12 : decode cX8_offIt 12 = .ok (.iconst 1, 1) := by decide +kernel
theorem dX8_offIt_13 : decode cX8_offIt 13 = .ok (.istore_n 1, 1) := by decide +kernel
theorem dX8_offIt_14 : decode cX8_offIt 14 = .ok (.iconst 2, 1) := by decide +kernel
theorem dX8_offIt_15 : decode cX8_offIt 15 = .ok (.istore_n 2, 1) := by decide +kernel
theorem dX8_offIt_16 : decode cX8_offIt 16 = .ok (.iload_n 2, 1) := by decide +kernel
theorem dX8_offIt_17 : decode cX8_offIt 17 = .ok (.aload_n 0, 1) := by decide +kernel
theorem dX8_offIt_18 : decode cX8_offIt 18 = .ok (.getfield 10, 3) := by decide +kernel
theorem dX8_offIt_21 : decode cX8_offIt 21 = .ok (.getfield 69, 3) := by decide +kernel
theorem dX8_offIt_24 : decode cX8_offIt 24 = .ok (.invokevirtual 73, 3) := by decide +kernel
theorem dX8_offIt_27 : decode cX8_offIt 27 = .ok (.if_icmp .gt 31, 3) := by decide +kernel
theorem dX8_offIt_30 : decode cX8_offIt 30 = .ok (.aload_n 0, 1) := by decide +kernel
theorem dX8_offIt_31 : decode cX8_offIt 31 = .ok (.getfield 22, 3) := by decide +kernel
theorem dX8_offIt_34 : decode cX8_offIt 34 = .ok (.iload_n 2, 1) := by decide +kernel
theorem dX8_offIt_35 : decode cX8_offIt 35 = .ok (.invokevirtual 245, 3) := by decide +kernel
theorem dX8_offIt_38 : decode cX8_offIt 38 = .ok (.aload_n 0, 1) := by decide +kernel
theorem dX8_offIt_39 : decode cX8_offIt 39 = .ok (.getfield 22, 3) := by decide +kernel
theorem dX8_offIt_42 : decode cX8_offIt 42 = .ok (.iload_n 1, 1) := by decide +kernel
theorem dX8_offIt_43 : decode cX8_offIt 43 = .ok (.invokevirtual 245, 3) := by decide +kernel
theorem dX8_offIt_46 : decode cX8_offIt 46 = .ok (.lcmp, 1) := by decide +kernel
theorem dX8_offIt_47 : decode cX8_offIt 47 = .ok (.ifCond .le 5, 3) := by decide +kernel
theorem dX8_offIt_50 : decode cX8_offIt 50 = .ok (.iload_n 2, 1) := by decide +kernel
theorem dX8_offIt_51 : decode cX8_offIt 51 = .ok (.istore_n 1, 1) := by decide +kernel
theorem dX8_offIt_52 : decode cX8_offIt 52 = .ok (.iinc 2 1, 3) := by decide +kernel
theorem dX8_offIt_55 : decode cX8_offIt 55 = .ok (.goto (-39), 3) := by decide +kernel
theorem dX8_offIt_58 : decode cX8_offIt 58 = .ok (.iload_n 1, 1) := by decide +kernel
theorem dX8_offIt_59 : decode cX8_offIt 59 = .ok (.ireturn, 1) := by decide +kernel
theorem dX8_nearest_0 : decode cX8_nearest 0 = .ok (.iload_n 1, 1) := by decide +kernel
theorem dX8_nearest_1 : decode cX8_nearest 1 = .ok (.ldc 249, 2) := by decide +kernel
theorem dX8_nearest_3 : decode cX8_nearest 3 = .ok (.ldc 117, 2) := by decide +kernel
theorem dX8_nearest_5 : decode cX8_nearest 5 = .ok (.invokestatic 61, 3) := by decide +kernel
theorem dX8_nearest_8 : decode cX8_nearest 8 = .ok (.ifCond .eq 13, 3) := by decide +kernel
theorem dX8_nearest_11 : decode cX8_nearest 11 = .ok (.iload_n 2, 1) := by decide +kernel
theorem dX8_nearest_12 : decode cX8_nearest 12 = .ok (.iconst 0, 1) := by decide +kernel
theorem dX8_nearest_13 : decode cX8_nearest 13 = .ok (.ldc 117, 2) := by decide +kernel
theorem dX8_nearest_15 : decode cX8_nearest 15 = .ok (.invokestatic 61, 3) := by decide +kernel
theorem dX8_nearest_18 : decode cX8_nearest 18 = .ok (.ifCond .ne 9, 3) := by decide +kernel
theorem dX8_nearest_21 : decode cX8_nearest 21 = .ok (.aload_n 0, 1) := by decide +kernel
theorem dX8_nearest_22 : decode cX8_nearest 22 = .ok (.iconst 1, 1) := by decide +kernel
theorem dX8_nearest_23 : decode cX8_nearest 23 = .ok (.invokevirtual 65, 3) := by decide +kernel
theorem dX8_nearest_26 : decode cX8_nearest 26 = .ok (.ireturn, 1) := by decide +kernel
theorem dX8_nearest_27 : decode cX8_nearest 27 = .ok (.aload_n 0, 1) := by decide +kernel
theorem dX8_nearest_28 : decode cX8_nearest 28 = .ok (.getfield 22, 3) := by decide +kernel
theorem dX8_nearest_31 : decode cX8_nearest 31 = .ok (.aload_n 0, 1) := by decide +kernel
theorem dX8_nearest_32 : decode cX8_nearest 32 = .ok (.getfield 10, 3) := by decide +kernel
theorem dX8_nearest_35 : decode cX8_nearest 35 = .ok (.iconst (-1), 1) := by decide +kernel
theorem dX8_nearest_36 : decode cX8_nearest 36 = .ok (.invokevirtual 101, 3) := by decide +kernel
theorem dX8_nearest_39 : decode cX8_nearest 39 = .ok (.iconst 0, 1) := by decide +kernel
theorem dX8_nearest_40 : decode cX8_nearest 40 = .ok (.istore_n 3, 1) := by decide +kernel
theorem dX8_nearest_41 : decode cX8_nearest 41 = .ok (.iconst 1, 1) := by decide +kernel
theorem dX8_nearest_42 : decode cX8_nearest 42 = .ok (.istore 4, 2) := by decide +kernel
theorem dX8_nearest_44 : decode cX8_nearest 44 = .ok (.iload 4, 2) := by decide +kernel
theorem dX8_nearest_46 : decode cX8_nearest 46 = .ok (.aload_n 0, 1) := by decide +kernel
theorem dX8_nearest_47 : decode cX8_nearest 47 = .ok (.getfield 10, 3) := by decide +kernel
theorem dX8_nearest_50 : decode cX8_nearest 50 = .ok (.getfield 69, 3) := by decide +kernel
theorem dX8_nearest_53 : decode cX8_nearest 53 = .ok (.invokevirtual 73, 3) := by decide +kernel
theorem dX8_nearest_56 : decode cX8_nearest 56 = .ok (.if_icmp .gt 36, 3) := by decide +kernel
theorem dX8_nearest_59 : decode cX8_nearest 59 = .ok (.aload_n 0, 1) := by decide +kernel
theorem dX8_nearest_60 : decode cX8_nearest 60 = .ok (.getfield 22, 3) := by decide +kernel
theorem dX8_nearest_63 : decode cX8_nearest 63 = .ok (.iload 4, 2) := by decide +kernel
theorem dX8_nearest_65 : decode cX8_nearest 65 = .ok (.iload_n 1, 1) := by decide +kernel
theorem dX8_nearest_66 : decode cX8_nearest 66 = .ok (.iload_n 2, 1) := by decide +kernel
theorem dX8_nearest_67 : decode cX8_nearest 67 = .ok (.invokevirtual 250, 3) := by decide +kernel
theorem dX8_nearest_70 : decode cX8_nearest 70 = .ok (.aload_n 0, 1) := by decide +kernel
theorem dX8_nearest_71 : decode cX8_nearest 71 = .ok (.getfield 22, 3) := by decide +kernel
theorem dX8_nearest_74 : decode cX8_nearest 74 = .ok (.iload_n 3, 1) := by decide +kernel
theorem dX8_nearest_75 : decode cX8_nearest 75 = .ok (.iload_n 1, 1) := by decide +kernel
theorem dX8_nearest_76 : decode cX8_nearest 76 = .ok (.iload_n 2, 1) := by decide +kernel
theorem dX8_nearest_77 : decode cX8_nearest 77 = .ok (.invokevirtual 250, 3) := by decide +kernel
theorem dX8_nearest_80 : decode cX8_nearest 80 = .ok (.if_icmp .ge 6, 3) := by decide +kernel
theorem dX8_nearest_83 : decode cX8_nearest 83 = .ok (.iload 4, 2) := by decide +kernel
theorem dX8_nearest_85 : decode cX8_nearest 85 = .ok (.istore_n 3, 1) := by decide +kernel
theorem dX8_nearest_86 : decode cX8_nearest 86 = .ok (.iinc 4 1, 3) := by decide +kernel
theorem dX8_nearest_89 : decode cX8_nearest 89 = .ok (.goto (-45), 3) := by decide +kernel
theorem dX8_nearest_92 : decode cX8_nearest 92 = .ok (.iload_n 3, 1) := by decide +kernel
theorem dX8_nearest_93 : decode cX8_nearest 93 = .ok (.ireturn, 1) := by decide +kernel
theorem dX8_crosses_0 : decode cX8_crosses 0 = .ok (.aload_n 0, 1) := by decide +kernel
theorem dX8_crosses_1 : decode cX8_crosses 1 = .ok (.getfield 22, 3) := by decide +kernel
theorem dX8_crosses_4 : decode cX8_crosses 4 = .ok (.aload_n 0, 1) := by decide +kernel
theorem dX8_crosses_5 : decode cX8_crosses 5 = .ok (.getfield 10, 3) := by decide +kernel
theorem dX8_crosses_8 : decode cX8_crosses 8 = .ok (.iconst (-1), 1) := by decide +kernel
theorem dX8_crosses_9 : decode cX8_crosses 9 = .ok (.invokevirtual 101, 3) := by decide +kernel
theorem dX8_crosses_12 : decode cX8_crosses 12 = .ok (.iconst 0, 1) := by decide +kernel
theorem dX8_crosses_13 : decode cX8_crosses 13 = .ok (.istore_n 1, 1) := by decide +kernel
theorem dX8_crosses_14 : decode cX8_crosses 14 = .ok (.iconst 0, 1) := by decide +kernel
theorem dX8_crosses_15 : decode cX8_crosses 15 = .ok (.istore_n 2, 1) := by decide +kernel
theorem dX8_crosses_16 : decode cX8_crosses 16 = .ok (.iload_n 2, 1) := by decide +kernel
theorem dX8_crosses_17 : decode cX8_crosses 17 = .ok (.aload_n 0, 1) := by decide +kernel
theorem dX8_crosses_18 : decode cX8_crosses 18 = .ok (.getfield 10, 3) := by decide +kernel
theorem dX8_crosses_21 : decode cX8_crosses 21 = .ok (.getfield 69, 3) := by decide +kernel
theorem dX8_crosses_24 : decode cX8_crosses 24 = .ok (.invokevirtual 73, 3) := by decide +kernel
theorem dX8_crosses_27 : decode cX8_crosses 27 = .ok (.if_icmp .ge 51, 3) := by decide +kernel
theorem dX8_crosses_30 : decode cX8_crosses 30 = .ok (.aload_n 0, 1) := by decide +kernel
theorem dX8_crosses_31 : decode cX8_crosses 31 = .ok (.getfield 22, 3) := by decide +kernel
theorem dX8_crosses_34 : decode cX8_crosses 34 = .ok (.iload_n 2, 1) := by decide +kernel
theorem dX8_crosses_35 : decode cX8_crosses 35 = .ok (.invokevirtual 186, 3) := by decide +kernel
theorem dX8_crosses_38 : decode cX8_crosses 38 = .ok (.istore_n 3, 1) := by decide +kernel
theorem dX8_crosses_39 : decode cX8_crosses 39 = .ok (.aload_n 0, 1) := by decide +kernel
theorem dX8_crosses_40 : decode cX8_crosses 40 = .ok (.getfield 22, 3) := by decide +kernel
theorem dX8_crosses_43 : decode cX8_crosses 43 = .ok (.iload_n 2, 1) := by decide +kernel
theorem dX8_crosses_44 : decode cX8_crosses 44 = .ok (.iconst 1, 1) := by decide +kernel
theorem dX8_crosses_45 : decode cX8_crosses 45 = .ok (.iadd, 1) := by decide +kernel
theorem dX8_crosses_46 : decode cX8_crosses 46 = .ok (.invokevirtual 186, 3) := by decide +kernel
theorem dX8_crosses_49 : decode cX8_crosses 49 = .ok (.istore 4, 2) := by decide +kernel
theorem dX8_crosses_51 : decode cX8_crosses 51 = .ok (.iload_n 3, 1) := by decide +kernel
theorem dX8_crosses_52 : decode cX8_crosses 52 = .ok (.ifCond .ge 8, 3) := by decide +kernel
theorem dX8_crosses_55 : decode cX8_crosses 55 = .ok (.iload 4, 2) := by decide +kernel
theorem dX8_crosses_57 : decode cX8_crosses 57 = .ok (.ifCond .gt 12, 3) := by decide +kernel
theorem dX8_crosses_60 : decode cX8_crosses 60 = .ok (.iload_n 3, 1) := by decide +kernel
theorem dX8_crosses_61 : decode cX8_crosses 61 = .ok (.ifCond .le 11, 3) := by decide +kernel
theorem dX8_crosses_64 : decode cX8_crosses 64 = .ok (.iload 4, 2) := by decide +kernel
theorem dX8_crosses_66 : decode cX8_crosses 66 = .ok (.ifCond .ge 6, 3) := by decide +kernel
theorem dX8_crosses_69 : decode cX8_crosses 69 = .ok (.iinc 1 1, 3) := by decide +kernel
theorem dX8_crosses_72 : decode cX8_crosses 72 = .ok (.iinc 2 1, 3) := by decide +kernel
theorem dX8_crosses_75 : decode cX8_crosses 75 = .ok (.goto (-59), 3) := by decide +kernel
theorem dX8_crosses_78 : decode cX8_crosses 78 = .ok (.iload_n 1, 1) := by decide +kernel
theorem dX8_crosses_79 : decode cX8_crosses 79 = .ok (.ireturn, 1) := by decide +kernel
theorem dX8_tree_0 : decode cX8_tree 0 = .ok (.iload_n 3, 1) := by decide +kernel
theorem dX8_tree_1 : decode cX8_tree 1 = .ok (.sipush 1000, 3) := by decide +kernel
theorem dX8_tree_4 : decode cX8_tree 4 = .ok (.idiv, 1) := by decide +kernel
theorem dX8_tree_5 : decode cX8_tree 5 = .ok (.bipush 100, 2) := by decide +kernel
theorem dX8_tree_7 : decode cX8_tree 7 = .ok (.isub, 1) := by decide +kernel
theorem dX8_tree_8 : decode cX8_tree 8 = .ok (.istore 4, 2) := by decide +kernel
theorem dX8_tree_10 : decode cX8_tree 10 = .ok (.iload_n 3, 1) := by decide +kernel
theorem dX8_tree_11 : decode cX8_tree 11 = .ok (.sipush 1000, 3) := by decide +kernel
theorem dX8_tree_14 : decode cX8_tree 14 = .ok (.irem, 1) := by decide +kernel
theorem dX8_tree_15 : decode cX8_tree 15 = .ok (.bipush 100, 2) := by decide +kernel
theorem dX8_tree_17 : decode cX8_tree 17 = .ok (.isub, 1) := by decide +kernel
theorem dX8_tree_18 : decode cX8_tree 18 = .ok (.istore 5, 2) := by decide +kernel
theorem dX8_tree_20 : decode cX8_tree 20 = .ok (.iload_n 1, 1) := by decide +kernel
theorem dX8_tree_21 : decode cX8_tree 21 = .ok (.iconst 1, 1) := by decide +kernel
theorem dX8_tree_22 : decode cX8_tree 22 = .ok (.bipush 24, 2) := by decide +kernel
theorem dX8_tree_24 : decode cX8_tree 24 = .ok (.invokestatic 61, 3) := by decide +kernel
theorem dX8_tree_27 : decode cX8_tree 27 = .ok (.ifCond .eq 36, 3) := by decide +kernel
theorem dX8_tree_30 : decode cX8_tree 30 = .ok (.iload_n 2, 1) := by decide +kernel
theorem dX8_tree_31 : decode cX8_tree 31 = .ok (.iconst 0, 1) := by decide +kernel
theorem dX8_tree_32 : decode cX8_tree 32 = .ok (.iconst 5, 1) := by decide +kernel
theorem dX8_tree_33 : decode cX8_tree 33 = .ok (.invokestatic 61, 3) := by decide +kernel
theorem dX8_tree_36 : decode cX8_tree 36 = .ok (.ifCond .eq 27, 3) := by decide +kernel
theorem dX8_tree_39 : decode cX8_tree 39 = .ok (.iload 4, 2) := by decide +kernel
theorem dX8_tree_41 : decode cX8_tree 41 = .ok (.bipush (-99), 2) := by decide +kernel
theorem dX8_tree_43 : decode cX8_tree 43 = .ok (.bipush 99, 2) := by decide +kernel
theorem dX8_tree_45 : decode cX8_tree 45 = .ok (.invokestatic 61, 3) := by decide +kernel
theorem dX8_tree_48 : decode cX8_tree 48 = .ok (.ifCond .eq 15, 3) := by decide +kernel
theorem dX8_tree_51 : decode cX8_tree 51 = .ok (.iload 5, 2) := by decide +kernel
theorem dX8_tree_53 : decode cX8_tree 53 = .ok (.bipush (-99), 2) := by decide +kernel
theorem dX8_tree_55 : decode cX8_tree 55 = .ok (.bipush 99, 2) := by decide +kernel
theorem dX8_tree_57 : decode cX8_tree 57 = .ok (.invokestatic 61, 3) := by decide +kernel
theorem dX8_tree_60 : decode cX8_tree 60 = .ok (.ifCond .ne 9, 3) := by decide +kernel
theorem dX8_tree_63 : decode cX8_tree 63 = .ok (.aload_n 0, 1) := by decide +kernel
theorem dX8_tree_64 : decode cX8_tree 64 = .ok (.iconst 1, 1) := by decide +kernel
theorem dX8_tree_65 : decode cX8_tree 65 = .ok (.invokevirtual 65, 3) := by decide +kernel
theorem dX8_tree_68 : decode cX8_tree 68 = .ok (.ireturn, 1) := by decide +kernel
theorem dX8_tree_69 : decode cX8_tree 69 = .ok (.aload_n 0, 1) := by decide +kernel
theorem dX8_tree_70 : decode cX8_tree 70 = .ok (.getfield 10, 3) := by decide +kernel
theorem dX8_tree_73 : decode cX8_tree 73 = .ok (.getfield 204, 3) := by decide +kernel
theorem dX8_tree_76 : decode cX8_tree 76 = .ok (.invokevirtual 253, 3) := by decide +kernel
theorem dX8_tree_79 : decode cX8_tree 79 = .ok (.ifCond .eq 9, 3) := by decide +kernel
theorem dX8_tree_82 : decode cX8_tree 82 = .ok (.aload_n 0, 1) := by decide +kernel
theorem dX8_tree_83 : decode cX8_tree 83 = .ok (.iconst 4, 1) := by decide +kernel
theorem dX8_tree_84 : decode cX8_tree 84 = .ok (.invokevirtual 65, 3) := by decide +kernel
theorem dX8_tree_87 : decode cX8_tree 87 = .ok (.ireturn, 1) := by decide +kernel
theorem dX8_tree_88 : decode cX8_tree 88 = .ok (.aload_n 0, 1) := by decide +kernel
theorem dX8_tree_89 : decode cX8_tree 89 = .ok (.getfield 10, 3) := by decide +kernel
theorem dX8_tree_92 : decode cX8_tree 92 = .ok (.getfield 204, 3) := by decide +kernel
theorem dX8_tree_95 : decode cX8_tree 95 = .ok (.iload_n 1, 1) := by decide +kernel
theorem dX8_tree_96 : decode cX8_tree 96 = .ok (.invokevirtual 157, 3) := by decide +kernel
theorem dX8_tree_99 : decode cX8_tree 99 = .ok (.istore 6, 2) := by decide +kernel
theorem dX8_tree_101 : decode cX8_tree 101 = .ok (.aload_n 0, 1) := by decide +kernel
theorem dX8_tree_102 : decode cX8_tree 102 = .ok (.getfield 10, 3) := by decide +kernel
theorem dX8_tree_105 : decode cX8_tree 105 = .ok (.getfield 204, 3) := by decide +kernel
theorem dX8_tree_108 : decode cX8_tree 108 = .ok (.iconst 1, 1) := by decide +kernel
theorem dX8_tree_109 : decode cX8_tree 109 = .ok (.iload 6, 2) := by decide +kernel
theorem dX8_tree_111 : decode cX8_tree 111 = .ok (.iload_n 2, 1) := by decide +kernel
theorem dX8_tree_112 : decode cX8_tree 112 = .ok (.invokevirtual 93, 3) := by decide +kernel
theorem dX8_tree_115 : decode cX8_tree 115 = .ok (.aload_n 0, 1) := by decide +kernel
theorem dX8_tree_116 : decode cX8_tree 116 = .ok (.getfield 10, 3) := by decide +kernel
theorem dX8_tree_119 : decode cX8_tree 119 = .ok (.getfield 204, 3) := by decide +kernel
theorem dX8_tree_122 : decode cX8_tree 122 = .ok (.iconst 2, 1) := by decide +kernel
theorem dX8_tree_123 : decode cX8_tree 123 = .ok (.iload 6, 2) := by decide +kernel
theorem dX8_tree_125 : decode cX8_tree 125 = .ok (.iload 4, 2) := by decide +kernel
theorem dX8_tree_127 : decode cX8_tree 127 = .ok (.invokevirtual 93, 3) := by decide +kernel
theorem dX8_tree_130 : decode cX8_tree 130 = .ok (.aload_n 0, 1) := by decide +kernel
theorem dX8_tree_131 : decode cX8_tree 131 = .ok (.getfield 10, 3) := by decide +kernel
theorem dX8_tree_134 : decode cX8_tree 134 = .ok (.getfield 204, 3) := by decide +kernel
theorem dX8_tree_137 : decode cX8_tree 137 = .ok (.iconst 3, 1) := by decide +kernel
theorem dX8_tree_138 : decode cX8_tree 138 = .ok (.iload 6, 2) := by decide +kernel
theorem dX8_tree_140 : decode cX8_tree 140 = .ok (.iload 5, 2) := by decide +kernel
theorem dX8_tree_142 : decode cX8_tree 142 = .ok (.invokevirtual 93, 3) := by decide +kernel
theorem dX8_tree_145 : decode cX8_tree 145 = .ok (.iload 6, 2) := by decide +kernel
theorem dX8_tree_147 : decode cX8_tree 147 = .ok (.ireturn, 1) := by decide +kernel
theorem dX8_treeIs_0 : decode cX8_treeIs 0 = .ok (.aload_n 0, 1) := by decide +kernel
theorem dX8_treeIs_1 : decode cX8_treeIs 1 = .ok (.getfield 10, 3) := by decide +kernel
theorem dX8_treeIs_4 : decode cX8_treeIs 4 = .ok (.getfield 204, 3) := by decide +kernel
theorem dX8_treeIs_7 : decode cX8_treeIs 7 = .ok (.iload_n 1, 1) := by decide +kernel
theorem dX8_treeIs_8 : decode cX8_treeIs 8 = .ok (.invokevirtual 97, 3) := by decide +kernel
theorem dX8_treeIs_11 : decode cX8_treeIs 11 = .ok (.ifCond .eq 12, 3) := by decide +kernel
theorem dX8_treeIs_14 : decode cX8_treeIs 14 = .ok (.iload_n 2, 1) := by decide +kernel
theorem dX8_treeIs_15 : decode cX8_treeIs 15 = .ok (.iconst 0, 1) := by decide +kernel
theorem dX8_treeIs_16 : decode cX8_treeIs 16 = .ok (.iconst 5, 1) := by decide +kernel
theorem dX8_treeIs_17 : decode cX8_treeIs 17 = .ok (.invokestatic 61, 3) := by decide +kernel
theorem dX8_treeIs_20 : decode cX8_treeIs 20 = .ok (.ifCond .ne 9, 3) := by decide +kernel
theorem dX8_treeIs_23 : decode cX8_treeIs 23 = .ok (.aload_n 0, 1) := by decide +kernel
theorem dX8_treeIs_24 : decode cX8_treeIs 24 = .ok (.iconst 1, 1) := by decide +kernel
theorem dX8_treeIs_25 : decode cX8_treeIs 25 = .ok (.invokevirtual 65, 3) := by decide +kernel
theorem dX8_treeIs_28 : decode cX8_treeIs 28 = .ok (.ireturn, 1) := by decide +kernel
theorem dX8_treeIs_29 : decode cX8_treeIs 29 = .ok (.iload_n 2, 1) := by decide +kernel
theorem dX8_treeIs_30 : decode cX8_treeIs 30 = .ok (.iconst 3, 1) := by decide +kernel
theorem dX8_treeIs_31 : decode cX8_treeIs 31 = .ok (.if_icmp .gt 16, 3) := by decide +kernel
theorem dX8_treeIs_34 : decode cX8_treeIs 34 = .ok (.aload_n 0, 1) := by decide +kernel
theorem dX8_treeIs_35 : decode cX8_treeIs 35 = .ok (.getfield 10, 3) := by decide +kernel
theorem dX8_treeIs_38 : decode cX8_treeIs 38 = .ok (.getfield 204, 3) := by decide +kernel
theorem dX8_treeIs_41 : decode cX8_treeIs 41 = .ok (.iload_n 2, 1) := by decide +kernel
theorem dX8_treeIs_42 : decode cX8_treeIs 42 = .ok (.iload_n 1, 1) := by decide +kernel
theorem dX8_treeIs_43 : decode cX8_treeIs 43 = .ok (.invokevirtual 89, 3) := by decide +kernel
theorem dX8_treeIs_46 : decode cX8_treeIs 46 = .ok (.ireturn, 1) := by decide +kernel
theorem dX8_treeIs_47 : decode cX8_treeIs 47 = .ok (.aload_n 0, 1) := by decide +kernel
theorem dX8_treeIs_48 : decode cX8_treeIs 48 = .ok (.getfield 10, 3) := by decide +kernel
theorem dX8_treeIs_51 : decode cX8_treeIs 51 = .ok (.getfield 204, 3) := by decide +kernel
theorem dX8_treeIs_54 : decode cX8_treeIs 54 = .ok (.iconst 0, 1) := by decide +kernel
theorem dX8_treeIs_55 : decode cX8_treeIs 55 = .ok (.iload_n 1, 1) := by decide +kernel
theorem dX8_treeIs_56 : decode cX8_treeIs 56 = .ok (.invokevirtual 89, 3) := by decide +kernel
theorem dX8_treeIs_59 : decode cX8_treeIs 59 = .ok (.istore_n 3, 1) := by decide +kernel
theorem dX8_treeIs_60 : decode cX8_treeIs 60 = .ok (.iload_n 3, 1) := by decide +kernel
theorem dX8_treeIs_61 : decode cX8_treeIs 61 = .ok (.aload_n 0, 1) := by decide +kernel
theorem dX8_treeIs_62 : decode cX8_treeIs 62 = .ok (.getfield 10, 3) := by decide +kernel
theorem dX8_treeIs_65 : decode cX8_treeIs 65 = .ok (.getfield 69, 3) := by decide +kernel
theorem dX8_treeIs_68 : decode cX8_treeIs 68 = .ok (.invokevirtual 73, 3) := by decide +kernel
theorem dX8_treeIs_71 : decode cX8_treeIs 71 = .ok (.if_icmp .le 9, 3) := by decide +kernel
theorem dX8_treeIs_74 : decode cX8_treeIs 74 = .ok (.aload_n 0, 1) := by decide +kernel
theorem dX8_treeIs_75 : decode cX8_treeIs 75 = .ok (.iconst 2, 1) := by decide +kernel
theorem dX8_treeIs_76 : decode cX8_treeIs 76 = .ok (.invokevirtual 65, 3) := by decide +kernel
theorem dX8_treeIs_79 : decode cX8_treeIs 79 = .ok (.ireturn, 1) := by decide +kernel
theorem dX8_treeIs_80 : decode cX8_treeIs 80 = .ok (.aload_n 0, 1) := by decide +kernel
theorem dX8_treeIs_81 : decode cX8_treeIs 81 = .ok (.getfield 22, 3) := by decide +kernel
theorem dX8_treeIs_84 : decode cX8_treeIs 84 = .ok (.aload_n 0, 1) := by decide +kernel
theorem dX8_treeIs_85 : decode cX8_treeIs 85 = .ok (.getfield 10, 3) := by decide +kernel
theorem dX8_treeIs_88 : decode cX8_treeIs 88 = .ok (.iconst (-1), 1) := by decide +kernel
theorem dX8_treeIs_89 : decode cX8_treeIs 89 = .ok (.invokevirtual 101, 3) := by decide +kernel
theorem dX8_treeIs_92 : decode cX8_treeIs 92 = .ok (.iload_n 2, 1) := by decide +kernel
theorem dX8_treeIs_93 : decode cX8_treeIs 93 = .ok (.iconst 4, 1) := by decide +kernel
theorem dX8_treeIs_94 : decode cX8_treeIs 94 = .ok (.if_icmp .ne 27, 3) := by decide +kernel
theorem dX8_treeIs_97 : decode cX8_treeIs 97 = .ok (.aload_n 0, 1) := by decide +kernel
theorem dX8_treeIs_98 : decode cX8_treeIs 98 = .ok (.getfield 22, 3) := by decide +kernel
theorem dX8_treeIs_101 : decode cX8_treeIs 101 = .ok (.iload_n 3, 1) := by decide +kernel
theorem dX8_treeIs_102 : decode cX8_treeIs 102 = .ok (.invokevirtual 186, 3) := by decide +kernel
theorem dX8_treeIs_105 : decode cX8_treeIs 105 = .ok (.aload_n 0, 1) := by decide +kernel
theorem dX8_treeIs_106 : decode cX8_treeIs 106 = .ok (.getfield 10, 3) := by decide +kernel
theorem dX8_treeIs_109 : decode cX8_treeIs 109 = .ok (.getfield 204, 3) := by decide +kernel
theorem dX8_treeIs_112 : decode cX8_treeIs 112 = .ok (.iconst 2, 1) := by decide +kernel
theorem dX8_treeIs_113 : decode cX8_treeIs 113 = .ok (.iload_n 1, 1) := by decide +kernel
theorem dX8_treeIs_114 : decode cX8_treeIs 114 = .ok (.invokevirtual 89, 3) := by decide +kernel
theorem dX8_treeIs_117 : decode cX8_treeIs 117 = .ok (.iadd, 1) := by decide +kernel
theorem dX8_treeIs_118 : decode cX8_treeIs 118 = .ok (.goto 24, 3) := by decide +kernel
theorem dX8_treeIs_121 : decode cX8_treeIs 121 = .ok (.aload_n 0, 1) := by decide +kernel
theorem dX8_treeIs_122 : decode cX8_treeIs 122 = .ok (.getfield 22, 3) := by decide +kernel
theorem dX8_treeIs_125 : decode cX8_treeIs 125 = .ok (.iload_n 3, 1) := by decide +kernel
theorem dX8_treeIs_126 : decode cX8_treeIs 126 = .ok (.invokevirtual 189, 3) := by decide +kernel
theorem dX8_treeIs_129 : decode cX8_treeIs 129 = .ok (.aload_n 0, 1) := by decide +kernel
theorem dX8_treeIs_130 : decode cX8_treeIs 130 = .ok (.getfield 10, 3) := by decide +kernel
theorem dX8_treeIs_133 : decode cX8_treeIs 133 = .ok (.getfield 204, 3) := by decide +kernel
theorem dX8_treeIs_136 : decode cX8_treeIs 136 = .ok (.iconst 3, 1) := by decide +kernel
theorem dX8_treeIs_137 : decode cX8_treeIs 137 = .ok (.iload_n 1, 1) := by decide +kernel
theorem dX8_treeIs_138 : decode cX8_treeIs 138 = .ok (.invokevirtual 89, 3) := by decide +kernel
theorem dX8_treeIs_141 : decode cX8_treeIs 141 = .ok (.iadd, 1) := by decide +kernel
theorem dX8_treeIs_142 : decode cX8_treeIs 142 = .ok (.ireturn, 1) := by decide +kernel
theorem dX8_dig_0 : decode cX8_dig 0 = .ok (.aload_n 0, 1) := by decide +kernel
theorem dX8_dig_1 : decode cX8_dig 1 = .ok (.getfield 10, 3) := by decide +kernel
theorem dX8_dig_4 : decode cX8_dig 4 = .ok (.getfield 204, 3) := by decide +kernel
theorem dX8_dig_7 : decode cX8_dig 7 = .ok (.iload_n 1, 1) := by decide +kernel
theorem dX8_dig_8 : decode cX8_dig 8 = .ok (.invokevirtual 97, 3) := by decide +kernel
theorem dX8_dig_11 : decode cX8_dig 11 = .ok (.ifCond .eq 13, 3) := by decide +kernel
theorem dX8_dig_14 : decode cX8_dig 14 = .ok (.iload 4, 2) := by decide +kernel
theorem dX8_dig_16 : decode cX8_dig 16 = .ok (.iconst 0, 1) := by decide +kernel
theorem dX8_dig_17 : decode cX8_dig 17 = .ok (.iconst 1, 1) := by decide +kernel
theorem dX8_dig_18 : decode cX8_dig 18 = .ok (.invokestatic 61, 3) := by decide +kernel
theorem dX8_dig_21 : decode cX8_dig 21 = .ok (.ifCond .ne 9, 3) := by decide +kernel
theorem dX8_dig_24 : decode cX8_dig 24 = .ok (.aload_n 0, 1) := by decide +kernel
theorem dX8_dig_25 : decode cX8_dig 25 = .ok (.iconst 1, 1) := by decide +kernel
theorem dX8_dig_26 : decode cX8_dig 26 = .ok (.invokevirtual 65, 3) := by decide +kernel
theorem dX8_dig_29 : decode cX8_dig 29 = .ok (.ireturn, 1) := by decide +kernel
theorem dX8_dig_30 : decode cX8_dig 30 = .ok (.iload 4, 2) := by decide +kernel
theorem dX8_dig_32 : decode cX8_dig 32 = .ok (.ifCond .ne 20, 3) := by decide +kernel
theorem dX8_dig_35 : decode cX8_dig 35 = .ok (.iload_n 2, 1) := by decide +kernel
theorem dX8_dig_36 : decode cX8_dig 36 = .ok (.aload_n 0, 1) := by decide +kernel
theorem dX8_dig_37 : decode cX8_dig 37 = .ok (.getfield 10, 3) := by decide +kernel
theorem dX8_dig_40 : decode cX8_dig 40 = .ok (.getfield 204, 3) := by decide +kernel
theorem dX8_dig_43 : decode cX8_dig 43 = .ok (.iconst 2, 1) := by decide +kernel
theorem dX8_dig_44 : decode cX8_dig 44 = .ok (.iload_n 1, 1) := by decide +kernel
theorem dX8_dig_45 : decode cX8_dig 45 = .ok (.invokevirtual 89, 3) := by decide +kernel
theorem dX8_dig_48 : decode cX8_dig 48 = .ok (.isub, 1) := by decide +kernel
theorem dX8_dig_49 : decode cX8_dig 49 = .ok (.goto 17, 3) := by decide +kernel
theorem dX8_dig_52 : decode cX8_dig 52 = .ok (.iload_n 3, 1) := by decide +kernel
theorem dX8_dig_53 : decode cX8_dig 53 = .ok (.aload_n 0, 1) := by decide +kernel
theorem dX8_dig_54 : decode cX8_dig 54 = .ok (.getfield 10, 3) := by decide +kernel
theorem dX8_dig_57 : decode cX8_dig 57 = .ok (.getfield 204, 3) := by decide +kernel
theorem dX8_dig_60 : decode cX8_dig 60 = .ok (.iconst 3, 1) := by decide +kernel
theorem dX8_dig_61 : decode cX8_dig 61 = .ok (.iload_n 1, 1) := by decide +kernel
theorem dX8_dig_62 : decode cX8_dig 62 = .ok (.invokevirtual 89, 3) := by decide +kernel
theorem dX8_dig_65 : decode cX8_dig 65 = .ok (.isub, 1) := by decide +kernel
theorem dX8_dig_66 : decode cX8_dig 66 = .ok (.ireturn, 1) := by decide +kernel
theorem dX8_sorts_0 : decode cX8_sorts 0 = .ok (.iload_n 1, 1) := by decide +kernel
theorem dX8_sorts_1 : decode cX8_sorts 1 = .ok (.iconst 0, 1) := by decide +kernel
theorem dX8_sorts_2 : decode cX8_sorts 2 = .ok (.iconst 5, 1) := by decide +kernel
theorem dX8_sorts_3 : decode cX8_sorts 3 = .ok (.invokestatic 61, 3) := by decide +kernel
theorem dX8_sorts_6 : decode cX8_sorts 6 = .ok (.ifCond .ne 9, 3) := by decide +kernel
theorem dX8_sorts_9 : decode cX8_sorts 9 = .ok (.aload_n 0, 1) := by decide +kernel
theorem dX8_sorts_10 : decode cX8_sorts 10 = .ok (.iconst 1, 1) := by decide +kernel
theorem dX8_sorts_11 : decode cX8_sorts 11 = .ok (.invokevirtual 65, 3) := by decide +kernel
theorem dX8_sorts_14 : decode cX8_sorts 14 = .ok (.ireturn, 1) := by decide +kernel
theorem dX8_sorts_15 : decode cX8_sorts 15 = .ok (.aload_n 0, 1) := by decide +kernel
theorem dX8_sorts_16 : decode cX8_sorts 16 = .ok (.getfield 10, 3) := by decide +kernel
theorem dX8_sorts_19 : decode cX8_sorts 19 = .ok (.getfield 204, 3) := by decide +kernel
theorem dX8_sorts_22 : decode cX8_sorts 22 = .ok (.iconst 1, 1) := by decide +kernel
theorem dX8_sorts_23 : decode cX8_sorts 23 = .ok (.iload_n 1, 1) := by decide +kernel
theorem dX8_sorts_24 : decode cX8_sorts 24 = .ok (.invokevirtual 207, 3) := by decide +kernel
theorem dX8_sorts_27 : decode cX8_sorts 27 = .ok (.ireturn, 1) := by decide +kernel
theorem dX8_waver_0 : decode cX8_waver 0 = .ok (.iload_n 1, 1) := by decide +kernel
theorem dX8_waver_1 : decode cX8_waver 1 = .ok (.iconst 0, 1) := by decide +kernel
theorem dX8_waver_2 : decode cX8_waver 2 = .ok (.bipush 23, 2) := by decide +kernel
theorem dX8_waver_4 : decode cX8_waver 4 = .ok (.invokestatic 61, 3) := by decide +kernel
theorem dX8_waver_7 : decode cX8_waver 7 = .ok (.ifCond .eq 23, 3) := by decide +kernel
theorem dX8_waver_10 : decode cX8_waver 10 = .ok (.iload_n 2, 1) := by decide +kernel
theorem dX8_waver_11 : decode cX8_waver 11 = .ok (.iconst 1, 1) := by decide +kernel
theorem dX8_waver_12 : decode cX8_waver 12 = .ok (.bipush 24, 2) := by decide +kernel
theorem dX8_waver_14 : decode cX8_waver 14 = .ok (.invokestatic 61, 3) := by decide +kernel
theorem dX8_waver_17 : decode cX8_waver 17 = .ok (.ifCond .eq 13, 3) := by decide +kernel
theorem dX8_waver_20 : decode cX8_waver 20 = .ok (.iload_n 3, 1) := by decide +kernel
theorem dX8_waver_21 : decode cX8_waver 21 = .ok (.iconst 0, 1) := by decide +kernel
theorem dX8_waver_22 : decode cX8_waver 22 = .ok (.bipush 99, 2) := by decide +kernel
theorem dX8_waver_24 : decode cX8_waver 24 = .ok (.invokestatic 61, 3) := by decide +kernel
theorem dX8_waver_27 : decode cX8_waver 27 = .ok (.ifCond .ne 9, 3) := by decide +kernel
theorem dX8_waver_30 : decode cX8_waver 30 = .ok (.aload_n 0, 1) := by decide +kernel
theorem dX8_waver_31 : decode cX8_waver 31 = .ok (.iconst 1, 1) := by decide +kernel
theorem dX8_waver_32 : decode cX8_waver 32 = .ok (.invokevirtual 65, 3) := by decide +kernel
theorem dX8_waver_35 : decode cX8_waver 35 = .ok (.ireturn, 1) := by decide +kernel
theorem dX8_waver_36 : decode cX8_waver 36 = .ok (.iload_n 1, 1) := by decide +kernel
theorem dX8_waver_37 : decode cX8_waver 37 = .ok (.istore 4, 2) := by decide +kernel
theorem dX8_waver_39 : decode cX8_waver 39 = .ok (.iload 4, 2) := by decide +kernel
theorem dX8_waver_41 : decode cX8_waver 41 = .ok (.iload_n 1, 1) := by decide +kernel
theorem dX8_waver_42 : decode cX8_waver 42 = .ok (.iload_n 2, 1) := by decide +kernel
theorem dX8_waver_43 : decode cX8_waver 43 = .ok (.iadd, 1) := by decide +kernel
theorem dX8_waver_44 : decode cX8_waver 44 = .ok (.if_icmp .ge 44, 3) := by decide +kernel
theorem dX8_waver_47 : decode cX8_waver 47 = .ok (.iload 4, 2) := by decide +kernel
theorem dX8_waver_49 : decode cX8_waver 49 = .ok (.bipush 24, 2) := by decide +kernel
theorem dX8_waver_51 : decode cX8_waver 51 = .ok (.if_icmp .ge 37, 3) := by decide +kernel
theorem dX8_waver_54 : decode cX8_waver 54 = .ok (.aload_n 0, 1) := by decide +kernel
theorem dX8_waver_55 : decode cX8_waver 55 = .ok (.getfield 10, 3) := by decide +kernel
theorem dX8_waver_58 : decode cX8_waver 58 = .ok (.getfield 69, 3) := by decide +kernel
theorem dX8_waver_61 : decode cX8_waver 61 = .ok (.iconst 4, 1) := by decide +kernel
theorem dX8_waver_62 : decode cX8_waver 62 = .ok (.iload 4, 2) := by decide +kernel
theorem dX8_waver_64 : decode cX8_waver 64 = .ok (.aload_n 0, 1) := by decide +kernel
theorem dX8_waver_65 : decode cX8_waver 65 = .ok (.getfield 10, 3) := by decide +kernel
theorem dX8_waver_68 : decode cX8_waver 68 = .ok (.invokevirtual 254, 3) := by decide +kernel
theorem dX8_waver_71 : decode cX8_waver 71 = .ok (.iconst 2, 1) := by decide +kernel
theorem dX8_waver_72 : decode cX8_waver 72 = .ok (.iload_n 3, 1) := by decide +kernel
theorem dX8_waver_73 : decode cX8_waver 73 = .ok (.imul, 1) := by decide +kernel
theorem dX8_waver_74 : decode cX8_waver 74 = .ok (.iconst 1, 1) := by decide +kernel
theorem dX8_waver_75 : decode cX8_waver 75 = .ok (.iadd, 1) := by decide +kernel
theorem dX8_waver_76 : decode cX8_waver 76 = .ok (.irem, 1) := by decide +kernel
theorem dX8_waver_77 : decode cX8_waver 77 = .ok (.iload_n 3, 1) := by decide +kernel
theorem dX8_waver_78 : decode cX8_waver 78 = .ok (.isub, 1) := by decide +kernel
theorem dX8_waver_79 : decode cX8_waver 79 = .ok (.invokevirtual 93, 3) := by decide +kernel
theorem dX8_waver_82 : decode cX8_waver 82 = .ok (.iinc 4 1, 3) := by decide +kernel
theorem dX8_waver_85 : decode cX8_waver 85 = .ok (.goto (-46), 3) := by decide +kernel
theorem dX8_waver_88 : decode cX8_waver 88 = .ok (.aload_n 0, 1) := by decide +kernel
theorem dX8_waver_89 : decode cX8_waver 89 = .ok (.getfield 22, 3) := by decide +kernel
theorem dX8_waver_92 : decode cX8_waver 92 = .ok (.aload_n 0, 1) := by decide +kernel
theorem dX8_waver_93 : decode cX8_waver 93 = .ok (.getfield 10, 3) := by decide +kernel
theorem dX8_waver_96 : decode cX8_waver 96 = .ok (.iconst (-1), 1) := by decide +kernel
theorem dX8_waver_97 : decode cX8_waver 97 = .ok (.invokevirtual 101, 3) := by decide +kernel
theorem dX8_waver_100 : decode cX8_waver 100 = .ok (.aload_n 0, 1) := by decide +kernel
theorem dX8_waver_101 : decode cX8_waver 101 = .ok (.getfield 22, 3) := by decide +kernel
theorem dX8_waver_104 : decode cX8_waver 104 = .ok (.invokevirtual 192, 3) := by decide +kernel
theorem dX8_waver_107 : decode cX8_waver 107 = .ok (.ireturn, 1) := by decide +kernel
theorem dX8_still_0 : decode cX8_still 0 = .ok (.iconst 0, 1) := by decide +kernel
theorem dX8_still_1 : decode cX8_still 1 = .ok (.istore_n 1, 1) := by decide +kernel
theorem dX8_still_2 : decode cX8_still 2 = .ok (.iconst 0, 1) := by decide +kernel
theorem dX8_still_3 : decode cX8_still 3 = .ok (.istore_n 2, 1) := by decide +kernel
theorem dX8_still_4 : decode cX8_still 4 = .ok (.iload_n 2, 1) := by decide +kernel
theorem dX8_still_5 : decode cX8_still 5 = .ok (.bipush 24, 2) := by decide +kernel
theorem dX8_still_7 : decode cX8_still 7 = .ok (.if_icmp .ge 40, 3) := by decide +kernel
theorem dX8_still_10 : decode cX8_still 10 = .ok (.aload_n 0, 1) := by decide +kernel
theorem dX8_still_11 : decode cX8_still 11 = .ok (.getfield 10, 3) := by decide +kernel
theorem dX8_still_14 : decode cX8_still 14 = .ok (.getfield 69, 3) := by decide +kernel
theorem dX8_still_17 : decode cX8_still 17 = .ok (.iconst 4, 1) := by decide +kernel
theorem dX8_still_18 : decode cX8_still 18 = .ok (.iload_n 2, 1) := by decide +kernel
theorem dX8_still_19 : decode cX8_still 19 = .ok (.invokevirtual 89, 3) := by decide +kernel
theorem dX8_still_22 : decode cX8_still 22 = .ok (.ifCond .eq 6, 3) := by decide +kernel
theorem dX8_still_25 : decode cX8_still 25 = .ok (.iinc 1 1, 3) := by decide +kernel
theorem dX8_still_28 : decode cX8_still 28 = .ok (.aload_n 0, 1) := by decide +kernel
theorem dX8_still_29 : decode cX8_still 29 = .ok (.getfield 10, 3) := by decide +kernel
theorem dX8_still_32 : decode cX8_still 32 = .ok (.getfield 69, 3) := by decide +kernel
theorem dX8_still_35 : decode cX8_still 35 = .ok (.iconst 4, 1) := by decide +kernel
theorem dX8_still_36 : decode cX8_still 36 = .ok (.iload_n 2, 1) := by decide +kernel
theorem dX8_still_37 : decode cX8_still 37 = .ok (.iconst 0, 1) := by decide +kernel
theorem dX8_still_38 : decode cX8_still 38 = .ok (.invokevirtual 93, 3) := by decide +kernel
theorem dX8_still_41 : decode cX8_still 41 = .ok (.iinc 2 1, 3) := by decide +kernel
theorem dX8_still_44 : decode cX8_still 44 = .ok (.goto (-40), 3) := by decide +kernel
theorem dX8_still_47 : decode cX8_still 47 = .ok (.iload_n 1, 1) := by decide +kernel
theorem dX8_still_48 : decode cX8_still 48 = .ok (.ireturn, 1) := by decide +kernel
theorem dX8_seed_0 : decode cX8_seed 0 = .ok (.aload_n 0, 1) := by decide +kernel
theorem dX8_seed_1 : decode cX8_seed 1 = .ok (.getfield 10, 3) := by decide +kernel
theorem dX8_seed_4 : decode cX8_seed 4 = .ok (.getfield 257, 3) := by decide +kernel
theorem dX8_seed_7 : decode cX8_seed 7 = .ok (.istore_n 2, 1) := by decide +kernel
theorem dX8_seed_8 : decode cX8_seed 8 = .ok (.aload_n 0, 1) := by decide +kernel
theorem dX8_seed_9 : decode cX8_seed 9 = .ok (.getfield 10, 3) := by decide +kernel
theorem dX8_seed_12 : decode cX8_seed 12 = .ok (.iload_n 1, 1) := by decide +kernel
theorem dX8_seed_13 : decode cX8_seed 13 = .ok (.putfield 257, 3) := by decide +kernel
theorem dX8_seed_16 : decode cX8_seed 16 = .ok (.iload_n 2, 1) := by decide +kernel
theorem dX8_seed_17 : decode cX8_seed 17 = .ok (.ireturn, 1) := by decide +kernel
theorem dX8_voice_0 : decode cX8_voice 0 = .ok (.aload_n 0, 1) := by decide +kernel
theorem dX8_voice_1 : decode cX8_voice 1 = .ok (.getfield 10, 3) := by decide +kernel
theorem dX8_voice_4 : decode cX8_voice 4 = .ok (.getfield 124, 3) := by decide +kernel
theorem dX8_voice_7 : decode cX8_voice 7 = .ok (.iload_n 1, 1) := by decide +kernel
theorem dX8_voice_8 : decode cX8_voice 8 = .ok (.invokevirtual 138, 3) := by decide +kernel
theorem dX8_voice_11 : decode cX8_voice 11 = .ok (.ifCond .eq 12, 3) := by decide +kernel
theorem dX8_voice_14 : decode cX8_voice 14 = .ok (.iload_n 2, 1) := by decide +kernel
theorem dX8_voice_15 : decode cX8_voice 15 = .ok (.iconst 0, 1) := by decide +kernel
theorem dX8_voice_16 : decode cX8_voice 16 = .ok (.iconst 3, 1) := by decide +kernel
theorem dX8_voice_17 : decode cX8_voice 17 = .ok (.invokestatic 61, 3) := by decide +kernel
theorem dX8_voice_20 : decode cX8_voice 20 = .ok (.ifCond .ne 9, 3) := by decide +kernel
theorem dX8_voice_23 : decode cX8_voice 23 = .ok (.aload_n 0, 1) := by decide +kernel
theorem dX8_voice_24 : decode cX8_voice 24 = .ok (.iconst 1, 1) := by decide +kernel
theorem dX8_voice_25 : decode cX8_voice 25 = .ok (.invokevirtual 65, 3) := by decide +kernel
theorem dX8_voice_28 : decode cX8_voice 28 = .ok (.ireturn, 1) := by decide +kernel
theorem dX8_voice_29 : decode cX8_voice 29 = .ok (.aload_n 0, 1) := by decide +kernel
theorem dX8_voice_30 : decode cX8_voice 30 = .ok (.getfield 36, 3) := by decide +kernel
theorem dX8_voice_33 : decode cX8_voice 33 = .ok (.aload_n 0, 1) := by decide +kernel
theorem dX8_voice_34 : decode cX8_voice 34 = .ok (.getfield 10, 3) := by decide +kernel
theorem dX8_voice_37 : decode cX8_voice 37 = .ok (.getfield 124, 3) := by decide +kernel
theorem dX8_voice_40 : decode cX8_voice 40 = .ok (.iload_n 1, 1) := by decide +kernel
theorem dX8_voice_41 : decode cX8_voice 41 = .ok (.iload_n 2, 1) := by decide +kernel
theorem dX8_voice_42 : decode cX8_voice 42 = .ok (.iload_n 3, 1) := by decide +kernel
theorem dX8_voice_43 : decode cX8_voice 43 = .ok (.invokevirtual 260, 3) := by decide +kernel
theorem dX8_voice_46 : decode cX8_voice 46 = .ok (.istore 4, 2) := by decide +kernel
theorem dX8_voice_48 : decode cX8_voice 48 = .ok (.aload_n 0, 1) := by decide +kernel
theorem dX8_voice_49 : decode cX8_voice 49 = .ok (.getfield 36, 3) := by decide +kernel
theorem dX8_voice_52 : decode cX8_voice 52 = .ok (.invokevirtual 264, 3) := by decide +kernel
theorem dX8_voice_55 : decode cX8_voice 55 = .ok (.ifCond .eq 12, 3) := by decide +kernel
theorem dX8_voice_58 : decode cX8_voice 58 = .ok (.aload_n 0, 1) := by decide +kernel
theorem dX8_voice_59 : decode cX8_voice 59 = .ok (.bipush 6, 2) := by decide +kernel
theorem dX8_voice_61 : decode cX8_voice 61 = .ok (.invokevirtual 65, 3) := by decide +kernel
theorem dX8_voice_64 : decode cX8_voice 64 = .ok (.goto 5, 3) := by decide +kernel
theorem dX8_voice_67 : decode cX8_voice 67 = .ok (.iload 4, 2) := by decide +kernel
theorem dX8_voice_69 : decode cX8_voice 69 = .ok (.ireturn, 1) := by decide +kernel
theorem dX8_body_0 : decode cX8_body 0 = .ok (.aload_n 0, 1) := by decide +kernel
theorem dX8_body_1 : decode cX8_body 1 = .ok (.getfield 36, 3) := by decide +kernel
theorem dX8_body_4 : decode cX8_body 4 = .ok (.getfield 267, 3) := by decide +kernel
theorem dX8_body_7 : decode cX8_body 7 = .ok (.iload_n 1, 1) := by decide +kernel
theorem dX8_body_8 : decode cX8_body 8 = .ok (.invokevirtual 97, 3) := by decide +kernel
theorem dX8_body_11 : decode cX8_body 11 = .ok (.ifCond .eq 18, 3) := by decide +kernel
theorem dX8_body_14 : decode cX8_body 14 = .ok (.aload_n 0, 1) := by decide +kernel
theorem dX8_body_15 : decode cX8_body 15 = .ok (.getfield 36, 3) := by decide +kernel
theorem dX8_body_18 : decode cX8_body 18 = .ok (.getfield 267, 3) := by decide +kernel
theorem dX8_body_21 : decode cX8_body 21 = .ok (.iconst 0, 1) := by decide +kernel
theorem dX8_body_22 : decode cX8_body 22 = .ok (.iload_n 1, 1) := by decide +kernel
theorem dX8_body_23 : decode cX8_body 23 = .ok (.invokevirtual 89, 3) := by decide +kernel
theorem dX8_body_26 : decode cX8_body 26 = .ok (.goto 8, 3) := by decide +kernel
theorem dX8_body_29 : decode cX8_body 29 = .ok (.aload_n 0, 1) := by decide +kernel
theorem dX8_body_30 : decode cX8_body 30 = .ok (.iconst 2, 1) := by decide +kernel
theorem dX8_body_31 : decode cX8_body 31 = .ok (.invokevirtual 65, 3) := by decide +kernel
theorem dX8_body_34 : decode cX8_body 34 = .ok (.ireturn, 1) := by decide +kernel
theorem dX8_sheet_0 : decode cX8_sheet 0 = .ok (.aload_n 0, 1) := by decide +kernel
theorem dX8_sheet_1 : decode cX8_sheet 1 = .ok (.iload_n 1, 1) := by decide +kernel
theorem dX8_sheet_2 : decode cX8_sheet 2 = .ok (.invokevirtual 270, 3) := by decide +kernel
theorem dX8_sheet_5 : decode cX8_sheet 5 = .ok (.astore 4, 2) := by decide +kernel
theorem dX8_sheet_7 : decode cX8_sheet 7 = .ok (.aload 4, 2) := by decide +kernel
theorem dX8_sheet_9 : decode cX8_sheet 9 = .ok (.ifnull 25, 3) := by decide +kernel
theorem dX8_sheet_12 : decode cX8_sheet 12 = .ok (.iload_n 2, 1) := by decide +kernel
theorem dX8_sheet_13 : decode cX8_sheet 13 = .ok (.ifCond .eq 27, 3) := by decide +kernel
theorem dX8_sheet_16 : decode cX8_sheet 16 = .ok (.iload_n 2, 1) := by decide +kernel
theorem dX8_sheet_17 : decode cX8_sheet 17 = .ok (.bipush 8, 2) := by decide +kernel
theorem dX8_sheet_19 : decode cX8_sheet 19 = .ok (.if_icmp .eq 21, 3) := by decide +kernel
theorem dX8_sheet_22 : decode cX8_sheet 22 = .ok (.iload_n 2, 1) := by decide +kernel
theorem dX8_sheet_23 : decode cX8_sheet 23 = .ok (.bipush 16, 2) := by decide +kernel
theorem dX8_sheet_25 : decode cX8_sheet 25 = .ok (.if_icmp .eq 15, 3) := by decide +kernel
theorem dX8_sheet_28 : decode cX8_sheet 28 = .ok (.iload_n 2, 1) := by decide +kernel
theorem dX8_sheet_29 : decode cX8_sheet 29 = .ok (.bipush 32, 2) := by decide +kernel
theorem dX8_sheet_31 : decode cX8_sheet 31 = .ok (.if_icmp .eq 9, 3) := by decide +kernel
theorem dX8_sheet_34 : decode cX8_sheet 34 = .ok (.aload_n 0, 1) := by decide +kernel
theorem dX8_sheet_35 : decode cX8_sheet 35 = .ok (.iconst 1, 1) := by decide +kernel
theorem dX8_sheet_36 : decode cX8_sheet 36 = .ok (.invokevirtual 65, 3) := by decide +kernel
theorem dX8_sheet_39 : decode cX8_sheet 39 = .ok (.ireturn, 1) := by decide +kernel
theorem dX8_sheet_40 : decode cX8_sheet 40 = .ok (.iload_n 2, 1) := by decide +kernel
theorem dX8_sheet_41 : decode cX8_sheet 41 = .ok (.ifCond .eq 13, 3) := by decide +kernel
theorem dX8_sheet_44 : decode cX8_sheet 44 = .ok (.iload_n 3, 1) := by decide +kernel
theorem dX8_sheet_45 : decode cX8_sheet 45 = .ok (.ifCond .ge 9, 3) := by decide +kernel
theorem dX8_sheet_48 : decode cX8_sheet 48 = .ok (.aload_n 0, 1) := by decide +kernel
theorem dX8_sheet_49 : decode cX8_sheet 49 = .ok (.iconst 3, 1) := by decide +kernel
theorem dX8_sheet_50 : decode cX8_sheet 50 = .ok (.invokevirtual 65, 3) := by decide +kernel
theorem dX8_sheet_53 : decode cX8_sheet 53 = .ok (.ireturn, 1) := by decide +kernel
theorem dX8_sheet_54 : decode cX8_sheet 54 = .ok (.iload_n 2, 1) := by decide +kernel
theorem dX8_sheet_55 : decode cX8_sheet 55 = .ok (.ifCond .eq 15, 3) := by decide +kernel
theorem dX8_sheet_58 : decode cX8_sheet 58 = .ok (.iload_n 3, 1) := by decide +kernel
theorem dX8_sheet_59 : decode cX8_sheet 59 = .ok (.bipush 24, 2) := by decide +kernel
theorem dX8_sheet_61 : decode cX8_sheet 61 = .ok (.if_icmp .le 9, 3) := by decide +kernel
theorem dX8_sheet_64 : decode cX8_sheet 64 = .ok (.aload_n 0, 1) := by decide +kernel
theorem dX8_sheet_65 : decode cX8_sheet 65 = .ok (.iconst 1, 1) := by decide +kernel
theorem dX8_sheet_66 : decode cX8_sheet 66 = .ok (.invokevirtual 65, 3) := by decide +kernel
theorem dX8_sheet_69 : decode cX8_sheet 69 = .ok (.ireturn, 1) := by decide +kernel
theorem dX8_sheet_70 : decode cX8_sheet 70 = .ok (.aload 4, 2) := by decide +kernel
theorem dX8_sheet_72 : decode cX8_sheet 72 = .ok (.iload_n 2, 1) := by decide +kernel
theorem dX8_sheet_73 : decode cX8_sheet 73 = .ok (.iload_n 2, 1) := by decide +kernel
theorem dX8_sheet_74 : decode cX8_sheet 74 = .ok (.ifCond .ne 7, 3) := by decide +kernel
theorem dX8_sheet_77 : decode cX8_sheet 77 = .ok (.iconst 0, 1) := by decide +kernel
theorem dX8_sheet_78 : decode cX8_sheet 78 = .ok (.goto 4, 3) := by decide +kernel
theorem dX8_sheet_81 : decode cX8_sheet 81 = .ok (.iload_n 3, 1) := by decide +kernel
theorem dX8_sheet_82 : decode cX8_sheet 82 = .ok (.invokevirtual 274, 3) := by decide +kernel
theorem dX8_sheet_85 : decode cX8_sheet 85 = .ok (.iconst 1, 1) := by decide +kernel
theorem dX8_sheet_86 : decode cX8_sheet 86 = .ok (.ireturn, 1) := by decide +kernel
theorem dX8_put_0 : decode cX8_put 0 = .ok (.aload_n 0, 1) := by decide +kernel
theorem dX8_put_1 : decode cX8_put 1 = .ok (.iload_n 1, 1) := by decide +kernel
theorem dX8_put_2 : decode cX8_put 2 = .ok (.invokevirtual 270, 3) := by decide +kernel
theorem dX8_put_5 : decode cX8_put 5 = .ok (.astore 4, 2) := by decide +kernel
theorem dX8_put_7 : decode cX8_put 7 = .ok (.aload 4, 2) := by decide +kernel
theorem dX8_put_9 : decode cX8_put 9 = .ok (.ifnonnull 9, 3) := by decide +kernel
theorem dX8_put_12 : decode cX8_put 12 = .ok (.aload_n 0, 1) := by decide +kernel
theorem dX8_put_13 : decode cX8_put 13 = .ok (.iconst 1, 1) := by decide +kernel
theorem dX8_put_14 : decode cX8_put 14 = .ok (.invokevirtual 65, 3) := by decide +kernel
theorem dX8_put_17 : decode cX8_put 17 = .ok (.ireturn, 1) := by decide +kernel
theorem dX8_put_18 : decode cX8_put 18 = .ok (.aload 4, 2) := by decide +kernel
theorem dX8_put_20 : decode cX8_put 20 = .ok (.invokevirtual 278, 3) := by decide +kernel
theorem dX8_put_23 : decode cX8_put 23 = .ok (.ifCond .eq 9, 3) := by decide +kernel
theorem dX8_put_26 : decode cX8_put 26 = .ok (.aload_n 0, 1) := by decide +kernel
theorem dX8_put_27 : decode cX8_put 27 = .ok (.iconst 2, 1) := by decide +kernel
theorem dX8_put_28 : decode cX8_put 28 = .ok (.invokevirtual 65, 3) := by decide +kernel
theorem dX8_put_31 : decode cX8_put 31 = .ok (.ireturn, 1) := by decide +kernel
theorem dX8_put_32 : decode cX8_put 32 = .ok (.aload 4, 2) := by decide +kernel
theorem dX8_put_34 : decode cX8_put 34 = .ok (.iload_n 2, 1) := by decide +kernel
theorem dX8_put_35 : decode cX8_put 35 = .ok (.iconst 1, 1) := by decide +kernel
theorem dX8_put_36 : decode cX8_put 36 = .ok (.invokevirtual 281, 3) := by decide +kernel
theorem dX8_put_39 : decode cX8_put 39 = .ok (.ifCond .ne 9, 3) := by decide +kernel
theorem dX8_put_42 : decode cX8_put 42 = .ok (.aload_n 0, 1) := by decide +kernel
theorem dX8_put_43 : decode cX8_put 43 = .ok (.iconst 1, 1) := by decide +kernel
theorem dX8_put_44 : decode cX8_put 44 = .ok (.invokevirtual 65, 3) := by decide +kernel
theorem dX8_put_47 : decode cX8_put 47 = .ok (.ireturn, 1) := by decide +kernel
theorem dX8_put_48 : decode cX8_put 48 = .ok (.aload 4, 2) := by decide +kernel
theorem dX8_put_50 : decode cX8_put 50 = .ok (.iload_n 2, 1) := by decide +kernel
theorem dX8_put_51 : decode cX8_put 51 = .ok (.iload_n 3, 1) := by decide +kernel
theorem dX8_put_52 : decode cX8_put 52 = .ok (.invokevirtual 284, 3) := by decide +kernel
theorem dX8_put_55 : decode cX8_put 55 = .ok (.iconst 1, 1) := by decide +kernel
theorem dX8_put_56 : decode cX8_put 56 = .ok (.ireturn, 1) := by decide +kernel
theorem dX8_move_0 : decode cX8_move 0 = .ok (.aload_n 0, 1) := by decide +kernel
theorem dX8_move_1 : decode cX8_move 1 = .ok (.iload_n 1, 1) := by decide +kernel
theorem dX8_move_2 : decode cX8_move 2 = .ok (.invokevirtual 270, 3) := by decide +kernel
theorem dX8_move_5 : decode cX8_move 5 = .ok (.astore 6, 2) := by decide +kernel
theorem dX8_move_7 : decode cX8_move 7 = .ok (.aload_n 0, 1) := by decide +kernel
theorem dX8_move_8 : decode cX8_move 8 = .ok (.iload_n 3, 1) := by decide +kernel
theorem dX8_move_9 : decode cX8_move 9 = .ok (.invokevirtual 270, 3) := by decide +kernel
theorem dX8_move_12 : decode cX8_move 12 = .ok (.astore 7, 2) := by decide +kernel
theorem dX8_move_14 : decode cX8_move 14 = .ok (.aload 6, 2) := by decide +kernel
theorem dX8_move_16 : decode cX8_move 16 = .ok (.ifnull 8, 3) := by decide +kernel
theorem dX8_move_19 : decode cX8_move 19 = .ok (.aload 7, 2) := by decide +kernel
theorem dX8_move_21 : decode cX8_move 21 = .ok (.ifnonnull 9, 3) := by decide +kernel
theorem dX8_move_24 : decode cX8_move 24 = .ok (.aload_n 0, 1) := by decide +kernel
theorem dX8_move_25 : decode cX8_move 25 = .ok (.iconst 1, 1) := by decide +kernel
theorem dX8_move_26 : decode cX8_move 26 = .ok (.invokevirtual 65, 3) := by decide +kernel
theorem dX8_move_29 : decode cX8_move 29 = .ok (.ireturn, 1) := by decide +kernel
theorem dX8_move_30 : decode cX8_move 30 = .ok (.aload 6, 2) := by decide +kernel
theorem dX8_move_32 : decode cX8_move 32 = .ok (.invokevirtual 278, 3) := by decide +kernel
theorem dX8_move_35 : decode cX8_move 35 = .ok (.ifCond .ne 11, 3) := by decide +kernel
theorem dX8_move_38 : decode cX8_move 38 = .ok (.aload 7, 2) := by decide +kernel
theorem dX8_move_40 : decode cX8_move 40 = .ok (.invokevirtual 278, 3) := by decide +kernel
theorem dX8_move_43 : decode cX8_move 43 = .ok (.ifCond .eq 9, 3) := by decide +kernel
theorem dX8_move_46 : decode cX8_move 46 = .ok (.aload_n 0, 1) := by decide +kernel
theorem dX8_move_47 : decode cX8_move 47 = .ok (.iconst 2, 1) := by decide +kernel
theorem dX8_move_48 : decode cX8_move 48 = .ok (.invokevirtual 65, 3) := by decide +kernel
theorem dX8_move_51 : decode cX8_move 51 = .ok (.ireturn, 1) := by decide +kernel
theorem dX8_move_52 : decode cX8_move 52 = .ok (.aload 6, 2) := by decide +kernel
theorem dX8_move_54 : decode cX8_move 54 = .ok (.getfield 287, 3) := by decide +kernel
theorem dX8_move_57 : decode cX8_move 57 = .ok (.aload 7, 2) := by decide +kernel
theorem dX8_move_59 : decode cX8_move 59 = .ok (.getfield 287, 3) := by decide +kernel
theorem dX8_move_62 : decode cX8_move 62 = .ok (.if_icmp .eq 9, 3) := by decide +kernel
theorem dX8_move_65 : decode cX8_move 65 = .ok (.aload_n 0, 1) := by decide +kernel
theorem dX8_move_66 : decode cX8_move 66 = .ok (.iconst 5, 1) := by decide +kernel
theorem dX8_move_67 : decode cX8_move 67 = .ok (.invokevirtual 65, 3) := by decide +kernel
theorem dX8_move_70 : decode cX8_move 70 = .ok (.ireturn, 1) := by decide +kernel
theorem dX8_move_71 : decode cX8_move 71 = .ok (.aload 6, 2) := by decide +kernel
theorem dX8_move_73 : decode cX8_move 73 = .ok (.iload_n 2, 1) := by decide +kernel
theorem dX8_move_74 : decode cX8_move 74 = .ok (.iload 5, 2) := by decide +kernel
theorem dX8_move_76 : decode cX8_move 76 = .ok (.invokevirtual 281, 3) := by decide +kernel
theorem dX8_move_79 : decode cX8_move 79 = .ok (.ifCond .eq 15, 3) := by decide +kernel
theorem dX8_move_82 : decode cX8_move 82 = .ok (.aload 7, 2) := by decide +kernel
theorem dX8_move_84 : decode cX8_move 84 = .ok (.iload 4, 2) := by decide +kernel
theorem dX8_move_86 : decode cX8_move 86 = .ok (.iload 5, 2) := by decide +kernel
theorem dX8_move_88 : decode cX8_move 88 = .ok (.invokevirtual 281, 3) := by decide +kernel
theorem dX8_move_91 : decode cX8_move 91 = .ok (.ifCond .ne 9, 3) := by decide +kernel
theorem dX8_move_94 : decode cX8_move 94 = .ok (.aload_n 0, 1) := by decide +kernel
theorem dX8_move_95 : decode cX8_move 95 = .ok (.iconst 1, 1) := by decide +kernel
theorem dX8_move_96 : decode cX8_move 96 = .ok (.invokevirtual 65, 3) := by decide +kernel
theorem dX8_move_99 : decode cX8_move 99 = .ok (.ireturn, 1) := by decide +kernel
theorem dX8_move_100 : decode cX8_move 100 = .ok (.aload 6, 2) := by decide +kernel
theorem dX8_move_102 : decode cX8_move 102 = .ok (.getfield 290, 3) := by decide +kernel
theorem dX8_move_105 : decode cX8_move 105 = .ok (.iload_n 2, 1) := by decide +kernel
theorem dX8_move_106 : decode cX8_move 106 = .ok (.aload 7, 2) := by decide +kernel
theorem dX8_move_108 : decode cX8_move 108 = .ok (.getfield 290, 3) := by decide +kernel
theorem dX8_move_111 : decode cX8_move 111 = .ok (.iload 4, 2) := by decide +kernel
theorem dX8_move_113 : decode cX8_move 113 = .ok (.iload 5, 2) := by decide +kernel
theorem dX8_move_115 : decode cX8_move 115 = .ok (.invokestatic 293, 3) := by decide +kernel
theorem dX8_move_118 : decode cX8_move 118 = .ok (.iload 5, 2) := by decide +kernel
theorem dX8_move_120 : decode cX8_move 120 = .ok (.ireturn, 1) := by decide +kernel
theorem dX8_judge_0 : decode cX8_judge 0 = .ok (.aload_n 0, 1) := by decide +kernel
theorem dX8_judge_1 : decode cX8_judge 1 = .ok (.iload_n 1, 1) := by decide +kernel
theorem dX8_judge_2 : decode cX8_judge 2 = .ok (.invokevirtual 270, 3) := by decide +kernel
theorem dX8_judge_5 : decode cX8_judge 5 = .ok (.astore_n 3, 1) := by decide +kernel
theorem dX8_judge_6 : decode cX8_judge 6 = .ok (.aload_n 3, 1) := by decide +kernel
theorem dX8_judge_7 : decode cX8_judge 7 = .ok (.ifnull 14, 3) := by decide +kernel
theorem dX8_judge_10 : decode cX8_judge 10 = .ok (.iload_n 2, 1) := by decide +kernel
theorem dX8_judge_11 : decode cX8_judge 11 = .ok (.iconst 0, 1) := by decide +kernel
theorem dX8_judge_12 : decode cX8_judge 12 = .ok (.sipush 9999, 3) := by decide +kernel
theorem dX8_judge_15 : decode cX8_judge 15 = .ok (.invokestatic 61, 3) := by decide +kernel
theorem dX8_judge_18 : decode cX8_judge 18 = .ok (.ifCond .ne 9, 3) := by decide +kernel
theorem dX8_judge_21 : decode cX8_judge 21 = .ok (.aload_n 0, 1) := by decide +kernel
theorem dX8_judge_22 : decode cX8_judge 22 = .ok (.iconst 1, 1) := by decide +kernel
theorem dX8_judge_23 : decode cX8_judge 23 = .ok (.invokevirtual 65, 3) := by decide +kernel
theorem dX8_judge_26 : decode cX8_judge 26 = .ok (.ireturn, 1) := by decide +kernel
theorem dX8_judge_27 : decode cX8_judge 27 = .ok (.aload_n 3, 1) := by decide +kernel
theorem dX8_judge_28 : decode cX8_judge 28 = .ok (.invokevirtual 278, 3) := by decide +kernel
theorem dX8_judge_31 : decode cX8_judge 31 = .ok (.ifCond .eq 9, 3) := by decide +kernel
theorem dX8_judge_34 : decode cX8_judge 34 = .ok (.aload_n 0, 1) := by decide +kernel
theorem dX8_judge_35 : decode cX8_judge 35 = .ok (.iconst 2, 1) := by decide +kernel
theorem dX8_judge_36 : decode cX8_judge 36 = .ok (.invokevirtual 65, 3) := by decide +kernel
theorem dX8_judge_39 : decode cX8_judge 39 = .ok (.ireturn, 1) := by decide +kernel
theorem dX8_judge_40 : decode cX8_judge 40 = .ok (.aload_n 0, 1) := by decide +kernel
theorem dX8_judge_41 : decode cX8_judge 41 = .ok (.getfield 22, 3) := by decide +kernel
theorem dX8_judge_44 : decode cX8_judge 44 = .ok (.aload_n 0, 1) := by decide +kernel
theorem dX8_judge_45 : decode cX8_judge 45 = .ok (.getfield 10, 3) := by decide +kernel
theorem dX8_judge_48 : decode cX8_judge 48 = .ok (.iconst (-1), 1) := by decide +kernel
theorem dX8_judge_49 : decode cX8_judge 49 = .ok (.invokevirtual 101, 3) := by decide +kernel
theorem dX8_judge_52 : decode cX8_judge 52 = .ok (.iconst 0, 1) := by decide +kernel
theorem dX8_judge_53 : decode cX8_judge 53 = .ok (.istore 4, 2) := by decide +kernel
theorem dX8_judge_55 : decode cX8_judge 55 = .ok (.iload 4, 2) := by decide +kernel
theorem dX8_judge_57 : decode cX8_judge 57 = .ok (.aload_n 3, 1) := by decide +kernel
theorem dX8_judge_58 : decode cX8_judge 58 = .ok (.getfield 299, 3) := by decide +kernel
theorem dX8_judge_61 : decode cX8_judge 61 = .ok (.if_icmp .ge 60, 3) := by decide +kernel
theorem dX8_judge_64 : decode cX8_judge 64 = .ok (.iload 4, 2) := by decide +kernel
theorem dX8_judge_66 : decode cX8_judge 66 = .ok (.iconst 1, 1) := by decide +kernel
theorem dX8_judge_67 : decode cX8_judge 67 = .ok (.iadd, 1) := by decide +kernel
theorem dX8_judge_68 : decode cX8_judge 68 = .ok (.istore 5, 2) := by decide +kernel
theorem dX8_judge_70 : decode cX8_judge 70 = .ok (.iload 5, 2) := by decide +kernel
theorem dX8_judge_72 : decode cX8_judge 72 = .ok (.aload_n 0, 1) := by decide +kernel
theorem dX8_judge_73 : decode cX8_judge 73 = .ok (.getfield 10, 3) := by decide +kernel
theorem dX8_judge_76 : decode cX8_judge 76 = .ok (.getfield 69, 3) := by decide +kernel
theorem dX8_judge_79 : decode cX8_judge 79 = .ok (.invokevirtual 73, 3) := by decide +kernel
theorem dX8_judge_82 : decode cX8_judge 82 = .ok (.if_icmp .gt 30, 3) := by decide +kernel
theorem dX8_judge_85 : decode cX8_judge 85 = .ok (.aload_n 3, 1) := by decide +kernel
theorem dX8_judge_86 : decode cX8_judge 86 = .ok (.iload 4, 2) := by decide +kernel
theorem dX8_judge_88 : decode cX8_judge 88 = .ok (.invokevirtual 302, 3) := by decide +kernel
theorem dX8_judge_91 : decode cX8_judge 91 = .ok (.i2l, 1) := by decide +kernel
theorem dX8_judge_92 : decode cX8_judge 92 = .ok (.aload_n 0, 1) := by decide +kernel
theorem dX8_judge_93 : decode cX8_judge 93 = .ok (.getfield 22, 3) := by decide +kernel
theorem dX8_judge_96 : decode cX8_judge 96 = .ok (.iload 5, 2) := by decide +kernel
theorem dX8_judge_98 : decode cX8_judge 98 = .ok (.invokevirtual 186, 3) := by decide +kernel
theorem dX8_judge_101 : decode cX8_judge 101 = .ok (.i2l, 1) := by decide +kernel
theorem dX8_judge_102 : decode cX8_judge 102 = .ok (.lsub, 1) := by decide +kernel
theorem dX8_judge_103 : decode cX8_judge 103 = .ok (.invokestatic 238, 3) := by decide +kernel
theorem dX8_judge_106 : decode cX8_judge 106 = .ok (.iload_n 2, 1) := by decide +kernel
theorem dX8_judge_107 : decode cX8_judge 107 = .ok (.i2l, 1) := by decide +kernel
theorem dX8_judge_108 : decode cX8_judge 108 = .ok (.lcmp, 1) := by decide +kernel
theorem dX8_judge_109 : decode cX8_judge 109 = .ok (.ifCond .le 6, 3) := by decide +kernel
theorem dX8_judge_112 : decode cX8_judge 112 = .ok (.iload 5, 2) := by decide +kernel
theorem dX8_judge_114 : decode cX8_judge 114 = .ok (.ireturn, 1) := by decide +kernel
theorem dX8_judge_115 : decode cX8_judge 115 = .ok (.iinc 4 1, 3) := by decide +kernel
theorem dX8_judge_118 : decode cX8_judge 118 = .ok (.goto (-63), 3) := by decide +kernel
theorem dX8_judge_121 : decode cX8_judge 121 = .ok (.iconst 0, 1) := by decide +kernel
theorem dX8_judge_122 : decode cX8_judge 122 = .ok (.ireturn, 1) := by decide +kernel
theorem dX8_even_0 : decode cX8_even 0 = .ok (.aload_n 0, 1) := by decide +kernel
theorem dX8_even_1 : decode cX8_even 1 = .ok (.iload_n 1, 1) := by decide +kernel
theorem dX8_even_2 : decode cX8_even 2 = .ok (.invokevirtual 270, 3) := by decide +kernel
theorem dX8_even_5 : decode cX8_even 5 = .ok (.astore_n 3, 1) := by decide +kernel
theorem dX8_even_6 : decode cX8_even 6 = .ok (.aload_n 3, 1) := by decide +kernel
theorem dX8_even_7 : decode cX8_even 7 = .ok (.ifnull 12, 3) := by decide +kernel
theorem dX8_even_10 : decode cX8_even 10 = .ok (.iload_n 2, 1) := by decide +kernel
theorem dX8_even_11 : decode cX8_even 11 = .ok (.iconst 0, 1) := by decide +kernel
theorem dX8_even_12 : decode cX8_even 12 = .ok (.iconst 1, 1) := by decide +kernel
theorem dX8_even_13 : decode cX8_even 13 = .ok (.invokestatic 61, 3) := by decide +kernel
theorem dX8_even_16 : decode cX8_even 16 = .ok (.ifCond .ne 9, 3) := by decide +kernel
theorem dX8_even_19 : decode cX8_even 19 = .ok (.aload_n 0, 1) := by decide +kernel
theorem dX8_even_20 : decode cX8_even 20 = .ok (.iconst 1, 1) := by decide +kernel
theorem dX8_even_21 : decode cX8_even 21 = .ok (.invokevirtual 65, 3) := by decide +kernel
theorem dX8_even_24 : decode cX8_even 24 = .ok (.ireturn, 1) := by decide +kernel
theorem dX8_even_25 : decode cX8_even 25 = .ok (.aload_n 3, 1) := by decide +kernel
theorem dX8_even_26 : decode cX8_even 26 = .ok (.invokevirtual 278, 3) := by decide +kernel
theorem dX8_even_29 : decode cX8_even 29 = .ok (.ifCond .eq 9, 3) := by decide +kernel
theorem dX8_even_32 : decode cX8_even 32 = .ok (.aload_n 0, 1) := by decide +kernel
theorem dX8_even_33 : decode cX8_even 33 = .ok (.iconst 2, 1) := by decide +kernel
theorem dX8_even_34 : decode cX8_even 34 = .ok (.invokevirtual 65, 3) := by decide +kernel
theorem dX8_even_37 : decode cX8_even 37 = .ok (.ireturn, 1) := by decide +kernel
theorem dX8_even_38 : decode cX8_even 38 = .ok (.iload_n 2, 1) := by decide +kernel
theorem dX8_even_39 : decode cX8_even 39 = .ok (.ifCond .ne 8, 3) := by decide +kernel
theorem dX8_even_42 : decode cX8_even 42 = .ok (.aload_n 3, 1) := by decide +kernel
theorem dX8_even_43 : decode cX8_even 43 = .ok (.invokevirtual 305, 3) := by decide +kernel
theorem dX8_even_46 : decode cX8_even 46 = .ok (.ireturn, 1) := by decide +kernel
theorem dX8_even_47 : decode cX8_even 47 = .ok (.aload_n 3, 1) := by decide +kernel
theorem dX8_even_48 : decode cX8_even 48 = .ok (.invokevirtual 308, 3) := by decide +kernel
theorem dX8_even_51 : decode cX8_even 51 = .ok (.iconst 3, 1) := by decide +kernel
theorem dX8_even_52 : decode cX8_even 52 = .ok (.if_icmp .lt 7, 3) := by decide +kernel
theorem dX8_even_55 : decode cX8_even 55 = .ok (.iconst 1, 1) := by decide +kernel
theorem dX8_even_56 : decode cX8_even 56 = .ok (.goto 4, 3) := by decide +kernel
theorem dX8_even_59 : decode cX8_even 59 = .ok (.iconst 0, 1) := by decide +kernel
theorem dX8_even_60 : decode cX8_even 60 = .ok (.ireturn, 1) := by decide +kernel
theorem dX8_image_0 : decode cX8_image 0 = .ok (.aload_n 0, 1) := by decide +kernel
theorem dX8_image_1 : decode cX8_image 1 = .ok (.getfield 16, 3) := by decide +kernel
theorem dX8_image_4 : decode cX8_image 4 = .ok (.aload_n 0, 1) := by decide +kernel
theorem dX8_image_5 : decode cX8_image 5 = .ok (.getfield 10, 3) := by decide +kernel
theorem dX8_image_8 : decode cX8_image 8 = .ok (.invokevirtual 311, 3) := by decide +kernel
theorem dX8_image_11 : decode cX8_image 11 = .ok (.aload_n 0, 1) := by decide +kernel
theorem dX8_image_12 : decode cX8_image 12 = .ok (.dup, 1) := by decide +kernel
theorem dX8_image_13 : decode cX8_image 13 = .ok (.getfield 56, 3) := by decide +kernel
theorem dX8_image_16 : decode cX8_image 16 = .ok (.iconst 1, 1) := by decide +kernel
theorem dX8_image_17 : decode cX8_image 17 = .ok (.iadd, 1) := by decide +kernel
theorem dX8_image_18 : decode cX8_image 18 = .ok (.putfield 56, 3) := by decide +kernel
theorem dX8_image_21 : decode cX8_image 21 = .ok (.aload_n 0, 1) := by decide +kernel
theorem dX8_image_22 : decode cX8_image 22 = .ok (.getfield 56, 3) := by decide +kernel
theorem dX8_image_25 : decode cX8_image 25 = .ok (.ireturn, 1) := by decide +kernel
theorem dX8_restore_0 : decode cX8_restore 0 = .ok (.aload_n 0, 1) := by decide +kernel
theorem dX8_restore_1 : decode cX8_restore 1 = .ok (.getfield 56, 3) := by decide +kernel
theorem dX8_restore_4 : decode cX8_restore 4 = .ok (.ifCond .ne 9, 3) := by decide +kernel
theorem dX8_restore_7 : decode cX8_restore 7 = .ok (.aload_n 0, 1) := by decide +kernel
theorem dX8_restore_8 : decode cX8_restore 8 = .ok (.iconst 2, 1) := by decide +kernel
theorem dX8_restore_9 : decode cX8_restore 9 = .ok (.invokevirtual 65, 3) := by decide +kernel
theorem dX8_restore_12 : decode cX8_restore 12 = .ok (.ireturn, 1) := by decide +kernel
theorem dX8_restore_13 : decode cX8_restore 13 = .ok (.aload_n 0, 1) := by decide +kernel
theorem dX8_restore_14 : decode cX8_restore 14 = .ok (.getfield 10, 3) := by decide +kernel
theorem dX8_restore_17 : decode cX8_restore 17 = .ok (.aload_n 0, 1) := by decide +kernel
theorem dX8_restore_18 : decode cX8_restore 18 = .ok (.getfield 16, 3) := by decide +kernel
theorem dX8_restore_21 : decode cX8_restore 21 = .ok (.invokevirtual 311, 3) := by decide +kernel
theorem dX8_restore_24 : decode cX8_restore 24 = .ok (.aload_n 0, 1) := by decide +kernel
theorem dX8_restore_25 : decode cX8_restore 25 = .ok (.getfield 10, 3) := by decide +kernel
theorem dX8_restore_28 : decode cX8_restore 28 = .ok (.getfield 69, 3) := by decide +kernel
theorem dX8_restore_31 : decode cX8_restore 31 = .ok (.invokevirtual 73, 3) := by decide +kernel
theorem dX8_restore_34 : decode cX8_restore 34 = .ok (.ireturn, 1) := by decide +kernel
theorem dX8_tell_0 : decode cX8_tell 0 = .ok (.aload_n 0, 1) := by decide +kernel
theorem dX8_tell_1 : decode cX8_tell 1 = .ok (.getfield 10, 3) := by decide +kernel
theorem dX8_tell_4 : decode cX8_tell 4 = .ok (.getfield 314, 3) := by decide +kernel
theorem dX8_tell_7 : decode cX8_tell 7 = .ok (.invokevirtual 253, 3) := by decide +kernel
theorem dX8_tell_10 : decode cX8_tell 10 = .ok (.ifCond .eq 9, 3) := by decide +kernel
theorem dX8_tell_13 : decode cX8_tell 13 = .ok (.aload_n 0, 1) := by decide +kernel
theorem dX8_tell_14 : decode cX8_tell 14 = .ok (.iconst 4, 1) := by decide +kernel
theorem dX8_tell_15 : decode cX8_tell 15 = .ok (.invokevirtual 65, 3) := by decide +kernel
theorem dX8_tell_18 : decode cX8_tell 18 = .ok (.ireturn, 1) := by decide +kernel
theorem dX8_tell_19 : decode cX8_tell 19 = .ok (.aload_n 0, 1) := by decide +kernel
theorem dX8_tell_20 : decode cX8_tell 20 = .ok (.getfield 10, 3) := by decide +kernel
theorem dX8_tell_23 : decode cX8_tell 23 = .ok (.getfield 314, 3) := by decide +kernel
theorem dX8_tell_26 : decode cX8_tell 26 = .ok (.iload_n 1, 1) := by decide +kernel
theorem dX8_tell_27 : decode cX8_tell 27 = .ok (.invokevirtual 157, 3) := by decide +kernel
theorem dX8_tell_30 : decode cX8_tell 30 = .ok (.pop, 1) := by decide +kernel
theorem dX8_tell_31 : decode cX8_tell 31 = .ok (.aload_n 0, 1) := by decide +kernel
theorem dX8_tell_32 : decode cX8_tell 32 = .ok (.getfield 10, 3) := by decide +kernel
theorem dX8_tell_35 : decode cX8_tell 35 = .ok (.getfield 314, 3) := by decide +kernel
theorem dX8_tell_38 : decode cX8_tell 38 = .ok (.invokevirtual 73, 3) := by decide +kernel
theorem dX8_tell_41 : decode cX8_tell 41 = .ok (.ireturn, 1) := by decide +kernel
theorem dX8_check_0 : decode cX8_check 0 = .ok (.aload_n 0, 1) := by decide +kernel
theorem dX8_check_1 : decode cX8_check 1 = .ok (.getfield 22, 3) := by decide +kernel
theorem dX8_check_4 : decode cX8_check 4 = .ok (.aload_n 0, 1) := by decide +kernel
theorem dX8_check_5 : decode cX8_check 5 = .ok (.getfield 10, 3) := by decide +kernel
theorem dX8_check_8 : decode cX8_check 8 = .ok (.iconst (-1), 1) := by decide +kernel
theorem dX8_check_9 : decode cX8_check 9 = .ok (.invokevirtual 101, 3) := by decide +kernel
theorem dX8_check_12 : decode cX8_check 12 = .ok (.aload_n 0, 1) := by decide +kernel
theorem dX8_check_13 : decode cX8_check 13 = .ok (.getfield 10, 3) := by decide +kernel
theorem dX8_check_16 : decode cX8_check 16 = .ok (.getfield 314, 3) := by decide +kernel
theorem dX8_check_19 : decode cX8_check 19 = .ok (.invokevirtual 73, 3) := by decide +kernel
theorem dX8_check_22 : decode cX8_check 22 = .ok (.istore_n 1, 1) := by decide +kernel
theorem dX8_check_23 : decode cX8_check 23 = .ok (.aload_n 0, 1) := by decide +kernel
theorem dX8_check_24 : decode cX8_check 24 = .ok (.getfield 10, 3) := by decide +kernel
theorem dX8_check_27 : decode cX8_check 27 = .ok (.getfield 69, 3) := by decide +kernel
theorem dX8_check_30 : decode cX8_check 30 = .ok (.invokevirtual 73, 3) := by decide +kernel
theorem dX8_check_33 : decode cX8_check 33 = .ok (.istore_n 2, 1) := by decide +kernel
theorem dX8_check_34 : decode cX8_check 34 = .ok (.aload_n 0, 1) := by decide +kernel
theorem dX8_check_35 : decode cX8_check 35 = .ok (.getfield 10, 3) := by decide +kernel
theorem dX8_check_38 : decode cX8_check 38 = .ok (.getfield 314, 3) := by decide +kernel
theorem dX8_check_41 : decode cX8_check 41 = .ok (.iconst 0, 1) := by decide +kernel
theorem dX8_check_42 : decode cX8_check 42 = .ok (.invokevirtual 79, 3) := by decide +kernel
theorem dX8_check_45 : decode cX8_check 45 = .ok (.iconst 0, 1) := by decide +kernel
theorem dX8_check_46 : decode cX8_check 46 = .ok (.istore_n 3, 1) := by decide +kernel
theorem dX8_check_47 : decode cX8_check 47 = .ok (.iload_n 3, 1) := by decide +kernel
theorem dX8_check_48 : decode cX8_check 48 = .ok (.iload_n 1, 1) := by decide +kernel
theorem dX8_check_49 : decode cX8_check 49 = .ok (.if_icmp .ge 43, 3) := by decide +kernel
theorem dX8_check_52 : decode cX8_check 52 = .ok (.iload_n 3, 1) := by decide +kernel
theorem dX8_check_53 : decode cX8_check 53 = .ok (.iload_n 2, 1) := by decide +kernel
theorem dX8_check_54 : decode cX8_check 54 = .ok (.if_icmp .ge 38, 3) := by decide +kernel
theorem dX8_check_57 : decode cX8_check 57 = .ok (.aload_n 0, 1) := by decide +kernel
theorem dX8_check_58 : decode cX8_check 58 = .ok (.getfield 10, 3) := by decide +kernel
theorem dX8_check_61 : decode cX8_check 61 = .ok (.getfield 314, 3) := by decide +kernel
theorem dX8_check_64 : decode cX8_check 64 = .ok (.iconst 0, 1) := by decide +kernel
theorem dX8_check_65 : decode cX8_check 65 = .ok (.iload_n 3, 1) := by decide +kernel
theorem dX8_check_66 : decode cX8_check 66 = .ok (.invokevirtual 89, 3) := by decide +kernel
theorem dX8_check_69 : decode cX8_check 69 = .ok (.aload_n 0, 1) := by decide +kernel
theorem dX8_check_70 : decode cX8_check 70 = .ok (.getfield 22, 3) := by decide +kernel
theorem dX8_check_73 : decode cX8_check 73 = .ok (.iload_n 3, 1) := by decide +kernel
theorem dX8_check_74 : decode cX8_check 74 = .ok (.iconst 1, 1) := by decide +kernel
theorem dX8_check_75 : decode cX8_check 75 = .ok (.iadd, 1) := by decide +kernel
theorem dX8_check_76 : decode cX8_check 76 = .ok (.invokevirtual 186, 3) := by decide +kernel
theorem dX8_check_79 : decode cX8_check 79 = .ok (.if_icmp .eq 7, 3) := by decide +kernel
theorem dX8_check_82 : decode cX8_check 82 = .ok (.iconst 1, 1) := by decide +kernel
theorem dX8_check_83 : decode cX8_check 83 = .ok (.iload_n 3, 1) := by decide +kernel
theorem dX8_check_84 : decode cX8_check 84 = .ok (.iadd, 1) := by decide +kernel
theorem dX8_check_85 : decode cX8_check 85 = .ok (.ireturn, 1) := by decide +kernel
theorem dX8_check_86 : decode cX8_check 86 = .ok (.iinc 3 1, 3) := by decide +kernel
theorem dX8_check_89 : decode cX8_check 89 = .ok (.goto (-42), 3) := by decide +kernel
theorem dX8_check_92 : decode cX8_check 92 = .ok (.iload_n 1, 1) := by decide +kernel
theorem dX8_check_93 : decode cX8_check 93 = .ok (.iload_n 2, 1) := by decide +kernel
theorem dX8_check_94 : decode cX8_check 94 = .ok (.if_icmp .ne 7, 3) := by decide +kernel
theorem dX8_check_97 : decode cX8_check 97 = .ok (.iconst 0, 1) := by decide +kernel
theorem dX8_check_98 : decode cX8_check 98 = .ok (.goto 10, 3) := by decide +kernel
theorem dX8_check_101 : decode cX8_check 101 = .ok (.iconst 1, 1) := by decide +kernel
theorem dX8_check_102 : decode cX8_check 102 = .ok (.iload_n 1, 1) := by decide +kernel
theorem dX8_check_103 : decode cX8_check 103 = .ok (.iload_n 2, 1) := by decide +kernel
theorem dX8_check_104 : decode cX8_check 104 = .ok (.invokestatic 317, 3) := by decide +kernel
theorem dX8_check_107 : decode cX8_check 107 = .ok (.iadd, 1) := by decide +kernel
theorem dX8_check_108 : decode cX8_check 108 = .ok (.ireturn, 1) := by decide +kernel
theorem dX8_count_0 : decode cX8_count 0 = .ok (.iload_n 1, 1) := by decide +kernel
theorem dX8_count_1 : decode cX8_count 1 = .ok (.tableswitch 134 0 7 #[47, 58, 69, 80, 93, 104, 115, 126], 47) := by decide +kernel
theorem dX8_count_48 : decode cX8_count 48 = .ok (.aload_n 0, 1) := by decide +kernel
theorem dX8_count_49 : decode cX8_count 49 = .ok (.getfield 10, 3) := by decide +kernel
theorem dX8_count_52 : decode cX8_count 52 = .ok (.getfield 69, 3) := by decide +kernel
theorem dX8_count_55 : decode cX8_count 55 = .ok (.invokevirtual 73, 3) := by decide +kernel
theorem dX8_count_58 : decode cX8_count 58 = .ok (.ireturn, 1) := by decide +kernel
theorem dX8_count_59 : decode cX8_count 59 = .ok (.aload_n 0, 1) := by decide +kernel
theorem dX8_count_60 : decode cX8_count 60 = .ok (.getfield 10, 3) := by decide +kernel
theorem dX8_count_63 : decode cX8_count 63 = .ok (.getfield 124, 3) := by decide +kernel
theorem dX8_count_66 : decode cX8_count 66 = .ok (.invokevirtual 216, 3) := by decide +kernel
theorem dX8_count_69 : decode cX8_count 69 = .ok (.ireturn, 1) := by decide +kernel
theorem dX8_count_70 : decode cX8_count 70 = .ok (.aload_n 0, 1) := by decide +kernel
theorem dX8_count_71 : decode cX8_count 71 = .ok (.getfield 10, 3) := by decide +kernel
theorem dX8_count_74 : decode cX8_count 74 = .ok (.getfield 204, 3) := by decide +kernel
theorem dX8_count_77 : decode cX8_count 77 = .ok (.invokevirtual 73, 3) := by decide +kernel
theorem dX8_count_80 : decode cX8_count 80 = .ok (.ireturn, 1) := by decide +kernel
theorem dX8_count_81 : decode cX8_count 81 = .ok (.aload_n 0, 1) := by decide +kernel
theorem dX8_count_82 : decode cX8_count 82 = .ok (.getfield 10, 3) := by decide +kernel
theorem dX8_count_85 : decode cX8_count 85 = .ok (.getfield 69, 3) := by decide +kernel
theorem dX8_count_88 : decode cX8_count 88 = .ok (.iconst 3, 1) := by decide +kernel
theorem dX8_count_89 : decode cX8_count 89 = .ok (.iconst 1, 1) := by decide +kernel
theorem dX8_count_90 : decode cX8_count 90 = .ok (.invokevirtual 207, 3) := by decide +kernel
theorem dX8_count_93 : decode cX8_count 93 = .ok (.ireturn, 1) := by decide +kernel
theorem dX8_count_94 : decode cX8_count 94 = .ok (.aload_n 0, 1) := by decide +kernel
theorem dX8_count_95 : decode cX8_count 95 = .ok (.getfield 10, 3) := by decide +kernel
theorem dX8_count_98 : decode cX8_count 98 = .ok (.getfield 154, 3) := by decide +kernel
theorem dX8_count_101 : decode cX8_count 101 = .ok (.invokevirtual 73, 3) := by decide +kernel
theorem dX8_count_104 : decode cX8_count 104 = .ok (.ireturn, 1) := by decide +kernel
theorem dX8_count_105 : decode cX8_count 105 = .ok (.aload_n 0, 1) := by decide +kernel
theorem dX8_count_106 : decode cX8_count 106 = .ok (.getfield 10, 3) := by decide +kernel
theorem dX8_count_109 : decode cX8_count 109 = .ok (.getfield 314, 3) := by decide +kernel
theorem dX8_count_112 : decode cX8_count 112 = .ok (.invokevirtual 73, 3) := by decide +kernel
theorem dX8_count_115 : decode cX8_count 115 = .ok (.ireturn, 1) := by decide +kernel
theorem dX8_count_116 : decode cX8_count 116 = .ok (.aload_n 0, 1) := by decide +kernel
theorem dX8_count_117 : decode cX8_count 117 = .ok (.getfield 36, 3) := by decide +kernel
theorem dX8_count_120 : decode cX8_count 120 = .ok (.getfield 267, 3) := by decide +kernel
theorem dX8_count_123 : decode cX8_count 123 = .ok (.invokevirtual 73, 3) := by decide +kernel
theorem dX8_count_126 : decode cX8_count 126 = .ok (.ireturn, 1) := by decide +kernel
theorem dX8_count_127 : decode cX8_count 127 = .ok (.aload_n 0, 1) := by decide +kernel
theorem dX8_count_128 : decode cX8_count 128 = .ok (.getfield 10, 3) := by decide +kernel
theorem dX8_count_131 : decode cX8_count 131 = .ok (.getfield 257, 3) := by decide +kernel
theorem dX8_count_134 : decode cX8_count 134 = .ok (.ireturn, 1) := by decide +kernel
theorem dX8_count_135 : decode cX8_count 135 = .ok (.aload_n 0, 1) := by decide +kernel
theorem dX8_count_136 : decode cX8_count 136 = .ok (.iconst 1, 1) := by decide +kernel
theorem dX8_count_137 : decode cX8_count 137 = .ok (.invokevirtual 65, 3) := by decide +kernel
theorem dX8_count_140 : decode cX8_count 140 = .ok (.ireturn, 1) := by decide +kernel
theorem dX8_told_0 : decode cX8_told 0 = .ok (.iload_n 1, 1) := by decide +kernel
theorem dX8_told_1 : decode cX8_told 1 = .ok (.iconst 1, 1) := by decide +kernel
theorem dX8_told_2 : decode cX8_told 2 = .ok (.bipush 6, 2) := by decide +kernel
theorem dX8_told_4 : decode cX8_told 4 = .ok (.invokestatic 61, 3) := by decide +kernel
theorem dX8_told_7 : decode cX8_told 7 = .ok (.ifCond .eq 12, 3) := by decide +kernel
theorem dX8_told_10 : decode cX8_told 10 = .ok (.aload_n 0, 1) := by decide +kernel
theorem dX8_told_11 : decode cX8_told 11 = .ok (.getfield 46, 3) := by decide +kernel
theorem dX8_told_14 : decode cX8_told 14 = .ok (.iload_n 1, 1) := by decide +kernel
theorem dX8_told_15 : decode cX8_told 15 = .ok (.iaload, 1) := by decide +kernel
theorem dX8_told_16 : decode cX8_told 16 = .ok (.goto 8, 3) := by decide +kernel
theorem dX8_told_19 : decode cX8_told 19 = .ok (.aload_n 0, 1) := by decide +kernel
theorem dX8_told_20 : decode cX8_told 20 = .ok (.iconst 1, 1) := by decide +kernel
theorem dX8_told_21 : decode cX8_told 21 = .ok (.invokevirtual 65, 3) := by decide +kernel
theorem dX8_told_24 : decode cX8_told 24 = .ok (.ireturn, 1) := by decide +kernel
theorem dX8_fail_0 : decode cX8_fail 0 = .ok (.iload_n 1, 1) := by decide +kernel
theorem dX8_fail_1 : decode cX8_fail 1 = .ok (.iconst 1, 1) := by decide +kernel
theorem dX8_fail_2 : decode cX8_fail 2 = .ok (.bipush 6, 2) := by decide +kernel
theorem dX8_fail_4 : decode cX8_fail 4 = .ok (.invokestatic 61, 3) := by decide +kernel
theorem dX8_fail_7 : decode cX8_fail 7 = .ok (.ifCond .eq 13, 3) := by decide +kernel
theorem dX8_fail_10 : decode cX8_fail 10 = .ok (.aload_n 0, 1) := by decide +kernel
theorem dX8_fail_11 : decode cX8_fail 11 = .ok (.getfield 46, 3) := by decide +kernel
theorem dX8_fail_14 : decode cX8_fail 14 = .ok (.iload_n 1, 1) := by decide +kernel
theorem dX8_fail_15 : decode cX8_fail 15 = .ok (.dup2, 1) := by decide +kernel
theorem dX8_fail_16 : decode cX8_fail 16 = .ok (.iaload, 1) := by decide +kernel
theorem dX8_fail_17 : decode cX8_fail 17 = .ok (.iconst 1, 1) := by decide +kernel
theorem dX8_fail_18 : decode cX8_fail 18 = .ok (.iadd, 1) := by decide +kernel
theorem dX8_fail_19 : decode cX8_fail 19 = .ok (.iastore, 1) := by decide +kernel
theorem dX8_fail_20 : decode cX8_fail 20 = .ok (.ldc_w 320, 3) := by decide +kernel
theorem dX8_fail_23 : decode cX8_fail 23 = .ok (.iload_n 1, 1) := by decide +kernel
theorem dX8_fail_24 : decode cX8_fail 24 = .ok (.isub, 1) := by decide +kernel
theorem dX8_fail_25 : decode cX8_fail 25 = .ok (.ireturn, 1) := by decide +kernel
theorem dX8_lawOf_0 : decode cX8_lawOf 0 = .ok (.iload_n 1, 1) := by decide +kernel
theorem dX8_lawOf_1 : decode cX8_lawOf 1 = .ok (.ifCond .ne 13, 3) := by decide +kernel
theorem dX8_lawOf_4 : decode cX8_lawOf 4 = .ok (.aload_n 0, 1) := by decide +kernel
theorem dX8_lawOf_5 : decode cX8_lawOf 5 = .ok (.getfield 10, 3) := by decide +kernel
theorem dX8_lawOf_8 : decode cX8_lawOf 8 = .ok (.getfield 321, 3) := by decide +kernel
theorem dX8_lawOf_11 : decode cX8_lawOf 11 = .ok (.goto 10, 3) := by decide +kernel
theorem dX8_lawOf_14 : decode cX8_lawOf 14 = .ok (.aload_n 0, 1) := by decide +kernel
theorem dX8_lawOf_15 : decode cX8_lawOf 15 = .ok (.getfield 10, 3) := by decide +kernel
theorem dX8_lawOf_18 : decode cX8_lawOf 18 = .ok (.getfield 324, 3) := by decide +kernel
theorem dX8_lawOf_21 : decode cX8_lawOf 21 = .ok (.areturn, 1) := by decide +kernel
theorem dX8_sheetOf_0 : decode cX8_sheetOf 0 = .ok (.iload_n 1, 1) := by decide +kernel
theorem dX8_sheetOf_1 : decode cX8_sheetOf 1 = .ok (.iconst 0, 1) := by decide +kernel
theorem dX8_sheetOf_2 : decode cX8_sheetOf 2 = .ok (.iconst 3, 1) := by decide +kernel
theorem dX8_sheetOf_3 : decode cX8_sheetOf 3 = .ok (.invokestatic 61, 3) := by decide +kernel
theorem dX8_sheetOf_6 : decode cX8_sheetOf 6 = .ok (.ifCond .eq 12, 3) := by decide +kernel
theorem dX8_sheetOf_9 : decode cX8_sheetOf 9 = .ok (.aload_n 0, 1) := by decide +kernel
theorem dX8_sheetOf_10 : decode cX8_sheetOf 10 = .ok (.getfield 42, 3) := by decide +kernel
theorem dX8_sheetOf_13 : decode cX8_sheetOf 13 = .ok (.iload_n 1, 1) := by decide +kernel
theorem dX8_sheetOf_14 : decode cX8_sheetOf 14 = .ok (.aaload, 1) := by decide +kernel
theorem dX8_sheetOf_15 : decode cX8_sheetOf 15 = .ok (.goto 4, 3) := by decide +kernel
theorem dX8_sheetOf_18 : decode cX8_sheetOf 18 = .ok (.aconst_null, 1) := by decide +kernel
theorem dX8_sheetOf_19 : decode cX8_sheetOf 19 = .ok (.areturn, 1) := by decide +kernel
theorem dX8_movingOf_0 : decode cX8_movingOf 0 = .ok (.aload_n 0, 1) := by decide +kernel
theorem dX8_movingOf_1 : decode cX8_movingOf 1 = .ok (.getfield 10, 3) := by decide +kernel
theorem dX8_movingOf_4 : decode cX8_movingOf 4 = .ok (.getfield 69, 3) := by decide +kernel
theorem dX8_movingOf_7 : decode cX8_movingOf 7 = .ok (.invokevirtual 73, 3) := by decide +kernel
theorem dX8_movingOf_10 : decode cX8_movingOf 10 = .ok (.istore_n 2, 1) := by decide +kernel
theorem dX8_movingOf_11 : decode cX8_movingOf 11 = .ok (.aload_n 0, 1) := by decide +kernel
theorem dX8_movingOf_12 : decode cX8_movingOf 12 = .ok (.getfield 10, 3) := by decide +kernel
theorem dX8_movingOf_15 : decode cX8_movingOf 15 = .ok (.getfield 321, 3) := by decide +kernel
theorem dX8_movingOf_18 : decode cX8_movingOf 18 = .ok (.invokevirtual 180, 3) := by decide +kernel
theorem dX8_movingOf_21 : decode cX8_movingOf 21 = .ok (.ifCond .ne 18, 3) := by decide +kernel
theorem dX8_movingOf_24 : decode cX8_movingOf 24 = .ok (.iload_n 2, 1) := by decide +kernel
theorem dX8_movingOf_25 : decode cX8_movingOf 25 = .ok (.ifCond .le 12, 3) := by decide +kernel
theorem dX8_movingOf_28 : decode cX8_movingOf 28 = .ok (.bipush 100, 2) := by decide +kernel
theorem dX8_movingOf_30 : decode cX8_movingOf 30 = .ok (.iload_n 1, 1) := by decide +kernel
theorem dX8_movingOf_31 : decode cX8_movingOf 31 = .ok (.imul, 1) := by decide +kernel
theorem dX8_movingOf_32 : decode cX8_movingOf 32 = .ok (.iload_n 2, 1) := by decide +kernel
theorem dX8_movingOf_33 : decode cX8_movingOf 33 = .ok (.idiv, 1) := by decide +kernel
theorem dX8_movingOf_34 : decode cX8_movingOf 34 = .ok (.goto 4, 3) := by decide +kernel
theorem dX8_movingOf_37 : decode cX8_movingOf 37 = .ok (.iconst 0, 1) := by decide +kernel
theorem dX8_movingOf_38 : decode cX8_movingOf 38 = .ok (.ireturn, 1) := by decide +kernel
theorem dX8_movingOf_39 : decode cX8_movingOf 39 = .ok (.aload_n 0, 1) := by decide +kernel
theorem dX8_movingOf_40 : decode cX8_movingOf 40 = .ok (.getfield 50, 3) := by decide +kernel
theorem dX8_movingOf_43 : decode cX8_movingOf 43 = .ok (.iconst 0, 1) := by decide +kernel
theorem dX8_movingOf_44 : decode cX8_movingOf 44 = .ok (.iload_n 1, 1) := by decide +kernel
theorem dX8_movingOf_45 : decode cX8_movingOf 45 = .ok (.iastore, 1) := by decide +kernel
theorem dX8_movingOf_46 : decode cX8_movingOf 46 = .ok (.aload_n 0, 1) := by decide +kernel
theorem dX8_movingOf_47 : decode cX8_movingOf 47 = .ok (.getfield 50, 3) := by decide +kernel
theorem dX8_movingOf_50 : decode cX8_movingOf 50 = .ok (.iconst 1, 1) := by decide +kernel
theorem dX8_movingOf_51 : decode cX8_movingOf 51 = .ok (.iload_n 2, 1) := by decide +kernel
theorem dX8_movingOf_52 : decode cX8_movingOf 52 = .ok (.iastore, 1) := by decide +kernel
theorem dX8_movingOf_53 : decode cX8_movingOf 53 = .ok (.aload_n 0, 1) := by decide +kernel
theorem dX8_movingOf_54 : decode cX8_movingOf 54 = .ok (.getfield 50, 3) := by decide +kernel
theorem dX8_movingOf_57 : decode cX8_movingOf 57 = .ok (.iconst 2, 1) := by decide +kernel
theorem dX8_movingOf_58 : decode cX8_movingOf 58 = .ok (.aload_n 0, 1) := by decide +kernel
theorem dX8_movingOf_59 : decode cX8_movingOf 59 = .ok (.getfield 22, 3) := by decide +kernel
theorem dX8_movingOf_62 : decode cX8_movingOf 62 = .ok (.invokevirtual 192, 3) := by decide +kernel
theorem dX8_movingOf_65 : decode cX8_movingOf 65 = .ok (.iastore, 1) := by decide +kernel
theorem dX8_movingOf_66 : decode cX8_movingOf 66 = .ok (.aload_n 0, 1) := by decide +kernel
theorem dX8_movingOf_67 : decode cX8_movingOf 67 = .ok (.getfield 50, 3) := by decide +kernel
theorem dX8_movingOf_70 : decode cX8_movingOf 70 = .ok (.iconst 3, 1) := by decide +kernel
theorem dX8_movingOf_71 : decode cX8_movingOf 71 = .ok (.aload_n 0, 1) := by decide +kernel
theorem dX8_movingOf_72 : decode cX8_movingOf 72 = .ok (.getfield 22, 3) := by decide +kernel
theorem dX8_movingOf_75 : decode cX8_movingOf 75 = .ok (.invokevirtual 198, 3) := by decide +kernel
theorem dX8_movingOf_78 : decode cX8_movingOf 78 = .ok (.iastore, 1) := by decide +kernel
theorem dX8_movingOf_79 : decode cX8_movingOf 79 = .ok (.aload_n 0, 1) := by decide +kernel
theorem dX8_movingOf_80 : decode cX8_movingOf 80 = .ok (.getfield 50, 3) := by decide +kernel
theorem dX8_movingOf_83 : decode cX8_movingOf 83 = .ok (.iconst 4, 1) := by decide +kernel
theorem dX8_movingOf_84 : decode cX8_movingOf 84 = .ok (.aload_n 0, 1) := by decide +kernel
theorem dX8_movingOf_85 : decode cX8_movingOf 85 = .ok (.getfield 10, 3) := by decide +kernel
theorem dX8_movingOf_88 : decode cX8_movingOf 88 = .ok (.getfield 204, 3) := by decide +kernel
theorem dX8_movingOf_91 : decode cX8_movingOf 91 = .ok (.iconst 0, 1) := by decide +kernel
theorem dX8_movingOf_92 : decode cX8_movingOf 92 = .ok (.iload_n 1, 1) := by decide +kernel
theorem dX8_movingOf_93 : decode cX8_movingOf 93 = .ok (.invokevirtual 207, 3) := by decide +kernel
theorem dX8_movingOf_96 : decode cX8_movingOf 96 = .ok (.iastore, 1) := by decide +kernel
theorem dX8_movingOf_97 : decode cX8_movingOf 97 = .ok (.aload_n 0, 1) := by decide +kernel
theorem dX8_movingOf_98 : decode cX8_movingOf 98 = .ok (.getfield 10, 3) := by decide +kernel
theorem dX8_movingOf_101 : decode cX8_movingOf 101 = .ok (.getfield 321, 3) := by decide +kernel
theorem dX8_movingOf_104 : decode cX8_movingOf 104 = .ok (.aload_n 0, 1) := by decide +kernel
theorem dX8_movingOf_105 : decode cX8_movingOf 105 = .ok (.getfield 50, 3) := by decide +kernel
theorem dX8_movingOf_108 : decode cX8_movingOf 108 = .ok (.aload_n 0, 1) := by decide +kernel
theorem dX8_movingOf_109 : decode cX8_movingOf 109 = .ok (.getfield 53, 3) := by decide +kernel
theorem dX8_movingOf_112 : decode cX8_movingOf 112 = .ok (.invokevirtual 327, 3) := by decide +kernel
theorem dX8_movingOf_115 : decode cX8_movingOf 115 = .ok (.bipush 100, 2) := by decide +kernel
theorem dX8_movingOf_117 : decode cX8_movingOf 117 = .ok (.invokestatic 331, 3) := by decide +kernel
theorem dX8_movingOf_120 : decode cX8_movingOf 120 = .ok (.ireturn, 1) := by decide +kernel
theorem dX8_movedBy_0 : decode cX8_movedBy 0 = .ok (.iload_n 2, 1) := by decide +kernel
theorem dX8_movedBy_1 : decode cX8_movedBy 1 = .ok (.aload_n 0, 1) := by decide +kernel
theorem dX8_movedBy_2 : decode cX8_movedBy 2 = .ok (.iload_n 1, 1) := by decide +kernel
theorem dX8_movedBy_3 : decode cX8_movedBy 3 = .ok (.invokevirtual 201, 3) := by decide +kernel
theorem dX8_movedBy_6 : decode cX8_movedBy 6 = .ok (.imul, 1) := by decide +kernel
theorem dX8_movedBy_7 : decode cX8_movedBy 7 = .ok (.bipush 100, 2) := by decide +kernel
theorem dX8_movedBy_9 : decode cX8_movedBy 9 = .ok (.idiv, 1) := by decide +kernel
theorem dX8_movedBy_10 : decode cX8_movedBy 10 = .ok (.ireturn, 1) := by decide +kernel
theorem dX8_isMovedBy_0 : decode cX8_isMovedBy 0 = .ok (.aload_n 0, 1) := by decide +kernel
theorem dX8_isMovedBy_1 : decode cX8_isMovedBy 1 = .ok (.iload_n 1, 1) := by decide +kernel
theorem dX8_isMovedBy_2 : decode cX8_isMovedBy 2 = .ok (.aload_n 0, 1) := by decide +kernel
theorem dX8_isMovedBy_3 : decode cX8_isMovedBy 3 = .ok (.getfield 22, 3) := by decide +kernel
theorem dX8_isMovedBy_6 : decode cX8_isMovedBy 6 = .ok (.invokevirtual 192, 3) := by decide +kernel
theorem dX8_isMovedBy_9 : decode cX8_isMovedBy 9 = .ok (.invokevirtual 195, 3) := by decide +kernel
theorem dX8_isMovedBy_12 : decode cX8_isMovedBy 12 = .ok (.invokestatic 226, 3) := by decide +kernel
theorem dX8_isMovedBy_15 : decode cX8_isMovedBy 15 = .ok (.iload_n 2, 1) := by decide +kernel
theorem dX8_isMovedBy_16 : decode cX8_isMovedBy 16 = .ok (.if_icmp .lt 7, 3) := by decide +kernel
theorem dX8_isMovedBy_19 : decode cX8_isMovedBy 19 = .ok (.iconst 1, 1) := by decide +kernel
theorem dX8_isMovedBy_20 : decode cX8_isMovedBy 20 = .ok (.goto 4, 3) := by decide +kernel
theorem dX8_isMovedBy_23 : decode cX8_isMovedBy 23 = .ok (.iconst 0, 1) := by decide +kernel
theorem dX8_isMovedBy_24 : decode cX8_isMovedBy 24 = .ok (.ireturn, 1) := by decide +kernel
theorem dX8_hoursOf_0 : decode cX8_hoursOf 0 = .ok (.aload_n 0, 1) := by decide +kernel
theorem dX8_hoursOf_1 : decode cX8_hoursOf 1 = .ok (.getfield 10, 3) := by decide +kernel
theorem dX8_hoursOf_4 : decode cX8_hoursOf 4 = .ok (.getfield 69, 3) := by decide +kernel
theorem dX8_hoursOf_7 : decode cX8_hoursOf 7 = .ok (.iconst 1, 1) := by decide +kernel
theorem dX8_hoursOf_8 : decode cX8_hoursOf 8 = .ok (.iload_n 1, 1) := by decide +kernel
theorem dX8_hoursOf_9 : decode cX8_hoursOf 9 = .ok (.invokevirtual 89, 3) := by decide +kernel
theorem dX8_hoursOf_12 : decode cX8_hoursOf 12 = .ok (.istore_n 2, 1) := by decide +kernel
theorem dX8_hoursOf_13 : decode cX8_hoursOf 13 = .ok (.aload_n 0, 1) := by decide +kernel
theorem dX8_hoursOf_14 : decode cX8_hoursOf 14 = .ok (.getfield 10, 3) := by decide +kernel
theorem dX8_hoursOf_17 : decode cX8_hoursOf 17 = .ok (.getfield 69, 3) := by decide +kernel
theorem dX8_hoursOf_20 : decode cX8_hoursOf 20 = .ok (.iconst 2, 1) := by decide +kernel
theorem dX8_hoursOf_21 : decode cX8_hoursOf 21 = .ok (.iload_n 1, 1) := by decide +kernel
theorem dX8_hoursOf_22 : decode cX8_hoursOf 22 = .ok (.invokevirtual 89, 3) := by decide +kernel
theorem dX8_hoursOf_25 : decode cX8_hoursOf 25 = .ok (.istore_n 3, 1) := by decide +kernel
theorem dX8_hoursOf_26 : decode cX8_hoursOf 26 = .ok (.aload_n 0, 1) := by decide +kernel
theorem dX8_hoursOf_27 : decode cX8_hoursOf 27 = .ok (.getfield 10, 3) := by decide +kernel
theorem dX8_hoursOf_30 : decode cX8_hoursOf 30 = .ok (.getfield 69, 3) := by decide +kernel
theorem dX8_hoursOf_33 : decode cX8_hoursOf 33 = .ok (.iconst 3, 1) := by decide +kernel
theorem dX8_hoursOf_34 : decode cX8_hoursOf 34 = .ok (.iload_n 1, 1) := by decide +kernel
theorem dX8_hoursOf_35 : decode cX8_hoursOf 35 = .ok (.invokevirtual 89, 3) := by decide +kernel
theorem dX8_hoursOf_38 : decode cX8_hoursOf 38 = .ok (.istore 4, 2) := by decide +kernel
theorem dX8_hoursOf_40 : decode cX8_hoursOf 40 = .ok (.aload_n 0, 1) := by decide +kernel
theorem dX8_hoursOf_41 : decode cX8_hoursOf 41 = .ok (.getfield 10, 3) := by decide +kernel
theorem dX8_hoursOf_44 : decode cX8_hoursOf 44 = .ok (.getfield 324, 3) := by decide +kernel
theorem dX8_hoursOf_47 : decode cX8_hoursOf 47 = .ok (.invokevirtual 180, 3) := by decide +kernel
theorem dX8_hoursOf_50 : decode cX8_hoursOf 50 = .ok (.ifCond .ne 18, 3) := by decide +kernel
theorem dX8_hoursOf_53 : decode cX8_hoursOf 53 = .ok (.bipush 8, 2) := by decide +kernel
theorem dX8_hoursOf_55 : decode cX8_hoursOf 55 = .ok (.iload_n 2, 1) := by decide +kernel
theorem dX8_hoursOf_56 : decode cX8_hoursOf 56 = .ok (.iadd, 1) := by decide +kernel
theorem dX8_hoursOf_57 : decode cX8_hoursOf 57 = .ok (.iload_n 3, 1) := by decide +kernel
theorem dX8_hoursOf_58 : decode cX8_hoursOf 58 = .ok (.bipush 9, 2) := by decide +kernel
theorem dX8_hoursOf_60 : decode cX8_hoursOf 60 = .ok (.idiv, 1) := by decide +kernel
theorem dX8_hoursOf_61 : decode cX8_hoursOf 61 = .ok (.iadd, 1) := by decide +kernel
theorem dX8_hoursOf_62 : decode cX8_hoursOf 62 = .ok (.iconst 3, 1) := by decide +kernel
theorem dX8_hoursOf_63 : decode cX8_hoursOf 63 = .ok (.iload 4, 2) := by decide +kernel
theorem dX8_hoursOf_65 : decode cX8_hoursOf 65 = .ok (.imul, 1) := by decide +kernel
theorem dX8_hoursOf_66 : decode cX8_hoursOf 66 = .ok (.iadd, 1) := by decide +kernel
theorem dX8_hoursOf_67 : decode cX8_hoursOf 67 = .ok (.ireturn, 1) := by decide +kernel
theorem dX8_hoursOf_68 : decode cX8_hoursOf 68 = .ok (.aload_n 0, 1) := by decide +kernel
theorem dX8_hoursOf_69 : decode cX8_hoursOf 69 = .ok (.getfield 50, 3) := by decide +kernel
theorem dX8_hoursOf_72 : decode cX8_hoursOf 72 = .ok (.iconst 0, 1) := by decide +kernel
theorem dX8_hoursOf_73 : decode cX8_hoursOf 73 = .ok (.iload_n 1, 1) := by decide +kernel
theorem dX8_hoursOf_74 : decode cX8_hoursOf 74 = .ok (.iastore, 1) := by decide +kernel
theorem dX8_hoursOf_75 : decode cX8_hoursOf 75 = .ok (.aload_n 0, 1) := by decide +kernel
theorem dX8_hoursOf_76 : decode cX8_hoursOf 76 = .ok (.getfield 50, 3) := by decide +kernel
theorem dX8_hoursOf_79 : decode cX8_hoursOf 79 = .ok (.iconst 1, 1) := by decide +kernel
theorem dX8_hoursOf_80 : decode cX8_hoursOf 80 = .ok (.iload_n 2, 1) := by decide +kernel
theorem dX8_hoursOf_81 : decode cX8_hoursOf 81 = .ok (.iastore, 1) := by decide +kernel
theorem dX8_hoursOf_82 : decode cX8_hoursOf 82 = .ok (.aload_n 0, 1) := by decide +kernel
theorem dX8_hoursOf_83 : decode cX8_hoursOf 83 = .ok (.getfield 50, 3) := by decide +kernel
theorem dX8_hoursOf_86 : decode cX8_hoursOf 86 = .ok (.iconst 2, 1) := by decide +kernel
theorem dX8_hoursOf_87 : decode cX8_hoursOf 87 = .ok (.iload_n 3, 1) := by decide +kernel
theorem dX8_hoursOf_88 : decode cX8_hoursOf 88 = .ok (.iastore, 1) := by decide +kernel
theorem dX8_hoursOf_89 : decode cX8_hoursOf 89 = .ok (.aload_n 0, 1) := by decide +kernel
theorem dX8_hoursOf_90 : decode cX8_hoursOf 90 = .ok (.getfield 50, 3) := by decide +kernel
theorem dX8_hoursOf_93 : decode cX8_hoursOf 93 = .ok (.iconst 3, 1) := by decide +kernel
theorem dX8_hoursOf_94 : decode cX8_hoursOf 94 = .ok (.iload 4, 2) := by decide +kernel
theorem dX8_hoursOf_96 : decode cX8_hoursOf 96 = .ok (.iastore, 1) := by decide +kernel
theorem dX8_hoursOf_97 : decode cX8_hoursOf 97 = .ok (.aload_n 0, 1) := by decide +kernel
theorem dX8_hoursOf_98 : decode cX8_hoursOf 98 = .ok (.getfield 10, 3) := by decide +kernel
theorem dX8_hoursOf_101 : decode cX8_hoursOf 101 = .ok (.getfield 324, 3) := by decide +kernel
theorem dX8_hoursOf_104 : decode cX8_hoursOf 104 = .ok (.aload_n 0, 1) := by decide +kernel
theorem dX8_hoursOf_105 : decode cX8_hoursOf 105 = .ok (.getfield 50, 3) := by decide +kernel
theorem dX8_hoursOf_108 : decode cX8_hoursOf 108 = .ok (.aload_n 0, 1) := by decide +kernel
theorem dX8_hoursOf_109 : decode cX8_hoursOf 109 = .ok (.getfield 53, 3) := by decide +kernel
theorem dX8_hoursOf_112 : decode cX8_hoursOf 112 = .ok (.invokevirtual 327, 3) := by decide +kernel
theorem dX8_hoursOf_115 : decode cX8_hoursOf 115 = .ok (.sipush 999, 3) := by decide +kernel
theorem dX8_hoursOf_118 : decode cX8_hoursOf 118 = .ok (.invokestatic 331, 3) := by decide +kernel
theorem dX8_hoursOf_121 : decode cX8_hoursOf 121 = .ok (.ireturn, 1) := by decide +kernel
theorem dX8_held_0 : decode cX8_held 0 = .ok (.iconst 0, 1) := by decide +kernel
theorem dX8_held_1 : decode cX8_held 1 = .ok (.iload_n 0, 1) := by decide +kernel
theorem dX8_held_2 : decode cX8_held 2 = .ok (.iload_n 1, 1) := by decide +kernel
theorem dX8_held_3 : decode cX8_held 3 = .ok (.invokestatic 317, 3) := by decide +kernel
theorem dX8_held_6 : decode cX8_held 6 = .ok (.invokestatic 334, 3) := by decide +kernel
theorem dX8_held_9 : decode cX8_held 9 = .ok (.ireturn, 1) := by decide +kernel
theorem dX8_isIn_0 : decode cX8_isIn 0 = .ok (.iload_n 0, 1) := by decide +kernel
theorem dX8_isIn_1 : decode cX8_isIn 1 = .ok (.iload_n 1, 1) := by decide +kernel
theorem dX8_isIn_2 : decode cX8_isIn 2 = .ok (.if_icmp .lt 12, 3) := by decide +kernel
theorem dX8_isIn_5 : decode cX8_isIn 5 = .ok (.iload_n 0, 1) := by decide +kernel
theorem dX8_isIn_6 : decode cX8_isIn 6 = .ok (.iload_n 2, 1) := by decide +kernel
theorem dX8_isIn_7 : decode cX8_isIn 7 = .ok (.if_icmp .gt 7, 3) := by decide +kernel
theorem dX8_isIn_10 : decode cX8_isIn 10 = .ok (.iconst 1, 1) := by decide +kernel
theorem dX8_isIn_11 : decode cX8_isIn 11 = .ok (.goto 4, 3) := by decide +kernel
theorem dX8_isIn_14 : decode cX8_isIn 14 = .ok (.iconst 0, 1) := by decide +kernel
theorem dX8_isIn_15 : decode cX8_isIn 15 = .ok (.ireturn, 1) := by decide +kernel
theorem dX8_greatestCommon_0 : decode cX8_greatestCommon 0 = .ok (.lload_n 0, 1) := by decide +kernel
theorem dX8_greatestCommon_1 : decode cX8_greatestCommon 1 = .ok (.lstore 4, 2) := by decide +kernel
theorem dX8_greatestCommon_3 : decode cX8_greatestCommon 3 = .ok (.lload_n 2, 1) := by decide +kernel
theorem dX8_greatestCommon_4 : decode cX8_greatestCommon 4 = .ok (.lstore 6, 2) := by decide +kernel
theorem dX8_greatestCommon_6 : decode cX8_greatestCommon 6 = .ok (.iconst 0, 1) := by decide +kernel
theorem dX8_greatestCommon_7 : decode cX8_greatestCommon 7 = .ok (.istore 8, 2) := by decide +kernel
theorem dX8_greatestCommon_9 : decode cX8_greatestCommon 9 = .ok (.iload 8, 2) := by decide +kernel
theorem dX8_greatestCommon_11 : decode cX8_greatestCommon 11 = .ok (.bipush 100, 2) := by decide +kernel
theorem dX8_greatestCommon_13 : decode cX8_greatestCommon 13 = .ok (.if_icmp .ge 31, 3) := by decide +kernel
theorem dX8_greatestCommon_16 : decode cX8_greatestCommon 16 = .ok (.lload 6, 2) := by decide +kernel
theorem dX8_greatestCommon_18 : decode cX8_greatestCommon 18 = .ok (.lconst 0, 1) := by decide +kernel
theorem dX8_greatestCommon_19 : decode cX8_greatestCommon 19 = .ok (.lcmp, 1) := by decide +kernel
theorem dX8_greatestCommon_20 : decode cX8_greatestCommon 20 = .ok (.ifCond .eq 24, 3) := by decide +kernel
theorem dX8_greatestCommon_23 : decode cX8_greatestCommon 23 = .ok (.lload 4, 2) := by decide +kernel
theorem dX8_greatestCommon_25 : decode cX8_greatestCommon 25 = .ok (.lload 6, 2) := by decide +kernel
theorem dX8_greatestCommon_27 : decode cX8_greatestCommon 27 = .ok (.lrem, 1) := by decide +kernel
theorem dX8_greatestCommon_28 : decode cX8_greatestCommon 28 = .ok (.lstore 9, 2) := by decide +kernel
theorem dX8_greatestCommon_30 : decode cX8_greatestCommon 30 = .ok (.lload 6, 2) := by decide +kernel
theorem dX8_greatestCommon_32 : decode cX8_greatestCommon 32 = .ok (.lstore 4, 2) := by decide +kernel
theorem dX8_greatestCommon_34 : decode cX8_greatestCommon 34 = .ok (.lload 9, 2) := by decide +kernel
theorem dX8_greatestCommon_36 : decode cX8_greatestCommon 36 = .ok (.lstore 6, 2) := by decide +kernel
theorem dX8_greatestCommon_38 : decode cX8_greatestCommon 38 = .ok (.iinc 8 1, 3) := by decide +kernel
theorem dX8_greatestCommon_41 : decode cX8_greatestCommon 41 = .ok (.goto (-32), 3) := by decide +kernel
theorem dX8_greatestCommon_44 : decode cX8_greatestCommon 44 = .ok (.lload 4, 2) := by decide +kernel
theorem dX8_greatestCommon_46 : decode cX8_greatestCommon 46 = .ok (.lreturn, 1) := by decide +kernel
theorem dX9_init_0 : decode cX9_init 0 = .ok (.aload_n 0, 1) := by decide +kernel
theorem dX9_init_1 : decode cX9_init 1 = .ok (.invokespecial 3, 3) := by decide +kernel
theorem dX9_init_4 : decode cX9_init 4 = .ok (.aload_n 0, 1) := by decide +kernel
theorem dX9_init_5 : decode cX9_init 5 = .ok (.sipush 440, 3) := by decide +kernel
theorem dX9_init_8 : decode cX9_init 8 = .ok (.newarray .int, 2) := by decide +kernel
theorem dX9_init_10 : decode cX9_init 10 = .ok (.putfield 9, 3) := by decide +kernel
theorem dX9_init_13 : decode cX9_init 13 = .ok (.aload_n 0, 1) := by decide +kernel
theorem dX9_init_14 : decode cX9_init 14 = .ok (.sipush 440, 3) := by decide +kernel
theorem dX9_init_17 : decode cX9_init 17 = .ok (.newarray .int, 2) := by decide +kernel
theorem dX9_init_19 : decode cX9_init 19 = .ok (.putfield 13, 3) := by decide +kernel
theorem dX9_init_22 : decode cX9_init 22 = .ok (.aload_n 0, 1) := by decide +kernel
theorem dX9_init_23 : decode cX9_init 23 = .ok (.bipush 7, 2) := by decide +kernel
theorem dX9_init_25 : decode cX9_init 25 = .ok (.newarray .int, 2) := by decide +kernel
theorem dX9_init_27 : decode cX9_init 27 = .ok (.putfield 16, 3) := by decide +kernel
theorem dX9_init_30 : decode cX9_init 30 = .ok (.aload_n 0, 1) := by decide +kernel
theorem dX9_init_31 : decode cX9_init 31 = .ok (.bipush 25, 2) := by decide +kernel
theorem dX9_init_33 : decode cX9_init 33 = .ok (.newarray .int, 2) := by decide +kernel
theorem dX9_init_35 : decode cX9_init 35 = .ok (.putfield 19, 3) := by decide +kernel
theorem dX9_init_38 : decode cX9_init 38 = .ok (.aload_n 0, 1) := by decide +kernel
theorem dX9_init_39 : decode cX9_init 39 = .ok (.bipush 25, 2) := by decide +kernel
theorem dX9_init_41 : decode cX9_init 41 = .ok (.newarray .int, 2) := by decide +kernel
theorem dX9_init_43 : decode cX9_init 43 = .ok (.putfield 22, 3) := by decide +kernel
theorem dX9_init_46 : decode cX9_init 46 = .ok (.aload_n 0, 1) := by decide +kernel
theorem dX9_init_47 : decode cX9_init 47 = .ok (.bipush 24, 2) := by decide +kernel
theorem dX9_init_49 : decode cX9_init 49 = .ok (.newarray .int, 2) := by decide +kernel
theorem dX9_init_51 : decode cX9_init 51 = .ok (.putfield 25, 3) := by decide +kernel
theorem dX9_init_54 : decode cX9_init 54 = .ok (.aload_n 0, 1) := by decide +kernel
theorem dX9_init_55 : decode cX9_init 55 = .ok (.iconst 2, 1) := by decide +kernel
theorem dX9_init_56 : decode cX9_init 56 = .ok (.anewarray 28, 3) := by decide +kernel
theorem dX9_init_59 : decode cX9_init 59 = .ok (.dup, 1) := by decide +kernel
theorem dX9_init_60 : decode cX9_init 60 = .ok (.iconst 0, 1) := by decide +kernel
theorem dX9_init_61 : decode cX9_init 61 = .ok (.ldc 30, 2) := by decide +kernel
theorem dX9_init_63 : decode cX9_init 63 = .ok (.aastore, 1) := by decide +kernel
theorem dX9_init_64 : decode cX9_init 64 = .ok (.dup, 1) := by decide +kernel
theorem dX9_init_65 : decode cX9_init 65 = .ok (.iconst 1, 1) := by decide +kernel
theorem dX9_init_66 : decode cX9_init 66 = .ok (.ldc 32, 2) := by decide +kernel
theorem dX9_init_68 : decode cX9_init 68 = .ok (.aastore, 1) := by decide +kernel
theorem dX9_init_69 : decode cX9_init 69 = .ok (.putfield 34, 3) := by decide +kernel
theorem dX9_init_72 : decode cX9_init 72 = .ok (.aload_n 0, 1) := by decide +kernel
theorem dX9_init_73 : decode cX9_init 73 = .ok (.bipush 60, 2) := by decide +kernel
theorem dX9_init_75 : decode cX9_init 75 = .ok (.newarray .int, 2) := by decide +kernel
theorem dX9_init_77 : decode cX9_init 77 = .ok (.putfield 38, 3) := by decide +kernel
theorem dX9_init_80 : decode cX9_init 80 = .ok (.aload_n 0, 1) := by decide +kernel
theorem dX9_init_81 : decode cX9_init 81 = .ok (.iconst 5, 1) := by decide +kernel
theorem dX9_init_82 : decode cX9_init 82 = .ok (.newarray .int, 2) := by decide +kernel
theorem dX9_init_84 : decode cX9_init 84 = .ok (.putfield 41, 3) := by decide +kernel
theorem dX9_init_87 : decode cX9_init 87 = .ok (.aload_n 0, 1) := by decide +kernel
theorem dX9_init_88 : decode cX9_init 88 = .ok (.bipush 60, 2) := by decide +kernel
theorem dX9_init_90 : decode cX9_init 90 = .ok (.newarray .int, 2) := by decide +kernel
theorem dX9_init_92 : decode cX9_init 92 = .ok (.putfield 44, 3) := by decide +kernel
theorem dX9_init_95 : decode cX9_init 95 = .ok (.aload_n 0, 1) := by decide +kernel
theorem dX9_init_96 : decode cX9_init 96 = .ok (.bipush 24, 2) := by decide +kernel
theorem dX9_init_98 : decode cX9_init 98 = .ok (.newarray .int, 2) := by decide +kernel
theorem dX9_init_100 : decode cX9_init 100 = .ok (.putfield 47, 3) := by decide +kernel
theorem dX9_init_103 : decode cX9_init 103 = .ok (.aload_n 0, 1) := by decide +kernel
theorem dX9_init_104 : decode cX9_init 104 = .ok (.bipush 30, 2) := by decide +kernel
theorem dX9_init_106 : decode cX9_init 106 = .ok (.newarray .int, 2) := by decide +kernel
theorem dX9_init_108 : decode cX9_init 108 = .ok (.putfield 50, 3) := by decide +kernel
theorem dX9_init_111 : decode cX9_init 111 = .ok (.aload_n 0, 1) := by decide +kernel
theorem dX9_init_112 : decode cX9_init 112 = .ok (.iconst 4, 1) := by decide +kernel
theorem dX9_init_113 : decode cX9_init 113 = .ok (.newarray .int, 2) := by decide +kernel
theorem dX9_init_115 : decode cX9_init 115 = .ok (.putfield 53, 3) := by decide +kernel
theorem dX9_init_118 : decode cX9_init 118 = .ok (.aload_n 0, 1) := by decide +kernel
theorem dX9_init_119 : decode cX9_init 119 = .ok (.iconst 4, 1) := by decide +kernel
theorem dX9_init_120 : decode cX9_init 120 = .ok (.newarray .int, 2) := by decide +kernel
theorem dX9_init_122 : decode cX9_init 122 = .ok (.putfield 56, 3) := by decide +kernel
theorem dX9_init_125 : decode cX9_init 125 = .ok (.aload_n 0, 1) := by decide +kernel
theorem dX9_init_126 : decode cX9_init 126 = .ok (.bipush 96, 2) := by decide +kernel
theorem dX9_init_128 : decode cX9_init 128 = .ok (.newarray .int, 2) := by decide +kernel
theorem dX9_init_130 : decode cX9_init 130 = .ok (.putfield 59, 3) := by decide +kernel
theorem dX9_init_133 : decode cX9_init 133 = .ok (.aload_n 0, 1) := by decide +kernel
theorem dX9_init_134 : decode cX9_init 134 = .ok (.bipush 24, 2) := by decide +kernel
theorem dX9_init_136 : decode cX9_init 136 = .ok (.newarray .int, 2) := by decide +kernel
theorem dX9_init_138 : decode cX9_init 138 = .ok (.putfield 62, 3) := by decide +kernel
theorem dX9_init_141 : decode cX9_init 141 = .ok (.aload_n 0, 1) := by decide +kernel
theorem dX9_init_142 : decode cX9_init 142 = .ok (.getfield 9, 3) := by decide +kernel
theorem dX9_init_145 : decode cX9_init 145 = .ok (.iconst 0, 1) := by decide +kernel
theorem dX9_init_146 : decode cX9_init 146 = .ok (.bipush 12, 2) := by decide +kernel
theorem dX9_init_148 : decode cX9_init 148 = .ok (.iastore, 1) := by decide +kernel
theorem dX9_init_149 : decode cX9_init 149 = .ok (.aload_n 0, 1) := by decide +kernel
theorem dX9_init_150 : decode cX9_init 150 = .ok (.getfield 9, 3) := by decide +kernel
theorem dX9_init_153 : decode cX9_init 153 = .ok (.bipush 7, 2) := by decide +kernel
theorem dX9_init_155 : decode cX9_init 155 = .ok (.sipush 21120, 3) := by decide +kernel
theorem dX9_init_158 : decode cX9_init 158 = .ok (.iastore, 1) := by decide +kernel
theorem dX9_init_159 : decode cX9_init 159 = .ok (.aload_n 0, 1) := by decide +kernel
theorem dX9_init_160 : decode cX9_init 160 = .ok (.getfield 9, 3) := by decide +kernel
theorem dX9_init_163 : decode cX9_init 163 = .ok (.iconst 5, 1) := by decide +kernel
theorem dX9_init_164 : decode cX9_init 164 = .ok (.iconst 1, 1) := by decide +kernel
theorem dX9_init_165 : decode cX9_init 165 = .ok (.iastore, 1) := by decide +kernel
theorem dX9_init_166 : decode cX9_init 166 = .ok (.return_, 1) := by decide +kernel
theorem dX9_finding_0 : decode cX9_finding 0 = .ok (.aload_n 0, 1) := by decide +kernel
theorem dX9_finding_1 : decode cX9_finding 1 = .ok (.getfield 16, 3) := by decide +kernel
theorem dX9_finding_4 : decode cX9_finding 4 = .ok (.ldc 65, 2) := by decide +kernel
theorem dX9_finding_6 : decode cX9_finding 6 = .ok (.iload_n 1, 1) := by decide +kernel
theorem dX9_finding_7 : decode cX9_finding 7 = .ok (.isub, 1) := by decide +kernel
theorem dX9_finding_8 : decode cX9_finding 8 = .ok (.dup2, 1) := by decide +kernel
theorem dX9_finding_9 : decode cX9_finding 9 = .ok (.iaload, 1) := by decide +kernel
theorem dX9_finding_10 : decode cX9_finding 10 = .ok (.iconst 1, 1) := by decide +kernel
theorem dX9_finding_11 : decode cX9_finding 11 = .ok (.iadd, 1) := by decide +kernel
theorem dX9_finding_12 : decode cX9_finding 12 = .ok (.iastore, 1) := by decide +kernel
theorem dX9_finding_13 : decode cX9_finding 13 = .ok (.iload_n 1, 1) := by decide +kernel
theorem dX9_finding_14 : decode cX9_finding 14 = .ok (.ireturn, 1) := by decide +kernel
theorem dX9_isIn_0 : decode cX9_isIn 0 = .ok (.iload_n 0, 1) := by decide +kernel
theorem dX9_isIn_1 : decode cX9_isIn 1 = .ok (.iload_n 1, 1) := by decide +kernel
theorem dX9_isIn_2 : decode cX9_isIn 2 = .ok (.if_icmp .lt 12, 3) := by decide +kernel
theorem dX9_isIn_5 : decode cX9_isIn 5 = .ok (.iload_n 0, 1) := by decide +kernel
theorem dX9_isIn_6 : decode cX9_isIn 6 = .ok (.iload_n 2, 1) := by decide +kernel
theorem dX9_isIn_7 : decode cX9_isIn 7 = .ok (.if_icmp .gt 7, 3) := by decide +kernel
theorem dX9_isIn_10 : decode cX9_isIn 10 = .ok (.iconst 1, 1) := by decide +kernel
theorem dX9_isIn_11 : decode cX9_isIn 11 = .ok (.goto 4, 3) := by decide +kernel
theorem dX9_isIn_14 : decode cX9_isIn 14 = .ok (.iconst 0, 1) := by decide +kernel
theorem dX9_isIn_15 : decode cX9_isIn 15 = .ok (.ireturn, 1) := by decide +kernel
theorem dX9_held_0 : decode cX9_held 0 = .ok (.iload_n 1, 1) := by decide +kernel
theorem dX9_held_1 : decode cX9_held 1 = .ok (.iload_n 2, 1) := by decide +kernel
theorem dX9_held_2 : decode cX9_held 2 = .ok (.iload_n 0, 1) := by decide +kernel
theorem dX9_held_3 : decode cX9_held 3 = .ok (.invokestatic 66, 3) := by decide +kernel
theorem dX9_held_6 : decode cX9_held 6 = .ok (.invokestatic 72, 3) := by decide +kernel
theorem dX9_held_9 : decode cX9_held 9 = .ok (.ireturn, 1) := by decide +kernel
theorem dX9_copy_0 : decode cX9_copy 0 = .ok (.iconst 0, 1) := by decide +kernel
theorem dX9_copy_1 : decode cX9_copy 1 = .ok (.istore_n 2, 1) := by decide +kernel
theorem dX9_copy_2 : decode cX9_copy 2 = .ok (.iload_n 2, 1) := by decide +kernel
theorem dX9_copy_3 : decode cX9_copy 3 = .ok (.sipush 440, 3) := by decide +kernel
theorem dX9_copy_6 : decode cX9_copy 6 = .ok (.if_icmp .ge 15, 3) := by decide +kernel
theorem dX9_copy_9 : decode cX9_copy 9 = .ok (.aload_n 1, 1) := by decide +kernel
theorem dX9_copy_10 : decode cX9_copy 10 = .ok (.iload_n 2, 1) := by decide +kernel
theorem dX9_copy_11 : decode cX9_copy 11 = .ok (.aload_n 0, 1) := by decide +kernel
theorem dX9_copy_12 : decode cX9_copy 12 = .ok (.iload_n 2, 1) := by decide +kernel
theorem dX9_copy_13 : decode cX9_copy 13 = .ok (.iaload, 1) := by decide +kernel
theorem dX9_copy_14 : decode cX9_copy 14 = .ok (.iastore, 1) := by decide +kernel
theorem dX9_copy_15 : decode cX9_copy 15 = .ok (.iinc 2 1, 3) := by decide +kernel
theorem dX9_copy_18 : decode cX9_copy 18 = .ok (.goto (-16), 3) := by decide +kernel
theorem dX9_copy_21 : decode cX9_copy 21 = .ok (.return_, 1) := by decide +kernel
theorem dX9_become_0 : decode cX9_become 0 = .ok (.aload_n 0, 1) := by decide +kernel
theorem dX9_become_1 : decode cX9_become 1 = .ok (.getfield 9, 3) := by decide +kernel
theorem dX9_become_4 : decode cX9_become 4 = .ok (.iload_n 1, 1) := by decide +kernel
theorem dX9_become_5 : decode cX9_become 5 = .ok (.iaload, 1) := by decide +kernel
theorem dX9_become_6 : decode cX9_become 6 = .ok (.istore_n 3, 1) := by decide +kernel
theorem dX9_become_7 : decode cX9_become 7 = .ok (.aload_n 0, 1) := by decide +kernel
theorem dX9_become_8 : decode cX9_become 8 = .ok (.getfield 9, 3) := by decide +kernel
theorem dX9_become_11 : decode cX9_become 11 = .ok (.iload_n 1, 1) := by decide +kernel
theorem dX9_become_12 : decode cX9_become 12 = .ok (.iload_n 2, 1) := by decide +kernel
theorem dX9_become_13 : decode cX9_become 13 = .ok (.iastore, 1) := by decide +kernel
theorem dX9_become_14 : decode cX9_become 14 = .ok (.iload_n 3, 1) := by decide +kernel
theorem dX9_become_15 : decode cX9_become 15 = .ok (.ireturn, 1) := by decide +kernel
theorem dX9_is_0 : decode cX9_is 0 = .ok (.iload_n 1, 1) := by decide +kernel
theorem dX9_is_1 : decode cX9_is 1 = .ok (.iconst 0, 1) := by decide +kernel
theorem dX9_is_2 : decode cX9_is 2 = .ok (.aload_n 0, 1) := by decide +kernel
theorem dX9_is_3 : decode cX9_is 3 = .ok (.getfield 9, 3) := by decide +kernel
theorem dX9_is_6 : decode cX9_is 6 = .ok (.iload_n 2, 1) := by decide +kernel
theorem dX9_is_7 : decode cX9_is 7 = .ok (.iaload, 1) := by decide +kernel
theorem dX9_is_8 : decode cX9_is 8 = .ok (.iconst 1, 1) := by decide +kernel
theorem dX9_is_9 : decode cX9_is 9 = .ok (.isub, 1) := by decide +kernel
theorem dX9_is_10 : decode cX9_is 10 = .ok (.invokestatic 75, 3) := by decide +kernel
theorem dX9_is_13 : decode cX9_is 13 = .ok (.ireturn, 1) := by decide +kernel
theorem dX9_isMile_0 : decode cX9_isMile 0 = .ok (.iload_n 0, 1) := by decide +kernel
theorem dX9_isMile_1 : decode cX9_isMile 1 = .ok (.iconst 0, 1) := by decide +kernel
theorem dX9_isMile_2 : decode cX9_isMile 2 = .ok (.bipush 23, 2) := by decide +kernel
theorem dX9_isMile_4 : decode cX9_isMile 4 = .ok (.invokestatic 75, 3) := by decide +kernel
theorem dX9_isMile_7 : decode cX9_isMile 7 = .ok (.ireturn, 1) := by decide +kernel
theorem dX9_mileOf_0 : decode cX9_mileOf 0 = .ok (.aload_n 0, 1) := by decide +kernel
theorem dX9_mileOf_1 : decode cX9_mileOf 1 = .ok (.getfield 9, 3) := by decide +kernel
theorem dX9_mileOf_4 : decode cX9_mileOf 4 = .ok (.bipush 8, 2) := by decide +kernel
theorem dX9_mileOf_6 : decode cX9_mileOf 6 = .ok (.iconst 5, 1) := by decide +kernel
theorem dX9_mileOf_7 : decode cX9_mileOf 7 = .ok (.iload_n 1, 1) := by decide +kernel
theorem dX9_mileOf_8 : decode cX9_mileOf 8 = .ok (.imul, 1) := by decide +kernel
theorem dX9_mileOf_9 : decode cX9_mileOf 9 = .ok (.iadd, 1) := by decide +kernel
theorem dX9_mileOf_10 : decode cX9_mileOf 10 = .ok (.iload_n 2, 1) := by decide +kernel
theorem dX9_mileOf_11 : decode cX9_mileOf 11 = .ok (.iadd, 1) := by decide +kernel
theorem dX9_mileOf_12 : decode cX9_mileOf 12 = .ok (.iaload, 1) := by decide +kernel
theorem dX9_mileOf_13 : decode cX9_mileOf 13 = .ok (.ireturn, 1) := by decide +kernel
theorem dX9_miles_0 : decode cX9_miles 0 = .ok (.iload_n 1, 1) := by decide +kernel
theorem dX9_miles_1 : decode cX9_miles 1 = .ok (.iconst 1, 1) := by decide +kernel
theorem dX9_miles_2 : decode cX9_miles 2 = .ok (.bipush 24, 2) := by decide +kernel
theorem dX9_miles_4 : decode cX9_miles 4 = .ok (.invokestatic 75, 3) := by decide +kernel
theorem dX9_miles_7 : decode cX9_miles 7 = .ok (.ifCond .eq 12, 3) := by decide +kernel
theorem dX9_miles_10 : decode cX9_miles 10 = .ok (.aload_n 0, 1) := by decide +kernel
theorem dX9_miles_11 : decode cX9_miles 11 = .ok (.iconst 0, 1) := by decide +kernel
theorem dX9_miles_12 : decode cX9_miles 12 = .ok (.iload_n 1, 1) := by decide +kernel
theorem dX9_miles_13 : decode cX9_miles 13 = .ok (.invokevirtual 79, 3) := by decide +kernel
theorem dX9_miles_16 : decode cX9_miles 16 = .ok (.goto 9, 3) := by decide +kernel
theorem dX9_miles_19 : decode cX9_miles 19 = .ok (.aload_n 0, 1) := by decide +kernel
theorem dX9_miles_20 : decode cX9_miles 20 = .ok (.ldc 82, 2) := by decide +kernel
theorem dX9_miles_22 : decode cX9_miles 22 = .ok (.invokevirtual 83, 3) := by decide +kernel
theorem dX9_miles_25 : decode cX9_miles 25 = .ok (.ireturn, 1) := by decide +kernel
theorem dX9_mile_0 : decode cX9_mile 0 = .ok (.iload_n 1, 1) := by decide +kernel
theorem dX9_mile_1 : decode cX9_mile 1 = .ok (.invokestatic 87, 3) := by decide +kernel
theorem dX9_mile_4 : decode cX9_mile 4 = .ok (.istore 4, 2) := by decide +kernel
theorem dX9_mile_6 : decode cX9_mile 6 = .ok (.iload_n 2, 1) := by decide +kernel
theorem dX9_mile_7 : decode cX9_mile 7 = .ok (.tableswitch 129 0 3 #[29, 55, 80, 105], 29) := by decide +kernel
theorem dX9_mile_36 : decode cX9_mile 36 = .ok (.iload 4, 2) := by decide +kernel
theorem dX9_mile_38 : decode cX9_mile 38 = .ok (.ifCond .eq 18, 3) := by decide +kernel
theorem dX9_mile_41 : decode cX9_mile 41 = .ok (.iload_n 3, 1) := by decide +kernel
theorem dX9_mile_42 : decode cX9_mile 42 = .ok (.bipush (-99), 2) := by decide +kernel
theorem dX9_mile_44 : decode cX9_mile 44 = .ok (.bipush 99, 2) := by decide +kernel
theorem dX9_mile_46 : decode cX9_mile 46 = .ok (.invokestatic 75, 3) := by decide +kernel
theorem dX9_mile_49 : decode cX9_mile 49 = .ok (.ifCond .eq 7, 3) := by decide +kernel
theorem dX9_mile_52 : decode cX9_mile 52 = .ok (.iconst 1, 1) := by decide +kernel
theorem dX9_mile_53 : decode cX9_mile 53 = .ok (.goto 4, 3) := by decide +kernel
theorem dX9_mile_56 : decode cX9_mile 56 = .ok (.iconst 0, 1) := by decide +kernel
theorem dX9_mile_57 : decode cX9_mile 57 = .ok (.istore 4, 2) := by decide +kernel
theorem dX9_mile_59 : decode cX9_mile 59 = .ok (.goto 80, 3) := by decide +kernel
theorem dX9_mile_62 : decode cX9_mile 62 = .ok (.iload 4, 2) := by decide +kernel
theorem dX9_mile_64 : decode cX9_mile 64 = .ok (.ifCond .eq 17, 3) := by decide +kernel
theorem dX9_mile_67 : decode cX9_mile 67 = .ok (.iload_n 3, 1) := by decide +kernel
theorem dX9_mile_68 : decode cX9_mile 68 = .ok (.iconst 0, 1) := by decide +kernel
theorem dX9_mile_69 : decode cX9_mile 69 = .ok (.bipush 9, 2) := by decide +kernel
theorem dX9_mile_71 : decode cX9_mile 71 = .ok (.invokestatic 75, 3) := by decide +kernel
theorem dX9_mile_74 : decode cX9_mile 74 = .ok (.ifCond .eq 7, 3) := by decide +kernel
theorem dX9_mile_77 : decode cX9_mile 77 = .ok (.iconst 1, 1) := by decide +kernel
theorem dX9_mile_78 : decode cX9_mile 78 = .ok (.goto 4, 3) := by decide +kernel
theorem dX9_mile_81 : decode cX9_mile 81 = .ok (.iconst 0, 1) := by decide +kernel
theorem dX9_mile_82 : decode cX9_mile 82 = .ok (.istore 4, 2) := by decide +kernel
theorem dX9_mile_84 : decode cX9_mile 84 = .ok (.goto 55, 3) := by decide +kernel
theorem dX9_mile_87 : decode cX9_mile 87 = .ok (.iload 4, 2) := by decide +kernel
theorem dX9_mile_89 : decode cX9_mile 89 = .ok (.ifCond .eq 17, 3) := by decide +kernel
theorem dX9_mile_92 : decode cX9_mile 92 = .ok (.iload_n 3, 1) := by decide +kernel
theorem dX9_mile_93 : decode cX9_mile 93 = .ok (.iconst 0, 1) := by decide +kernel
theorem dX9_mile_94 : decode cX9_mile 94 = .ok (.bipush 99, 2) := by decide +kernel
theorem dX9_mile_96 : decode cX9_mile 96 = .ok (.invokestatic 75, 3) := by decide +kernel
theorem dX9_mile_99 : decode cX9_mile 99 = .ok (.ifCond .eq 7, 3) := by decide +kernel
theorem dX9_mile_102 : decode cX9_mile 102 = .ok (.iconst 1, 1) := by decide +kernel
theorem dX9_mile_103 : decode cX9_mile 103 = .ok (.goto 4, 3) := by decide +kernel
theorem dX9_mile_106 : decode cX9_mile 106 = .ok (.iconst 0, 1) := by decide +kernel
theorem dX9_mile_107 : decode cX9_mile 107 = .ok (.istore 4, 2) := by decide +kernel
theorem dX9_mile_109 : decode cX9_mile 109 = .ok (.goto 30, 3) := by decide +kernel
theorem dX9_mile_112 : decode cX9_mile 112 = .ok (.iload 4, 2) := by decide +kernel
theorem dX9_mile_114 : decode cX9_mile 114 = .ok (.ifCond .eq 16, 3) := by decide +kernel
theorem dX9_mile_117 : decode cX9_mile 117 = .ok (.iload_n 3, 1) := by decide +kernel
theorem dX9_mile_118 : decode cX9_mile 118 = .ok (.iconst 0, 1) := by decide +kernel
theorem dX9_mile_119 : decode cX9_mile 119 = .ok (.iconst 1, 1) := by decide +kernel
theorem dX9_mile_120 : decode cX9_mile 120 = .ok (.invokestatic 75, 3) := by decide +kernel
theorem dX9_mile_123 : decode cX9_mile 123 = .ok (.ifCond .eq 7, 3) := by decide +kernel
theorem dX9_mile_126 : decode cX9_mile 126 = .ok (.iconst 1, 1) := by decide +kernel
theorem dX9_mile_127 : decode cX9_mile 127 = .ok (.goto 4, 3) := by decide +kernel
theorem dX9_mile_130 : decode cX9_mile 130 = .ok (.iconst 0, 1) := by decide +kernel
theorem dX9_mile_131 : decode cX9_mile 131 = .ok (.istore 4, 2) := by decide +kernel
theorem dX9_mile_133 : decode cX9_mile 133 = .ok (.goto 6, 3) := by decide +kernel
theorem dX9_mile_136 : decode cX9_mile 136 = .ok (.iconst 0, 1) := by decide +kernel
theorem dX9_mile_137 : decode cX9_mile 137 = .ok (.istore 4, 2) := by decide +kernel
theorem dX9_mile_139 : decode cX9_mile 139 = .ok (.iload 4, 2) := by decide +kernel
theorem dX9_mile_141 : decode cX9_mile 141 = .ok (.ifCond .eq 19, 3) := by decide +kernel
theorem dX9_mile_144 : decode cX9_mile 144 = .ok (.aload_n 0, 1) := by decide +kernel
theorem dX9_mile_145 : decode cX9_mile 145 = .ok (.bipush 8, 2) := by decide +kernel
theorem dX9_mile_147 : decode cX9_mile 147 = .ok (.iconst 5, 1) := by decide +kernel
theorem dX9_mile_148 : decode cX9_mile 148 = .ok (.iload_n 1, 1) := by decide +kernel
theorem dX9_mile_149 : decode cX9_mile 149 = .ok (.imul, 1) := by decide +kernel
theorem dX9_mile_150 : decode cX9_mile 150 = .ok (.iadd, 1) := by decide +kernel
theorem dX9_mile_151 : decode cX9_mile 151 = .ok (.iload_n 2, 1) := by decide +kernel
theorem dX9_mile_152 : decode cX9_mile 152 = .ok (.iadd, 1) := by decide +kernel
theorem dX9_mile_153 : decode cX9_mile 153 = .ok (.iload_n 3, 1) := by decide +kernel
theorem dX9_mile_154 : decode cX9_mile 154 = .ok (.invokevirtual 79, 3) := by decide +kernel
theorem dX9_mile_157 : decode cX9_mile 157 = .ok (.goto 9, 3) := by decide +kernel
theorem dX9_mile_160 : decode cX9_mile 160 = .ok (.aload_n 0, 1) := by decide +kernel
theorem dX9_mile_161 : decode cX9_mile 161 = .ok (.ldc 82, 2) := by decide +kernel
theorem dX9_mile_163 : decode cX9_mile 163 = .ok (.invokevirtual 83, 3) := by decide +kernel
theorem dX9_mile_166 : decode cX9_mile 166 = .ok (.ireturn, 1) := by decide +kernel
theorem dX9_stone_0 : decode cX9_stone 0 = .ok (.iload_n 1, 1) := by decide +kernel
theorem dX9_stone_1 : decode cX9_stone 1 = .ok (.sipush (-9999), 3) := by decide +kernel
theorem dX9_stone_4 : decode cX9_stone 4 = .ok (.sipush 9999, 3) := by decide +kernel
theorem dX9_stone_7 : decode cX9_stone 7 = .ok (.invokestatic 75, 3) := by decide +kernel
theorem dX9_stone_10 : decode cX9_stone 10 = .ok (.ifCond .eq 13, 3) := by decide +kernel
theorem dX9_stone_13 : decode cX9_stone 13 = .ok (.iload_n 2, 1) := by decide +kernel
theorem dX9_stone_14 : decode cX9_stone 14 = .ok (.iconst 0, 1) := by decide +kernel
theorem dX9_stone_15 : decode cX9_stone 15 = .ok (.ldc 91, 2) := by decide +kernel
theorem dX9_stone_17 : decode cX9_stone 17 = .ok (.invokestatic 75, 3) := by decide +kernel
theorem dX9_stone_20 : decode cX9_stone 20 = .ok (.ifCond .ne 10, 3) := by decide +kernel
theorem dX9_stone_23 : decode cX9_stone 23 = .ok (.aload_n 0, 1) := by decide +kernel
theorem dX9_stone_24 : decode cX9_stone 24 = .ok (.ldc 82, 2) := by decide +kernel
theorem dX9_stone_26 : decode cX9_stone 26 = .ok (.invokevirtual 83, 3) := by decide +kernel
theorem dX9_stone_29 : decode cX9_stone 29 = .ok (.ireturn, 1) := by decide +kernel
theorem dX9_stone_30 : decode cX9_stone 30 = .ok (.aload_n 0, 1) := by decide +kernel
theorem dX9_stone_31 : decode cX9_stone 31 = .ok (.getfield 9, 3) := by decide +kernel
theorem dX9_stone_34 : decode cX9_stone 34 = .ok (.bipush 6, 2) := by decide +kernel
theorem dX9_stone_36 : decode cX9_stone 36 = .ok (.iload_n 1, 1) := by decide +kernel
theorem dX9_stone_37 : decode cX9_stone 37 = .ok (.iastore, 1) := by decide +kernel
theorem dX9_stone_38 : decode cX9_stone 38 = .ok (.aload_n 0, 1) := by decide +kernel
theorem dX9_stone_39 : decode cX9_stone 39 = .ok (.getfield 9, 3) := by decide +kernel
theorem dX9_stone_42 : decode cX9_stone 42 = .ok (.bipush 7, 2) := by decide +kernel
theorem dX9_stone_44 : decode cX9_stone 44 = .ok (.iload_n 2, 1) := by decide +kernel
theorem dX9_stone_45 : decode cX9_stone 45 = .ok (.iastore, 1) := by decide +kernel
theorem dX9_stone_46 : decode cX9_stone 46 = .ok (.iconst 1, 1) := by decide +kernel
theorem dX9_stone_47 : decode cX9_stone 47 = .ok (.ireturn, 1) := by decide +kernel
theorem dX9_slipOf_0 : decode cX9_slipOf 0 = .ok (.aload_n 0, 1) := by decide +kernel
theorem dX9_slipOf_1 : decode cX9_slipOf 1 = .ok (.getfield 9, 3) := by decide +kernel
theorem dX9_slipOf_4 : decode cX9_slipOf 4 = .ok (.sipush 128, 3) := by decide +kernel
theorem dX9_slipOf_7 : decode cX9_slipOf 7 = .ok (.iconst 5, 1) := by decide +kernel
theorem dX9_slipOf_8 : decode cX9_slipOf 8 = .ok (.iload_n 1, 1) := by decide +kernel
theorem dX9_slipOf_9 : decode cX9_slipOf 9 = .ok (.imul, 1) := by decide +kernel
theorem dX9_slipOf_10 : decode cX9_slipOf 10 = .ok (.iadd, 1) := by decide +kernel
theorem dX9_slipOf_11 : decode cX9_slipOf 11 = .ok (.iload_n 2, 1) := by decide +kernel
theorem dX9_slipOf_12 : decode cX9_slipOf 12 = .ok (.iadd, 1) := by decide +kernel
theorem dX9_slipOf_13 : decode cX9_slipOf 13 = .ok (.iaload, 1) := by decide +kernel
theorem dX9_slipOf_14 : decode cX9_slipOf 14 = .ok (.ireturn, 1) := by decide +kernel
theorem dX9_slip_0 : decode cX9_slip 0 = .ok (.iload_n 1, 1) := by decide +kernel
theorem dX9_slip_1 : decode cX9_slip 1 = .ok (.iconst 0, 1) := by decide +kernel
theorem dX9_slip_2 : decode cX9_slip 2 = .ok (.bipush 6, 2) := by decide +kernel
theorem dX9_slip_4 : decode cX9_slip 4 = .ok (.invokestatic 75, 3) := by decide +kernel
theorem dX9_slip_7 : decode cX9_slip 7 = .ok (.ifCond .eq 49, 3) := by decide +kernel
theorem dX9_slip_10 : decode cX9_slip 10 = .ok (.iload_n 2, 1) := by decide +kernel
theorem dX9_slip_11 : decode cX9_slip 11 = .ok (.ifCond .lt 45, 3) := by decide +kernel
theorem dX9_slip_14 : decode cX9_slip 14 = .ok (.iload_n 2, 1) := by decide +kernel
theorem dX9_slip_15 : decode cX9_slip 15 = .ok (.bipush 100, 2) := by decide +kernel
theorem dX9_slip_17 : decode cX9_slip 17 = .ok (.idiv, 1) := by decide +kernel
theorem dX9_slip_18 : decode cX9_slip 18 = .ok (.invokestatic 87, 3) := by decide +kernel
theorem dX9_slip_21 : decode cX9_slip 21 = .ok (.ifCond .eq 35, 3) := by decide +kernel
theorem dX9_slip_24 : decode cX9_slip 24 = .ok (.iload_n 2, 1) := by decide +kernel
theorem dX9_slip_25 : decode cX9_slip 25 = .ok (.bipush 100, 2) := by decide +kernel
theorem dX9_slip_27 : decode cX9_slip 27 = .ok (.irem, 1) := by decide +kernel
theorem dX9_slip_28 : decode cX9_slip 28 = .ok (.invokestatic 87, 3) := by decide +kernel
theorem dX9_slip_31 : decode cX9_slip 31 = .ok (.ifCond .eq 25, 3) := by decide +kernel
theorem dX9_slip_34 : decode cX9_slip 34 = .ok (.iload_n 2, 1) := by decide +kernel
theorem dX9_slip_35 : decode cX9_slip 35 = .ok (.bipush 100, 2) := by decide +kernel
theorem dX9_slip_37 : decode cX9_slip 37 = .ok (.irem, 1) := by decide +kernel
theorem dX9_slip_38 : decode cX9_slip 38 = .ok (.iload_n 2, 1) := by decide +kernel
theorem dX9_slip_39 : decode cX9_slip 39 = .ok (.bipush 100, 2) := by decide +kernel
theorem dX9_slip_41 : decode cX9_slip 41 = .ok (.idiv, 1) := by decide +kernel
theorem dX9_slip_42 : decode cX9_slip 42 = .ok (.if_icmp .lt 14, 3) := by decide +kernel
theorem dX9_slip_45 : decode cX9_slip 45 = .ok (.iload_n 3, 1) := by decide +kernel
theorem dX9_slip_46 : decode cX9_slip 46 = .ok (.bipush (-99), 2) := by decide +kernel
theorem dX9_slip_48 : decode cX9_slip 48 = .ok (.bipush 99, 2) := by decide +kernel
theorem dX9_slip_50 : decode cX9_slip 50 = .ok (.invokestatic 75, 3) := by decide +kernel
theorem dX9_slip_53 : decode cX9_slip 53 = .ok (.ifCond .ne 10, 3) := by decide +kernel
theorem dX9_slip_56 : decode cX9_slip 56 = .ok (.aload_n 0, 1) := by decide +kernel
theorem dX9_slip_57 : decode cX9_slip 57 = .ok (.ldc 82, 2) := by decide +kernel
theorem dX9_slip_59 : decode cX9_slip 59 = .ok (.invokevirtual 83, 3) := by decide +kernel
theorem dX9_slip_62 : decode cX9_slip 62 = .ok (.ireturn, 1) := by decide +kernel
theorem dX9_slip_63 : decode cX9_slip 63 = .ok (.aload_n 0, 1) := by decide +kernel
theorem dX9_slip_64 : decode cX9_slip 64 = .ok (.getfield 9, 3) := by decide +kernel
theorem dX9_slip_67 : decode cX9_slip 67 = .ok (.iconst 1, 1) := by decide +kernel
theorem dX9_slip_68 : decode cX9_slip 68 = .ok (.iaload, 1) := by decide +kernel
theorem dX9_slip_69 : decode cX9_slip 69 = .ok (.istore 4, 2) := by decide +kernel
theorem dX9_slip_71 : decode cX9_slip 71 = .ok (.iload 4, 2) := by decide +kernel
theorem dX9_slip_73 : decode cX9_slip 73 = .ok (.bipush 8, 2) := by decide +kernel
theorem dX9_slip_75 : decode cX9_slip 75 = .ok (.if_icmp .ne 10, 3) := by decide +kernel
theorem dX9_slip_78 : decode cX9_slip 78 = .ok (.aload_n 0, 1) := by decide +kernel
theorem dX9_slip_79 : decode cX9_slip 79 = .ok (.ldc 92, 2) := by decide +kernel
theorem dX9_slip_81 : decode cX9_slip 81 = .ok (.invokevirtual 83, 3) := by decide +kernel
theorem dX9_slip_84 : decode cX9_slip 84 = .ok (.ireturn, 1) := by decide +kernel
theorem dX9_slip_85 : decode cX9_slip 85 = .ok (.sipush 128, 3) := by decide +kernel
theorem dX9_slip_88 : decode cX9_slip 88 = .ok (.iconst 5, 1) := by decide +kernel
theorem dX9_slip_89 : decode cX9_slip 89 = .ok (.iload 4, 2) := by decide +kernel
theorem dX9_slip_91 : decode cX9_slip 91 = .ok (.imul, 1) := by decide +kernel
theorem dX9_slip_92 : decode cX9_slip 92 = .ok (.iadd, 1) := by decide +kernel
theorem dX9_slip_93 : decode cX9_slip 93 = .ok (.istore 5, 2) := by decide +kernel
theorem dX9_slip_95 : decode cX9_slip 95 = .ok (.aload_n 0, 1) := by decide +kernel
theorem dX9_slip_96 : decode cX9_slip 96 = .ok (.getfield 9, 3) := by decide +kernel
theorem dX9_slip_99 : decode cX9_slip 99 = .ok (.iload 5, 2) := by decide +kernel
theorem dX9_slip_101 : decode cX9_slip 101 = .ok (.iconst 0, 1) := by decide +kernel
theorem dX9_slip_102 : decode cX9_slip 102 = .ok (.iadd, 1) := by decide +kernel
theorem dX9_slip_103 : decode cX9_slip 103 = .ok (.iload_n 1, 1) := by decide +kernel
theorem dX9_slip_104 : decode cX9_slip 104 = .ok (.iastore, 1) := by decide +kernel
theorem dX9_slip_105 : decode cX9_slip 105 = .ok (.aload_n 0, 1) := by decide +kernel
theorem dX9_slip_106 : decode cX9_slip 106 = .ok (.getfield 9, 3) := by decide +kernel
theorem dX9_slip_109 : decode cX9_slip 109 = .ok (.iload 5, 2) := by decide +kernel
theorem dX9_slip_111 : decode cX9_slip 111 = .ok (.iconst 1, 1) := by decide +kernel
theorem dX9_slip_112 : decode cX9_slip 112 = .ok (.iadd, 1) := by decide +kernel
theorem dX9_slip_113 : decode cX9_slip 113 = .ok (.iload_n 2, 1) := by decide +kernel
theorem dX9_slip_114 : decode cX9_slip 114 = .ok (.bipush 100, 2) := by decide +kernel
theorem dX9_slip_116 : decode cX9_slip 116 = .ok (.idiv, 1) := by decide +kernel
theorem dX9_slip_117 : decode cX9_slip 117 = .ok (.iastore, 1) := by decide +kernel
theorem dX9_slip_118 : decode cX9_slip 118 = .ok (.aload_n 0, 1) := by decide +kernel
theorem dX9_slip_119 : decode cX9_slip 119 = .ok (.getfield 9, 3) := by decide +kernel
theorem dX9_slip_122 : decode cX9_slip 122 = .ok (.iload 5, 2) := by decide +kernel
theorem dX9_slip_124 : decode cX9_slip 124 = .ok (.iconst 2, 1) := by decide +kernel
theorem dX9_slip_125 : decode cX9_slip 125 = .ok (.iadd, 1) := by decide +kernel
theorem dX9_slip_126 : decode cX9_slip 126 = .ok (.iload_n 2, 1) := by decide +kernel
theorem dX9_slip_127 : decode cX9_slip 127 = .ok (.bipush 100, 2) := by decide +kernel
theorem dX9_slip_129 : decode cX9_slip 129 = .ok (.irem, 1) := by decide +kernel
theorem dX9_slip_130 : decode cX9_slip 130 = .ok (.iastore, 1) := by decide +kernel
theorem dX9_slip_131 : decode cX9_slip 131 = .ok (.aload_n 0, 1) := by decide +kernel
theorem dX9_slip_132 : decode cX9_slip 132 = .ok (.getfield 9, 3) := by decide +kernel
theorem dX9_slip_135 : decode cX9_slip 135 = .ok (.iload 5, 2) := by decide +kernel
theorem dX9_slip_137 : decode cX9_slip 137 = .ok (.iconst 3, 1) := by decide +kernel
theorem dX9_slip_138 : decode cX9_slip 138 = .ok (.iadd, 1) := by decide +kernel
theorem dX9_slip_139 : decode cX9_slip 139 = .ok (.iload_n 3, 1) := by decide +kernel
theorem dX9_slip_140 : decode cX9_slip 140 = .ok (.iastore, 1) := by decide +kernel
theorem dX9_slip_141 : decode cX9_slip 141 = .ok (.aload_n 0, 1) := by decide +kernel
theorem dX9_slip_142 : decode cX9_slip 142 = .ok (.getfield 9, 3) := by decide +kernel
theorem dX9_slip_145 : decode cX9_slip 145 = .ok (.iload 5, 2) := by decide +kernel
theorem dX9_slip_147 : decode cX9_slip 147 = .ok (.iconst 4, 1) := by decide +kernel
theorem dX9_slip_148 : decode cX9_slip 148 = .ok (.iadd, 1) := by decide +kernel
theorem dX9_slip_149 : decode cX9_slip 149 = .ok (.iconst 1, 1) := by decide +kernel
theorem dX9_slip_150 : decode cX9_slip 150 = .ok (.iastore, 1) := by decide +kernel
theorem dX9_slip_151 : decode cX9_slip 151 = .ok (.aload_n 0, 1) := by decide +kernel
theorem dX9_slip_152 : decode cX9_slip 152 = .ok (.getfield 9, 3) := by decide +kernel
theorem dX9_slip_155 : decode cX9_slip 155 = .ok (.iconst 1, 1) := by decide +kernel
theorem dX9_slip_156 : decode cX9_slip 156 = .ok (.dup2, 1) := by decide +kernel
theorem dX9_slip_157 : decode cX9_slip 157 = .ok (.iaload, 1) := by decide +kernel
theorem dX9_slip_158 : decode cX9_slip 158 = .ok (.iconst 1, 1) := by decide +kernel
theorem dX9_slip_159 : decode cX9_slip 159 = .ok (.iadd, 1) := by decide +kernel
theorem dX9_slip_160 : decode cX9_slip 160 = .ok (.iastore, 1) := by decide +kernel
theorem dX9_slip_161 : decode cX9_slip 161 = .ok (.iload 4, 2) := by decide +kernel
theorem dX9_slip_163 : decode cX9_slip 163 = .ok (.ireturn, 1) := by decide +kernel
theorem dX9_slipIs_0 : decode cX9_slipIs 0 = .ok (.aload_n 0, 1) := by decide +kernel
theorem dX9_slipIs_1 : decode cX9_slipIs 1 = .ok (.iload_n 1, 1) := by decide +kernel
theorem dX9_slipIs_2 : decode cX9_slipIs 2 = .ok (.iconst 1, 1) := by decide +kernel
theorem dX9_slipIs_3 : decode cX9_slipIs 3 = .ok (.invokevirtual 93, 3) := by decide +kernel
theorem dX9_slipIs_6 : decode cX9_slipIs 6 = .ok (.ifCond .eq 21, 3) := by decide +kernel
theorem dX9_slipIs_9 : decode cX9_slipIs 9 = .ok (.iload_n 2, 1) := by decide +kernel
theorem dX9_slipIs_10 : decode cX9_slipIs 10 = .ok (.iconst 0, 1) := by decide +kernel
theorem dX9_slipIs_11 : decode cX9_slipIs 11 = .ok (.iconst 4, 1) := by decide +kernel
theorem dX9_slipIs_12 : decode cX9_slipIs 12 = .ok (.invokestatic 75, 3) := by decide +kernel
theorem dX9_slipIs_15 : decode cX9_slipIs 15 = .ok (.ifCond .eq 12, 3) := by decide +kernel
theorem dX9_slipIs_18 : decode cX9_slipIs 18 = .ok (.aload_n 0, 1) := by decide +kernel
theorem dX9_slipIs_19 : decode cX9_slipIs 19 = .ok (.iload_n 1, 1) := by decide +kernel
theorem dX9_slipIs_20 : decode cX9_slipIs 20 = .ok (.iload_n 2, 1) := by decide +kernel
theorem dX9_slipIs_21 : decode cX9_slipIs 21 = .ok (.invokevirtual 97, 3) := by decide +kernel
theorem dX9_slipIs_24 : decode cX9_slipIs 24 = .ok (.goto 9, 3) := by decide +kernel
theorem dX9_slipIs_27 : decode cX9_slipIs 27 = .ok (.aload_n 0, 1) := by decide +kernel
theorem dX9_slipIs_28 : decode cX9_slipIs 28 = .ok (.ldc 82, 2) := by decide +kernel
theorem dX9_slipIs_30 : decode cX9_slipIs 30 = .ok (.invokevirtual 83, 3) := by decide +kernel
theorem dX9_slipIs_33 : decode cX9_slipIs 33 = .ok (.ireturn, 1) := by decide +kernel
theorem dX9_above_0 : decode cX9_above 0 = .ok (.iload_n 0, 1) := by decide +kernel
theorem dX9_above_1 : decode cX9_above 1 = .ok (.ifCond .ne 7, 3) := by decide +kernel
theorem dX9_above_4 : decode cX9_above 4 = .ok (.iconst (-1), 1) := by decide +kernel
theorem dX9_above_5 : decode cX9_above 5 = .ok (.goto 32, 3) := by decide +kernel
theorem dX9_above_8 : decode cX9_above 8 = .ok (.iload_n 0, 1) := by decide +kernel
theorem dX9_above_9 : decode cX9_above 9 = .ok (.iconst 3, 1) := by decide +kernel
theorem dX9_above_10 : decode cX9_above 10 = .ok (.if_icmp .ne 7, 3) := by decide +kernel
theorem dX9_above_13 : decode cX9_above 13 = .ok (.iconst 2, 1) := by decide +kernel
theorem dX9_above_14 : decode cX9_above 14 = .ok (.goto 23, 3) := by decide +kernel
theorem dX9_above_17 : decode cX9_above 17 = .ok (.iload_n 0, 1) := by decide +kernel
theorem dX9_above_18 : decode cX9_above 18 = .ok (.iconst 4, 1) := by decide +kernel
theorem dX9_above_19 : decode cX9_above 19 = .ok (.if_icmp .ne 7, 3) := by decide +kernel
theorem dX9_above_22 : decode cX9_above 22 = .ok (.iconst 1, 1) := by decide +kernel
theorem dX9_above_23 : decode cX9_above 23 = .ok (.goto 14, 3) := by decide +kernel
theorem dX9_above_26 : decode cX9_above 26 = .ok (.iload_n 0, 1) := by decide +kernel
theorem dX9_above_27 : decode cX9_above 27 = .ok (.bipush 6, 2) := by decide +kernel
theorem dX9_above_29 : decode cX9_above 29 = .ok (.if_icmp .ne 7, 3) := by decide +kernel
theorem dX9_above_32 : decode cX9_above 32 = .ok (.iconst 5, 1) := by decide +kernel
theorem dX9_above_33 : decode cX9_above 33 = .ok (.goto 4, 3) := by decide +kernel
theorem dX9_above_36 : decode cX9_above 36 = .ok (.iconst 0, 1) := by decide +kernel
theorem dX9_above_37 : decode cX9_above 37 = .ok (.ireturn, 1) := by decide +kernel
theorem dX9_as_0 : decode cX9_as 0 = .ok (.aload_n 0, 1) := by decide +kernel
theorem dX9_as_1 : decode cX9_as 1 = .ok (.iload_n 1, 1) := by decide +kernel
theorem dX9_as_2 : decode cX9_as 2 = .ok (.iconst 1, 1) := by decide +kernel
theorem dX9_as_3 : decode cX9_as 3 = .ok (.invokevirtual 93, 3) := by decide +kernel
theorem dX9_as_6 : decode cX9_as 6 = .ok (.ifCond .eq 13, 3) := by decide +kernel
theorem dX9_as_9 : decode cX9_as 9 = .ok (.iload_n 2, 1) := by decide +kernel
theorem dX9_as_10 : decode cX9_as 10 = .ok (.iconst 0, 1) := by decide +kernel
theorem dX9_as_11 : decode cX9_as 11 = .ok (.bipush 6, 2) := by decide +kernel
theorem dX9_as_13 : decode cX9_as 13 = .ok (.invokestatic 75, 3) := by decide +kernel
theorem dX9_as_16 : decode cX9_as 16 = .ok (.ifCond .ne 10, 3) := by decide +kernel
theorem dX9_as_19 : decode cX9_as 19 = .ok (.aload_n 0, 1) := by decide +kernel
theorem dX9_as_20 : decode cX9_as 20 = .ok (.ldc 82, 2) := by decide +kernel
theorem dX9_as_22 : decode cX9_as 22 = .ok (.invokevirtual 83, 3) := by decide +kernel
theorem dX9_as_25 : decode cX9_as 25 = .ok (.ireturn, 1) := by decide +kernel
theorem dX9_as_26 : decode cX9_as 26 = .ok (.aload_n 0, 1) := by decide +kernel
theorem dX9_as_27 : decode cX9_as 27 = .ok (.iload_n 1, 1) := by decide +kernel
theorem dX9_as_28 : decode cX9_as 28 = .ok (.iconst 0, 1) := by decide +kernel
theorem dX9_as_29 : decode cX9_as 29 = .ok (.invokevirtual 97, 3) := by decide +kernel
theorem dX9_as_32 : decode cX9_as 32 = .ok (.istore_n 3, 1) := by decide +kernel
theorem dX9_as_33 : decode cX9_as 33 = .ok (.iload_n 3, 1) := by decide +kernel
theorem dX9_as_34 : decode cX9_as 34 = .ok (.ifCond .lt 16, 3) := by decide +kernel
theorem dX9_as_37 : decode cX9_as 37 = .ok (.iload_n 3, 1) := by decide +kernel
theorem dX9_as_38 : decode cX9_as 38 = .ok (.iload_n 2, 1) := by decide +kernel
theorem dX9_as_39 : decode cX9_as 39 = .ok (.if_icmp .eq 11, 3) := by decide +kernel
theorem dX9_as_42 : decode cX9_as 42 = .ok (.iload_n 3, 1) := by decide +kernel
theorem dX9_as_43 : decode cX9_as 43 = .ok (.invokestatic 100, 3) := by decide +kernel
theorem dX9_as_46 : decode cX9_as 46 = .ok (.istore_n 3, 1) := by decide +kernel
theorem dX9_as_47 : decode cX9_as 47 = .ok (.goto (-14), 3) := by decide +kernel
theorem dX9_as_50 : decode cX9_as 50 = .ok (.iload_n 3, 1) := by decide +kernel
theorem dX9_as_51 : decode cX9_as 51 = .ok (.ifCond .ge 12, 3) := by decide +kernel
theorem dX9_as_54 : decode cX9_as 54 = .ok (.aload_n 0, 1) := by decide +kernel
theorem dX9_as_55 : decode cX9_as 55 = .ok (.ldc 103, 2) := by decide +kernel
theorem dX9_as_57 : decode cX9_as 57 = .ok (.invokevirtual 83, 3) := by decide +kernel
theorem dX9_as_60 : decode cX9_as 60 = .ok (.goto 9, 3) := by decide +kernel
theorem dX9_as_63 : decode cX9_as 63 = .ok (.aload_n 0, 1) := by decide +kernel
theorem dX9_as_64 : decode cX9_as 64 = .ok (.iload_n 1, 1) := by decide +kernel
theorem dX9_as_65 : decode cX9_as 65 = .ok (.iconst 3, 1) := by decide +kernel
theorem dX9_as_66 : decode cX9_as 66 = .ok (.invokevirtual 97, 3) := by decide +kernel
theorem dX9_as_69 : decode cX9_as 69 = .ok (.ireturn, 1) := by decide +kernel
theorem dX9_turn_0 : decode cX9_turn 0 = .ok (.aload_n 0, 1) := by decide +kernel
theorem dX9_turn_1 : decode cX9_turn 1 = .ok (.iload_n 1, 1) := by decide +kernel
theorem dX9_turn_2 : decode cX9_turn 2 = .ok (.iconst 1, 1) := by decide +kernel
theorem dX9_turn_3 : decode cX9_turn 3 = .ok (.invokevirtual 93, 3) := by decide +kernel
theorem dX9_turn_6 : decode cX9_turn 6 = .ok (.ifCond .eq 29, 3) := by decide +kernel
theorem dX9_turn_9 : decode cX9_turn 9 = .ok (.iload_n 2, 1) := by decide +kernel
theorem dX9_turn_10 : decode cX9_turn 10 = .ok (.iconst 0, 1) := by decide +kernel
theorem dX9_turn_11 : decode cX9_turn 11 = .ok (.iconst 1, 1) := by decide +kernel
theorem dX9_turn_12 : decode cX9_turn 12 = .ok (.invokestatic 75, 3) := by decide +kernel
theorem dX9_turn_15 : decode cX9_turn 15 = .ok (.ifCond .eq 20, 3) := by decide +kernel
theorem dX9_turn_18 : decode cX9_turn 18 = .ok (.aload_n 0, 1) := by decide +kernel
theorem dX9_turn_19 : decode cX9_turn 19 = .ok (.sipush 128, 3) := by decide +kernel
theorem dX9_turn_22 : decode cX9_turn 22 = .ok (.iconst 5, 1) := by decide +kernel
theorem dX9_turn_23 : decode cX9_turn 23 = .ok (.iload_n 1, 1) := by decide +kernel
theorem dX9_turn_24 : decode cX9_turn 24 = .ok (.imul, 1) := by decide +kernel
theorem dX9_turn_25 : decode cX9_turn 25 = .ok (.iadd, 1) := by decide +kernel
theorem dX9_turn_26 : decode cX9_turn 26 = .ok (.iconst 4, 1) := by decide +kernel
theorem dX9_turn_27 : decode cX9_turn 27 = .ok (.iadd, 1) := by decide +kernel
theorem dX9_turn_28 : decode cX9_turn 28 = .ok (.iload_n 2, 1) := by decide +kernel
theorem dX9_turn_29 : decode cX9_turn 29 = .ok (.invokevirtual 79, 3) := by decide +kernel
theorem dX9_turn_32 : decode cX9_turn 32 = .ok (.goto 9, 3) := by decide +kernel
theorem dX9_turn_35 : decode cX9_turn 35 = .ok (.aload_n 0, 1) := by decide +kernel
theorem dX9_turn_36 : decode cX9_turn 36 = .ok (.ldc 82, 2) := by decide +kernel
theorem dX9_turn_38 : decode cX9_turn 38 = .ok (.invokevirtual 83, 3) := by decide +kernel
theorem dX9_turn_41 : decode cX9_turn 41 = .ok (.ireturn, 1) := by decide +kernel
theorem dX9_doesAt_0 : decode cX9_doesAt 0 = .ok (.iload_n 2, 1) := by decide +kernel
theorem dX9_doesAt_1 : decode cX9_doesAt 1 = .ok (.aload_n 0, 1) := by decide +kernel
theorem dX9_doesAt_2 : decode cX9_doesAt 2 = .ok (.iload_n 1, 1) := by decide +kernel
theorem dX9_doesAt_3 : decode cX9_doesAt 3 = .ok (.iconst 1, 1) := by decide +kernel
theorem dX9_doesAt_4 : decode cX9_doesAt 4 = .ok (.invokevirtual 97, 3) := by decide +kernel
theorem dX9_doesAt_7 : decode cX9_doesAt 7 = .ok (.aload_n 0, 1) := by decide +kernel
theorem dX9_doesAt_8 : decode cX9_doesAt 8 = .ok (.iload_n 1, 1) := by decide +kernel
theorem dX9_doesAt_9 : decode cX9_doesAt 9 = .ok (.iconst 2, 1) := by decide +kernel
theorem dX9_doesAt_10 : decode cX9_doesAt 10 = .ok (.invokevirtual 97, 3) := by decide +kernel
theorem dX9_doesAt_13 : decode cX9_doesAt 13 = .ok (.invokestatic 75, 3) := by decide +kernel
theorem dX9_doesAt_16 : decode cX9_doesAt 16 = .ok (.ifCond .ne 5, 3) := by decide +kernel
theorem dX9_doesAt_19 : decode cX9_doesAt 19 = .ok (.iconst 0, 1) := by decide +kernel
theorem dX9_doesAt_20 : decode cX9_doesAt 20 = .ok (.ireturn, 1) := by decide +kernel
theorem dX9_doesAt_21 : decode cX9_doesAt 21 = .ok (.aload_n 0, 1) := by decide +kernel
theorem dX9_doesAt_22 : decode cX9_doesAt 22 = .ok (.iload_n 1, 1) := by decide +kernel
theorem dX9_doesAt_23 : decode cX9_doesAt 23 = .ok (.iconst 3, 1) := by decide +kernel
theorem dX9_doesAt_24 : decode cX9_doesAt 24 = .ok (.invokevirtual 97, 3) := by decide +kernel
theorem dX9_doesAt_27 : decode cX9_doesAt 27 = .ok (.istore 4, 2) := by decide +kernel
theorem dX9_doesAt_29 : decode cX9_doesAt 29 = .ok (.iload_n 2, 1) := by decide +kernel
theorem dX9_doesAt_30 : decode cX9_doesAt 30 = .ok (.aload_n 0, 1) := by decide +kernel
theorem dX9_doesAt_31 : decode cX9_doesAt 31 = .ok (.iload_n 1, 1) := by decide +kernel
theorem dX9_doesAt_32 : decode cX9_doesAt 32 = .ok (.iconst 1, 1) := by decide +kernel
theorem dX9_doesAt_33 : decode cX9_doesAt 33 = .ok (.invokevirtual 97, 3) := by decide +kernel
theorem dX9_doesAt_36 : decode cX9_doesAt 36 = .ok (.if_icmp .ne 7, 3) := by decide +kernel
theorem dX9_doesAt_39 : decode cX9_doesAt 39 = .ok (.iconst 1, 1) := by decide +kernel
theorem dX9_doesAt_40 : decode cX9_doesAt 40 = .ok (.goto 4, 3) := by decide +kernel
theorem dX9_doesAt_43 : decode cX9_doesAt 43 = .ok (.iconst 0, 1) := by decide +kernel
theorem dX9_doesAt_44 : decode cX9_doesAt 44 = .ok (.istore 5, 2) := by decide +kernel
theorem dX9_doesAt_46 : decode cX9_doesAt 46 = .ok (.aload_n 0, 1) := by decide +kernel
theorem dX9_doesAt_47 : decode cX9_doesAt 47 = .ok (.iload_n 2, 1) := by decide +kernel
theorem dX9_doesAt_48 : decode cX9_doesAt 48 = .ok (.iconst 2, 1) := by decide +kernel
theorem dX9_doesAt_49 : decode cX9_doesAt 49 = .ok (.invokevirtual 104, 3) := by decide +kernel
theorem dX9_doesAt_52 : decode cX9_doesAt 52 = .ok (.ifCond .le 7, 3) := by decide +kernel
theorem dX9_doesAt_55 : decode cX9_doesAt 55 = .ok (.iconst 1, 1) := by decide +kernel
theorem dX9_doesAt_56 : decode cX9_doesAt 56 = .ok (.goto 4, 3) := by decide +kernel
theorem dX9_doesAt_59 : decode cX9_doesAt 59 = .ok (.iconst 0, 1) := by decide +kernel
theorem dX9_doesAt_60 : decode cX9_doesAt 60 = .ok (.istore 6, 2) := by decide +kernel
theorem dX9_doesAt_62 : decode cX9_doesAt 62 = .ok (.iload 4, 2) := by decide +kernel
theorem dX9_doesAt_64 : decode cX9_doesAt 64 = .ok (.aload_n 0, 1) := by decide +kernel
theorem dX9_doesAt_65 : decode cX9_doesAt 65 = .ok (.iload_n 2, 1) := by decide +kernel
theorem dX9_doesAt_66 : decode cX9_doesAt 66 = .ok (.iconst 1, 1) := by decide +kernel
theorem dX9_doesAt_67 : decode cX9_doesAt 67 = .ok (.invokevirtual 104, 3) := by decide +kernel
theorem dX9_doesAt_70 : decode cX9_doesAt 70 = .ok (.iconst 1, 1) := by decide +kernel
theorem dX9_doesAt_71 : decode cX9_doesAt 71 = .ok (.iadd, 1) := by decide +kernel
theorem dX9_doesAt_72 : decode cX9_doesAt 72 = .ok (.imul, 1) := by decide +kernel
theorem dX9_doesAt_73 : decode cX9_doesAt 73 = .ok (.istore 7, 2) := by decide +kernel
theorem dX9_doesAt_75 : decode cX9_doesAt 75 = .ok (.aload_n 0, 1) := by decide +kernel
theorem dX9_doesAt_76 : decode cX9_doesAt 76 = .ok (.iload_n 1, 1) := by decide +kernel
theorem dX9_doesAt_77 : decode cX9_doesAt 77 = .ok (.iconst 0, 1) := by decide +kernel
theorem dX9_doesAt_78 : decode cX9_doesAt 78 = .ok (.invokevirtual 97, 3) := by decide +kernel
theorem dX9_doesAt_81 : decode cX9_doesAt 81 = .ok (.tableswitch 150 1 6 #[39, 66, 78, 55, 102, 119], 39) := by decide +kernel
theorem dX9_doesAt_120 : decode cX9_doesAt 120 = .ok (.iload_n 3, 1) := by decide +kernel
theorem dX9_doesAt_121 : decode cX9_doesAt 121 = .ok (.ifCond .ne 13, 3) := by decide +kernel
theorem dX9_doesAt_124 : decode cX9_doesAt 124 = .ok (.iload 5, 2) := by decide +kernel
theorem dX9_doesAt_126 : decode cX9_doesAt 126 = .ok (.ifCond .eq 8, 3) := by decide +kernel
theorem dX9_doesAt_129 : decode cX9_doesAt 129 = .ok (.iload 4, 2) := by decide +kernel
theorem dX9_doesAt_131 : decode cX9_doesAt 131 = .ok (.goto 4, 3) := by decide +kernel
theorem dX9_doesAt_134 : decode cX9_doesAt 134 = .ok (.iconst 0, 1) := by decide +kernel
theorem dX9_doesAt_135 : decode cX9_doesAt 135 = .ok (.ireturn, 1) := by decide +kernel
theorem dX9_doesAt_136 : decode cX9_doesAt 136 = .ok (.iload_n 3, 1) := by decide +kernel
theorem dX9_doesAt_137 : decode cX9_doesAt 137 = .ok (.ifCond .ne 8, 3) := by decide +kernel
theorem dX9_doesAt_140 : decode cX9_doesAt 140 = .ok (.iload 4, 2) := by decide +kernel
theorem dX9_doesAt_142 : decode cX9_doesAt 142 = .ok (.goto 4, 3) := by decide +kernel
theorem dX9_doesAt_145 : decode cX9_doesAt 145 = .ok (.iconst 0, 1) := by decide +kernel
theorem dX9_doesAt_146 : decode cX9_doesAt 146 = .ok (.ireturn, 1) := by decide +kernel
theorem dX9_doesAt_147 : decode cX9_doesAt 147 = .ok (.iload_n 3, 1) := by decide +kernel
theorem dX9_doesAt_148 : decode cX9_doesAt 148 = .ok (.iconst 2, 1) := by decide +kernel
theorem dX9_doesAt_149 : decode cX9_doesAt 149 = .ok (.if_icmp .ne 8, 3) := by decide +kernel
theorem dX9_doesAt_152 : decode cX9_doesAt 152 = .ok (.iload 7, 2) := by decide +kernel
theorem dX9_doesAt_154 : decode cX9_doesAt 154 = .ok (.goto 4, 3) := by decide +kernel
theorem dX9_doesAt_157 : decode cX9_doesAt 157 = .ok (.iconst 0, 1) := by decide +kernel
theorem dX9_doesAt_158 : decode cX9_doesAt 158 = .ok (.ireturn, 1) := by decide +kernel
theorem dX9_doesAt_159 : decode cX9_doesAt 159 = .ok (.iload_n 3, 1) := by decide +kernel
theorem dX9_doesAt_160 : decode cX9_doesAt 160 = .ok (.iconst 2, 1) := by decide +kernel
theorem dX9_doesAt_161 : decode cX9_doesAt 161 = .ok (.if_icmp .ne 20, 3) := by decide +kernel
theorem dX9_doesAt_164 : decode cX9_doesAt 164 = .ok (.iload 7, 2) := by decide +kernel
theorem dX9_doesAt_166 : decode cX9_doesAt 166 = .ok (.iload 5, 2) := by decide +kernel
theorem dX9_doesAt_168 : decode cX9_doesAt 168 = .ok (.ifCond .eq 8, 3) := by decide +kernel
theorem dX9_doesAt_171 : decode cX9_doesAt 171 = .ok (.bipush 66, 2) := by decide +kernel
theorem dX9_doesAt_173 : decode cX9_doesAt 173 = .ok (.goto 4, 3) := by decide +kernel
theorem dX9_doesAt_176 : decode cX9_doesAt 176 = .ok (.iconst 0, 1) := by decide +kernel
theorem dX9_doesAt_177 : decode cX9_doesAt 177 = .ok (.iadd, 1) := by decide +kernel
theorem dX9_doesAt_178 : decode cX9_doesAt 178 = .ok (.goto 4, 3) := by decide +kernel
theorem dX9_doesAt_181 : decode cX9_doesAt 181 = .ok (.iconst 0, 1) := by decide +kernel
theorem dX9_doesAt_182 : decode cX9_doesAt 182 = .ok (.ireturn, 1) := by decide +kernel
theorem dX9_doesAt_183 : decode cX9_doesAt 183 = .ok (.iload_n 3, 1) := by decide +kernel
theorem dX9_doesAt_184 : decode cX9_doesAt 184 = .ok (.iconst 1, 1) := by decide +kernel
theorem dX9_doesAt_185 : decode cX9_doesAt 185 = .ok (.if_icmp .ne 13, 3) := by decide +kernel
theorem dX9_doesAt_188 : decode cX9_doesAt 188 = .ok (.iload 6, 2) := by decide +kernel
theorem dX9_doesAt_190 : decode cX9_doesAt 190 = .ok (.ifCond .eq 8, 3) := by decide +kernel
theorem dX9_doesAt_193 : decode cX9_doesAt 193 = .ok (.iload 4, 2) := by decide +kernel
theorem dX9_doesAt_195 : decode cX9_doesAt 195 = .ok (.goto 4, 3) := by decide +kernel
theorem dX9_doesAt_198 : decode cX9_doesAt 198 = .ok (.iconst 0, 1) := by decide +kernel
theorem dX9_doesAt_199 : decode cX9_doesAt 199 = .ok (.ireturn, 1) := by decide +kernel
theorem dX9_doesAt_200 : decode cX9_doesAt 200 = .ok (.iload_n 3, 1) := by decide +kernel
theorem dX9_doesAt_201 : decode cX9_doesAt 201 = .ok (.iconst 2, 1) := by decide +kernel
theorem dX9_doesAt_202 : decode cX9_doesAt 202 = .ok (.if_icmp .ne 10, 3) := by decide +kernel
theorem dX9_doesAt_205 : decode cX9_doesAt 205 = .ok (.iconst 2, 1) := by decide +kernel
theorem dX9_doesAt_206 : decode cX9_doesAt 206 = .ok (.iload 4, 2) := by decide +kernel
theorem dX9_doesAt_208 : decode cX9_doesAt 208 = .ok (.imul, 1) := by decide +kernel
theorem dX9_doesAt_209 : decode cX9_doesAt 209 = .ok (.goto 21, 3) := by decide +kernel
theorem dX9_doesAt_212 : decode cX9_doesAt 212 = .ok (.iload_n 3, 1) := by decide +kernel
theorem dX9_doesAt_213 : decode cX9_doesAt 213 = .ok (.iconst 1, 1) := by decide +kernel
theorem dX9_doesAt_214 : decode cX9_doesAt 214 = .ok (.if_icmp .ne 15, 3) := by decide +kernel
theorem dX9_doesAt_217 : decode cX9_doesAt 217 = .ok (.iload 6, 2) := by decide +kernel
theorem dX9_doesAt_219 : decode cX9_doesAt 219 = .ok (.ifCond .eq 10, 3) := by decide +kernel
theorem dX9_doesAt_222 : decode cX9_doesAt 222 = .ok (.iload 4, 2) := by decide +kernel
theorem dX9_doesAt_224 : decode cX9_doesAt 224 = .ok (.iconst 2, 1) := by decide +kernel
theorem dX9_doesAt_225 : decode cX9_doesAt 225 = .ok (.idiv, 1) := by decide +kernel
theorem dX9_doesAt_226 : decode cX9_doesAt 226 = .ok (.goto 4, 3) := by decide +kernel
theorem dX9_doesAt_229 : decode cX9_doesAt 229 = .ok (.iconst 0, 1) := by decide +kernel
theorem dX9_doesAt_230 : decode cX9_doesAt 230 = .ok (.ireturn, 1) := by decide +kernel
theorem dX9_doesAt_231 : decode cX9_doesAt 231 = .ok (.iconst 0, 1) := by decide +kernel
theorem dX9_doesAt_232 : decode cX9_doesAt 232 = .ok (.ireturn, 1) := by decide +kernel
theorem dX9_does_0 : decode cX9_does 0 = .ok (.aload_n 0, 1) := by decide +kernel
theorem dX9_does_1 : decode cX9_does 1 = .ok (.iload_n 1, 1) := by decide +kernel
theorem dX9_does_2 : decode cX9_does 2 = .ok (.iconst 1, 1) := by decide +kernel
theorem dX9_does_3 : decode cX9_does 3 = .ok (.invokevirtual 93, 3) := by decide +kernel
theorem dX9_does_6 : decode cX9_does 6 = .ok (.ifCond .eq 29, 3) := by decide +kernel
theorem dX9_does_9 : decode cX9_does 9 = .ok (.iload_n 2, 1) := by decide +kernel
theorem dX9_does_10 : decode cX9_does 10 = .ok (.invokestatic 87, 3) := by decide +kernel
theorem dX9_does_13 : decode cX9_does 13 = .ok (.ifCond .eq 22, 3) := by decide +kernel
theorem dX9_does_16 : decode cX9_does 16 = .ok (.iload_n 3, 1) := by decide +kernel
theorem dX9_does_17 : decode cX9_does 17 = .ok (.iconst 0, 1) := by decide +kernel
theorem dX9_does_18 : decode cX9_does 18 = .ok (.iconst 2, 1) := by decide +kernel
theorem dX9_does_19 : decode cX9_does 19 = .ok (.invokestatic 75, 3) := by decide +kernel
theorem dX9_does_22 : decode cX9_does 22 = .ok (.ifCond .eq 13, 3) := by decide +kernel
theorem dX9_does_25 : decode cX9_does 25 = .ok (.aload_n 0, 1) := by decide +kernel
theorem dX9_does_26 : decode cX9_does 26 = .ok (.iload_n 1, 1) := by decide +kernel
theorem dX9_does_27 : decode cX9_does 27 = .ok (.iload_n 2, 1) := by decide +kernel
theorem dX9_does_28 : decode cX9_does 28 = .ok (.iload_n 3, 1) := by decide +kernel
theorem dX9_does_29 : decode cX9_does 29 = .ok (.invokevirtual 107, 3) := by decide +kernel
theorem dX9_does_32 : decode cX9_does 32 = .ok (.goto 9, 3) := by decide +kernel
theorem dX9_does_35 : decode cX9_does 35 = .ok (.aload_n 0, 1) := by decide +kernel
theorem dX9_does_36 : decode cX9_does 36 = .ok (.ldc 82, 2) := by decide +kernel
theorem dX9_does_38 : decode cX9_does 38 = .ok (.invokevirtual 83, 3) := by decide +kernel
theorem dX9_does_41 : decode cX9_does 41 = .ok (.ireturn, 1) := by decide +kernel
theorem dX9_allThat_0 : decode cX9_allThat 0 = .ok (.iconst 0, 1) := by decide +kernel
theorem dX9_allThat_1 : decode cX9_allThat 1 = .ok (.istore_n 3, 1) := by decide +kernel
theorem dX9_allThat_2 : decode cX9_allThat 2 = .ok (.iconst 0, 1) := by decide +kernel
theorem dX9_allThat_3 : decode cX9_allThat 3 = .ok (.istore 4, 2) := by decide +kernel
theorem dX9_allThat_5 : decode cX9_allThat 5 = .ok (.iload 4, 2) := by decide +kernel
theorem dX9_allThat_7 : decode cX9_allThat 7 = .ok (.aload_n 0, 1) := by decide +kernel
theorem dX9_allThat_8 : decode cX9_allThat 8 = .ok (.getfield 9, 3) := by decide +kernel
theorem dX9_allThat_11 : decode cX9_allThat 11 = .ok (.iconst 1, 1) := by decide +kernel
theorem dX9_allThat_12 : decode cX9_allThat 12 = .ok (.iaload, 1) := by decide +kernel
theorem dX9_allThat_13 : decode cX9_allThat 13 = .ok (.if_icmp .ge 35, 3) := by decide +kernel
theorem dX9_allThat_16 : decode cX9_allThat 16 = .ok (.iload_n 3, 1) := by decide +kernel
theorem dX9_allThat_17 : decode cX9_allThat 17 = .ok (.aload_n 0, 1) := by decide +kernel
theorem dX9_allThat_18 : decode cX9_allThat 18 = .ok (.iload 4, 2) := by decide +kernel
theorem dX9_allThat_20 : decode cX9_allThat 20 = .ok (.iconst 4, 1) := by decide +kernel
theorem dX9_allThat_21 : decode cX9_allThat 21 = .ok (.invokevirtual 97, 3) := by decide +kernel
theorem dX9_allThat_24 : decode cX9_allThat 24 = .ok (.iconst 1, 1) := by decide +kernel
theorem dX9_allThat_25 : decode cX9_allThat 25 = .ok (.if_icmp .ne 14, 3) := by decide +kernel
theorem dX9_allThat_28 : decode cX9_allThat 28 = .ok (.aload_n 0, 1) := by decide +kernel
theorem dX9_allThat_29 : decode cX9_allThat 29 = .ok (.iload 4, 2) := by decide +kernel
theorem dX9_allThat_31 : decode cX9_allThat 31 = .ok (.iload_n 1, 1) := by decide +kernel
theorem dX9_allThat_32 : decode cX9_allThat 32 = .ok (.iload_n 2, 1) := by decide +kernel
theorem dX9_allThat_33 : decode cX9_allThat 33 = .ok (.invokevirtual 107, 3) := by decide +kernel
theorem dX9_allThat_36 : decode cX9_allThat 36 = .ok (.goto 4, 3) := by decide +kernel
theorem dX9_allThat_39 : decode cX9_allThat 39 = .ok (.iconst 0, 1) := by decide +kernel
theorem dX9_allThat_40 : decode cX9_allThat 40 = .ok (.iadd, 1) := by decide +kernel
theorem dX9_allThat_41 : decode cX9_allThat 41 = .ok (.istore_n 3, 1) := by decide +kernel
theorem dX9_allThat_42 : decode cX9_allThat 42 = .ok (.iinc 4 1, 3) := by decide +kernel
theorem dX9_allThat_45 : decode cX9_allThat 45 = .ok (.goto (-40), 3) := by decide +kernel
theorem dX9_allThat_48 : decode cX9_allThat 48 = .ok (.iload_n 3, 1) := by decide +kernel
theorem dX9_allThat_49 : decode cX9_allThat 49 = .ok (.ireturn, 1) := by decide +kernel
theorem dX9_goes_0 : decode cX9_goes 0 = .ok (.iconst 0, 1) := by decide +kernel
theorem dX9_goes_1 : decode cX9_goes 1 = .ok (.istore_n 1, 1) := by decide +kernel
theorem dX9_goes_2 : decode cX9_goes 2 = .ok (.iconst 0, 1) := by decide +kernel
theorem dX9_goes_3 : decode cX9_goes 3 = .ok (.istore_n 2, 1) := by decide +kernel
theorem dX9_goes_4 : decode cX9_goes 4 = .ok (.iload_n 2, 1) := by decide +kernel
theorem dX9_goes_5 : decode cX9_goes 5 = .ok (.aload_n 0, 1) := by decide +kernel
theorem dX9_goes_6 : decode cX9_goes 6 = .ok (.getfield 9, 3) := by decide +kernel
theorem dX9_goes_9 : decode cX9_goes 9 = .ok (.iconst 0, 1) := by decide +kernel
theorem dX9_goes_10 : decode cX9_goes 10 = .ok (.iaload, 1) := by decide +kernel
theorem dX9_goes_11 : decode cX9_goes 11 = .ok (.if_icmp .ge 110, 3) := by decide +kernel
theorem dX9_goes_14 : decode cX9_goes 14 = .ok (.aload_n 0, 1) := by decide +kernel
theorem dX9_goes_15 : decode cX9_goes 15 = .ok (.iload_n 2, 1) := by decide +kernel
theorem dX9_goes_16 : decode cX9_goes 16 = .ok (.iconst 3, 1) := by decide +kernel
theorem dX9_goes_17 : decode cX9_goes 17 = .ok (.invokevirtual 104, 3) := by decide +kernel
theorem dX9_goes_20 : decode cX9_goes 20 = .ok (.iconst 1, 1) := by decide +kernel
theorem dX9_goes_21 : decode cX9_goes 21 = .ok (.if_icmp .ne 7, 3) := by decide +kernel
theorem dX9_goes_24 : decode cX9_goes 24 = .ok (.iconst 0, 1) := by decide +kernel
theorem dX9_goes_25 : decode cX9_goes 25 = .ok (.goto 4, 3) := by decide +kernel
theorem dX9_goes_28 : decode cX9_goes 28 = .ok (.iload_n 1, 1) := by decide +kernel
theorem dX9_goes_29 : decode cX9_goes 29 = .ok (.aload_n 0, 1) := by decide +kernel
theorem dX9_goes_30 : decode cX9_goes 30 = .ok (.iload_n 2, 1) := by decide +kernel
theorem dX9_goes_31 : decode cX9_goes 31 = .ok (.iconst 0, 1) := by decide +kernel
theorem dX9_goes_32 : decode cX9_goes 32 = .ok (.invokevirtual 111, 3) := by decide +kernel
theorem dX9_goes_35 : decode cX9_goes 35 = .ok (.iadd, 1) := by decide +kernel
theorem dX9_goes_36 : decode cX9_goes 36 = .ok (.istore_n 1, 1) := by decide +kernel
theorem dX9_goes_37 : decode cX9_goes 37 = .ok (.aload_n 0, 1) := by decide +kernel
theorem dX9_goes_38 : decode cX9_goes 38 = .ok (.getfield 25, 3) := by decide +kernel
theorem dX9_goes_41 : decode cX9_goes 41 = .ok (.iload_n 2, 1) := by decide +kernel
theorem dX9_goes_42 : decode cX9_goes 42 = .ok (.iload_n 1, 1) := by decide +kernel
theorem dX9_goes_43 : decode cX9_goes 43 = .ok (.iastore, 1) := by decide +kernel
theorem dX9_goes_44 : decode cX9_goes 44 = .ok (.aload_n 0, 1) := by decide +kernel
theorem dX9_goes_45 : decode cX9_goes 45 = .ok (.getfield 19, 3) := by decide +kernel
theorem dX9_goes_48 : decode cX9_goes 48 = .ok (.iload_n 2, 1) := by decide +kernel
theorem dX9_goes_49 : decode cX9_goes 49 = .ok (.iconst 1, 1) := by decide +kernel
theorem dX9_goes_50 : decode cX9_goes 50 = .ok (.iadd, 1) := by decide +kernel
theorem dX9_goes_51 : decode cX9_goes 51 = .ok (.aload_n 0, 1) := by decide +kernel
theorem dX9_goes_52 : decode cX9_goes 52 = .ok (.getfield 19, 3) := by decide +kernel
