theorem dX9_goes_55 : decode cX9_goes 55 = .ok (.iload_n 2, 1) := by decide +kernel
theorem dX9_goes_56 : decode cX9_goes 56 = .ok (.iaload, 1) := by decide +kernel
theorem dX9_goes_57 : decode cX9_goes 57 = .ok (.iload_n 1, 1) := by decide +kernel
theorem dX9_goes_58 : decode cX9_goes 58 = .ok (.iadd, 1) := by decide +kernel
theorem dX9_goes_59 : decode cX9_goes 59 = .ok (.aload_n 0, 1) := by decide +kernel
theorem dX9_goes_60 : decode cX9_goes 60 = .ok (.iload_n 2, 1) := by decide +kernel
theorem dX9_goes_61 : decode cX9_goes 61 = .ok (.iconst 0, 1) := by decide +kernel
theorem dX9_goes_62 : decode cX9_goes 62 = .ok (.invokevirtual 104, 3) := by decide +kernel
theorem dX9_goes_65 : decode cX9_goes 65 = .ok (.iadd, 1) := by decide +kernel
theorem dX9_goes_66 : decode cX9_goes 66 = .ok (.aload_n 0, 1) := by decide +kernel
theorem dX9_goes_67 : decode cX9_goes 67 = .ok (.iload_n 2, 1) := by decide +kernel
theorem dX9_goes_68 : decode cX9_goes 68 = .ok (.iconst 1, 1) := by decide +kernel
theorem dX9_goes_69 : decode cX9_goes 69 = .ok (.invokevirtual 111, 3) := by decide +kernel
theorem dX9_goes_72 : decode cX9_goes 72 = .ok (.iadd, 1) := by decide +kernel
theorem dX9_goes_73 : decode cX9_goes 73 = .ok (.aload_n 0, 1) := by decide +kernel
theorem dX9_goes_74 : decode cX9_goes 74 = .ok (.iload_n 2, 1) := by decide +kernel
theorem dX9_goes_75 : decode cX9_goes 75 = .ok (.iconst 4, 1) := by decide +kernel
theorem dX9_goes_76 : decode cX9_goes 76 = .ok (.invokevirtual 104, 3) := by decide +kernel
theorem dX9_goes_79 : decode cX9_goes 79 = .ok (.iadd, 1) := by decide +kernel
theorem dX9_goes_80 : decode cX9_goes 80 = .ok (.iastore, 1) := by decide +kernel
theorem dX9_goes_81 : decode cX9_goes 81 = .ok (.aload_n 0, 1) := by decide +kernel
theorem dX9_goes_82 : decode cX9_goes 82 = .ok (.getfield 22, 3) := by decide +kernel
theorem dX9_goes_85 : decode cX9_goes 85 = .ok (.iload_n 2, 1) := by decide +kernel
theorem dX9_goes_86 : decode cX9_goes 86 = .ok (.iconst 1, 1) := by decide +kernel
theorem dX9_goes_87 : decode cX9_goes 87 = .ok (.iadd, 1) := by decide +kernel
theorem dX9_goes_88 : decode cX9_goes 88 = .ok (.aload_n 0, 1) := by decide +kernel
theorem dX9_goes_89 : decode cX9_goes 89 = .ok (.getfield 22, 3) := by decide +kernel
theorem dX9_goes_92 : decode cX9_goes 92 = .ok (.iload_n 2, 1) := by decide +kernel
theorem dX9_goes_93 : decode cX9_goes 93 = .ok (.iaload, 1) := by decide +kernel
theorem dX9_goes_94 : decode cX9_goes 94 = .ok (.sipush 1760, 3) := by decide +kernel
theorem dX9_goes_97 : decode cX9_goes 97 = .ok (.iadd, 1) := by decide +kernel
theorem dX9_goes_98 : decode cX9_goes 98 = .ok (.iconst 3, 1) := by decide +kernel
theorem dX9_goes_99 : decode cX9_goes 99 = .ok (.aload_n 0, 1) := by decide +kernel
theorem dX9_goes_100 : decode cX9_goes 100 = .ok (.iload_n 2, 1) := by decide +kernel
theorem dX9_goes_101 : decode cX9_goes 101 = .ok (.iconst 1, 1) := by decide +kernel
theorem dX9_goes_102 : decode cX9_goes 102 = .ok (.invokevirtual 104, 3) := by decide +kernel
theorem dX9_goes_105 : decode cX9_goes 105 = .ok (.imul, 1) := by decide +kernel
theorem dX9_goes_106 : decode cX9_goes 106 = .ok (.isub, 1) := by decide +kernel
theorem dX9_goes_107 : decode cX9_goes 107 = .ok (.aload_n 0, 1) := by decide +kernel
theorem dX9_goes_108 : decode cX9_goes 108 = .ok (.iload_n 2, 1) := by decide +kernel
theorem dX9_goes_109 : decode cX9_goes 109 = .ok (.iconst 2, 1) := by decide +kernel
theorem dX9_goes_110 : decode cX9_goes 110 = .ok (.invokevirtual 111, 3) := by decide +kernel
theorem dX9_goes_113 : decode cX9_goes 113 = .ok (.isub, 1) := by decide +kernel
theorem dX9_goes_114 : decode cX9_goes 114 = .ok (.iastore, 1) := by decide +kernel
theorem dX9_goes_115 : decode cX9_goes 115 = .ok (.iinc 2 1, 3) := by decide +kernel
theorem dX9_goes_118 : decode cX9_goes 118 = .ok (.goto (-114), 3) := by decide +kernel
theorem dX9_goes_121 : decode cX9_goes 121 = .ok (.return_, 1) := by decide +kernel
theorem dX9_missIn_0 : decode cX9_missIn 0 = .ok (.aload_n 0, 1) := by decide +kernel
theorem dX9_missIn_1 : decode cX9_missIn 1 = .ok (.getfield 9, 3) := by decide +kernel
theorem dX9_missIn_4 : decode cX9_missIn 4 = .ok (.iconst 0, 1) := by decide +kernel
theorem dX9_missIn_5 : decode cX9_missIn 5 = .ok (.iaload, 1) := by decide +kernel
theorem dX9_missIn_6 : decode cX9_missIn 6 = .ok (.istore_n 2, 1) := by decide +kernel
theorem dX9_missIn_7 : decode cX9_missIn 7 = .ok (.aload_n 0, 1) := by decide +kernel
theorem dX9_missIn_8 : decode cX9_missIn 8 = .ok (.getfield 19, 3) := by decide +kernel
theorem dX9_missIn_11 : decode cX9_missIn 11 = .ok (.iload_n 2, 1) := by decide +kernel
theorem dX9_missIn_12 : decode cX9_missIn 12 = .ok (.iaload, 1) := by decide +kernel
theorem dX9_missIn_13 : decode cX9_missIn 13 = .ok (.aload_n 0, 1) := by decide +kernel
theorem dX9_missIn_14 : decode cX9_missIn 14 = .ok (.getfield 9, 3) := by decide +kernel
theorem dX9_missIn_17 : decode cX9_missIn 17 = .ok (.bipush 6, 2) := by decide +kernel
theorem dX9_missIn_19 : decode cX9_missIn 19 = .ok (.iaload, 1) := by decide +kernel
theorem dX9_missIn_20 : decode cX9_missIn 20 = .ok (.isub, 1) := by decide +kernel
theorem dX9_missIn_21 : decode cX9_missIn 21 = .ok (.istore_n 3, 1) := by decide +kernel
theorem dX9_missIn_22 : decode cX9_missIn 22 = .ok (.aload_n 0, 1) := by decide +kernel
theorem dX9_missIn_23 : decode cX9_missIn 23 = .ok (.getfield 22, 3) := by decide +kernel
theorem dX9_missIn_26 : decode cX9_missIn 26 = .ok (.iload_n 2, 1) := by decide +kernel
theorem dX9_missIn_27 : decode cX9_missIn 27 = .ok (.iaload, 1) := by decide +kernel
theorem dX9_missIn_28 : decode cX9_missIn 28 = .ok (.aload_n 0, 1) := by decide +kernel
theorem dX9_missIn_29 : decode cX9_missIn 29 = .ok (.getfield 9, 3) := by decide +kernel
theorem dX9_missIn_32 : decode cX9_missIn 32 = .ok (.bipush 7, 2) := by decide +kernel
theorem dX9_missIn_34 : decode cX9_missIn 34 = .ok (.iaload, 1) := by decide +kernel
theorem dX9_missIn_35 : decode cX9_missIn 35 = .ok (.isub, 1) := by decide +kernel
theorem dX9_missIn_36 : decode cX9_missIn 36 = .ok (.istore 4, 2) := by decide +kernel
theorem dX9_missIn_38 : decode cX9_missIn 38 = .ok (.iload_n 1, 1) := by decide +kernel
theorem dX9_missIn_39 : decode cX9_missIn 39 = .ok (.ifCond .ne 7, 3) := by decide +kernel
theorem dX9_missIn_42 : decode cX9_missIn 42 = .ok (.iload_n 3, 1) := by decide +kernel
theorem dX9_missIn_43 : decode cX9_missIn 43 = .ok (.goto 23, 3) := by decide +kernel
theorem dX9_missIn_46 : decode cX9_missIn 46 = .ok (.iload_n 1, 1) := by decide +kernel
theorem dX9_missIn_47 : decode cX9_missIn 47 = .ok (.iconst 1, 1) := by decide +kernel
theorem dX9_missIn_48 : decode cX9_missIn 48 = .ok (.if_icmp .ne 8, 3) := by decide +kernel
theorem dX9_missIn_51 : decode cX9_missIn 51 = .ok (.iload 4, 2) := by decide +kernel
theorem dX9_missIn_53 : decode cX9_missIn 53 = .ok (.goto 13, 3) := by decide +kernel
theorem dX9_missIn_56 : decode cX9_missIn 56 = .ok (.iload_n 3, 1) := by decide +kernel
theorem dX9_missIn_57 : decode cX9_missIn 57 = .ok (.invokestatic 114, 3) := by decide +kernel
theorem dX9_missIn_60 : decode cX9_missIn 60 = .ok (.iload 4, 2) := by decide +kernel
theorem dX9_missIn_62 : decode cX9_missIn 62 = .ok (.invokestatic 114, 3) := by decide +kernel
theorem dX9_missIn_65 : decode cX9_missIn 65 = .ok (.iadd, 1) := by decide +kernel
theorem dX9_missIn_66 : decode cX9_missIn 66 = .ok (.ireturn, 1) := by decide +kernel
theorem dX9_mileIs_0 : decode cX9_mileIs 0 = .ok (.aload_n 0, 1) := by decide +kernel
theorem dX9_mileIs_1 : decode cX9_mileIs 1 = .ok (.iload_n 1, 1) := by decide +kernel
theorem dX9_mileIs_2 : decode cX9_mileIs 2 = .ok (.iconst 0, 1) := by decide +kernel
theorem dX9_mileIs_3 : decode cX9_mileIs 3 = .ok (.invokevirtual 93, 3) := by decide +kernel
theorem dX9_mileIs_6 : decode cX9_mileIs 6 = .ok (.ifCond .eq 13, 3) := by decide +kernel
theorem dX9_mileIs_9 : decode cX9_mileIs 9 = .ok (.iload_n 2, 1) := by decide +kernel
theorem dX9_mileIs_10 : decode cX9_mileIs 10 = .ok (.iconst 0, 1) := by decide +kernel
theorem dX9_mileIs_11 : decode cX9_mileIs 11 = .ok (.bipush 8, 2) := by decide +kernel
theorem dX9_mileIs_13 : decode cX9_mileIs 13 = .ok (.invokestatic 75, 3) := by decide +kernel
theorem dX9_mileIs_16 : decode cX9_mileIs 16 = .ok (.ifCond .ne 10, 3) := by decide +kernel
theorem dX9_mileIs_19 : decode cX9_mileIs 19 = .ok (.aload_n 0, 1) := by decide +kernel
theorem dX9_mileIs_20 : decode cX9_mileIs 20 = .ok (.ldc 82, 2) := by decide +kernel
theorem dX9_mileIs_22 : decode cX9_mileIs 22 = .ok (.invokevirtual 83, 3) := by decide +kernel
theorem dX9_mileIs_25 : decode cX9_mileIs 25 = .ok (.ireturn, 1) := by decide +kernel
theorem dX9_mileIs_26 : decode cX9_mileIs 26 = .ok (.aload_n 0, 1) := by decide +kernel
theorem dX9_mileIs_27 : decode cX9_mileIs 27 = .ok (.invokevirtual 117, 3) := by decide +kernel
theorem dX9_mileIs_30 : decode cX9_mileIs 30 = .ok (.iload_n 2, 1) := by decide +kernel
theorem dX9_mileIs_31 : decode cX9_mileIs 31 = .ok (.tableswitch 56 5 8 #[29, 35, 42, 49], 29) := by decide +kernel
theorem dX9_mileIs_60 : decode cX9_mileIs 60 = .ok (.aload_n 0, 1) := by decide +kernel
theorem dX9_mileIs_61 : decode cX9_mileIs 61 = .ok (.iload_n 1, 1) := by decide +kernel
theorem dX9_mileIs_62 : decode cX9_mileIs 62 = .ok (.invokevirtual 120, 3) := by decide +kernel
theorem dX9_mileIs_65 : decode cX9_mileIs 65 = .ok (.ireturn, 1) := by decide +kernel
theorem dX9_mileIs_66 : decode cX9_mileIs 66 = .ok (.aload_n 0, 1) := by decide +kernel
theorem dX9_mileIs_67 : decode cX9_mileIs 67 = .ok (.getfield 25, 3) := by decide +kernel
theorem dX9_mileIs_70 : decode cX9_mileIs 70 = .ok (.iload_n 1, 1) := by decide +kernel
theorem dX9_mileIs_71 : decode cX9_mileIs 71 = .ok (.iaload, 1) := by decide +kernel
theorem dX9_mileIs_72 : decode cX9_mileIs 72 = .ok (.ireturn, 1) := by decide +kernel
theorem dX9_mileIs_73 : decode cX9_mileIs 73 = .ok (.aload_n 0, 1) := by decide +kernel
theorem dX9_mileIs_74 : decode cX9_mileIs 74 = .ok (.iload_n 1, 1) := by decide +kernel
theorem dX9_mileIs_75 : decode cX9_mileIs 75 = .ok (.iconst 1, 1) := by decide +kernel
theorem dX9_mileIs_76 : decode cX9_mileIs 76 = .ok (.invokevirtual 111, 3) := by decide +kernel
theorem dX9_mileIs_79 : decode cX9_mileIs 79 = .ok (.ireturn, 1) := by decide +kernel
theorem dX9_mileIs_80 : decode cX9_mileIs 80 = .ok (.aload_n 0, 1) := by decide +kernel
theorem dX9_mileIs_81 : decode cX9_mileIs 81 = .ok (.iload_n 1, 1) := by decide +kernel
theorem dX9_mileIs_82 : decode cX9_mileIs 82 = .ok (.iconst 2, 1) := by decide +kernel
theorem dX9_mileIs_83 : decode cX9_mileIs 83 = .ok (.invokevirtual 111, 3) := by decide +kernel
theorem dX9_mileIs_86 : decode cX9_mileIs 86 = .ok (.ireturn, 1) := by decide +kernel
theorem dX9_mileIs_87 : decode cX9_mileIs 87 = .ok (.aload_n 0, 1) := by decide +kernel
theorem dX9_mileIs_88 : decode cX9_mileIs 88 = .ok (.iload_n 1, 1) := by decide +kernel
theorem dX9_mileIs_89 : decode cX9_mileIs 89 = .ok (.iload_n 2, 1) := by decide +kernel
theorem dX9_mileIs_90 : decode cX9_mileIs 90 = .ok (.invokevirtual 104, 3) := by decide +kernel
theorem dX9_mileIs_93 : decode cX9_mileIs 93 = .ok (.ireturn, 1) := by decide +kernel
theorem dX9_feed_0 : decode cX9_feed 0 = .ok (.iload_n 3, 1) := by decide +kernel
theorem dX9_feed_1 : decode cX9_feed 1 = .ok (.iconst 1, 1) := by decide +kernel
theorem dX9_feed_2 : decode cX9_feed 2 = .ok (.bipush 8, 2) := by decide +kernel
theorem dX9_feed_4 : decode cX9_feed 4 = .ok (.invokestatic 75, 3) := by decide +kernel
theorem dX9_feed_7 : decode cX9_feed 7 = .ok (.ifCond .ne 10, 3) := by decide +kernel
theorem dX9_feed_10 : decode cX9_feed 10 = .ok (.aload_n 0, 1) := by decide +kernel
theorem dX9_feed_11 : decode cX9_feed 11 = .ok (.ldc 82, 2) := by decide +kernel
theorem dX9_feed_13 : decode cX9_feed 13 = .ok (.invokevirtual 83, 3) := by decide +kernel
theorem dX9_feed_16 : decode cX9_feed 16 = .ok (.ireturn, 1) := by decide +kernel
theorem dX9_feed_17 : decode cX9_feed 17 = .ok (.aload_n 0, 1) := by decide +kernel
theorem dX9_feed_18 : decode cX9_feed 18 = .ok (.getfield 9, 3) := by decide +kernel
theorem dX9_feed_21 : decode cX9_feed 21 = .ok (.iconst 3, 1) := by decide +kernel
theorem dX9_feed_22 : decode cX9_feed 22 = .ok (.iaload, 1) := by decide +kernel
theorem dX9_feed_23 : decode cX9_feed 23 = .ok (.iload_n 3, 1) := by decide +kernel
theorem dX9_feed_24 : decode cX9_feed 24 = .ok (.iadd, 1) := by decide +kernel
theorem dX9_feed_25 : decode cX9_feed 25 = .ok (.bipush 60, 2) := by decide +kernel
theorem dX9_feed_27 : decode cX9_feed 27 = .ok (.if_icmp .le 10, 3) := by decide +kernel
theorem dX9_feed_30 : decode cX9_feed 30 = .ok (.aload_n 0, 1) := by decide +kernel
theorem dX9_feed_31 : decode cX9_feed 31 = .ok (.ldc 92, 2) := by decide +kernel
theorem dX9_feed_33 : decode cX9_feed 33 = .ok (.invokevirtual 83, 3) := by decide +kernel
theorem dX9_feed_36 : decode cX9_feed 36 = .ok (.ireturn, 1) := by decide +kernel
theorem dX9_feed_37 : decode cX9_feed 37 = .ok (.iconst 0, 1) := by decide +kernel
theorem dX9_feed_38 : decode cX9_feed 38 = .ok (.istore 4, 2) := by decide +kernel
theorem dX9_feed_40 : decode cX9_feed 40 = .ok (.iload 4, 2) := by decide +kernel
theorem dX9_feed_42 : decode cX9_feed 42 = .ok (.iload_n 3, 1) := by decide +kernel
theorem dX9_feed_43 : decode cX9_feed 43 = .ok (.if_icmp .ge 46, 3) := by decide +kernel
theorem dX9_feed_46 : decode cX9_feed 46 = .ok (.aload_n 0, 1) := by decide +kernel
theorem dX9_feed_47 : decode cX9_feed 47 = .ok (.getfield 9, 3) := by decide +kernel
theorem dX9_feed_50 : decode cX9_feed 50 = .ok (.sipush 232, 3) := by decide +kernel
theorem dX9_feed_53 : decode cX9_feed 53 = .ok (.aload_n 0, 1) := by decide +kernel
theorem dX9_feed_54 : decode cX9_feed 54 = .ok (.getfield 9, 3) := by decide +kernel
theorem dX9_feed_57 : decode cX9_feed 57 = .ok (.iconst 3, 1) := by decide +kernel
theorem dX9_feed_58 : decode cX9_feed 58 = .ok (.iaload, 1) := by decide +kernel
theorem dX9_feed_59 : decode cX9_feed 59 = .ok (.iadd, 1) := by decide +kernel
theorem dX9_feed_60 : decode cX9_feed 60 = .ok (.lload_n 1, 1) := by decide +kernel
theorem dX9_feed_61 : decode cX9_feed 61 = .ok (.bipush 8, 2) := by decide +kernel
theorem dX9_feed_63 : decode cX9_feed 63 = .ok (.iload 4, 2) := by decide +kernel
theorem dX9_feed_65 : decode cX9_feed 65 = .ok (.imul, 1) := by decide +kernel
theorem dX9_feed_66 : decode cX9_feed 66 = .ok (.lshr, 1) := by decide +kernel
theorem dX9_feed_67 : decode cX9_feed 67 = .ok (.ldc2_w 123, 3) := by decide +kernel
theorem dX9_feed_70 : decode cX9_feed 70 = .ok (.land, 1) := by decide +kernel
theorem dX9_feed_71 : decode cX9_feed 71 = .ok (.l2i, 1) := by decide +kernel
theorem dX9_feed_72 : decode cX9_feed 72 = .ok (.iastore, 1) := by decide +kernel
theorem dX9_feed_73 : decode cX9_feed 73 = .ok (.aload_n 0, 1) := by decide +kernel
theorem dX9_feed_74 : decode cX9_feed 74 = .ok (.getfield 9, 3) := by decide +kernel
theorem dX9_feed_77 : decode cX9_feed 77 = .ok (.iconst 3, 1) := by decide +kernel
theorem dX9_feed_78 : decode cX9_feed 78 = .ok (.dup2, 1) := by decide +kernel
theorem dX9_feed_79 : decode cX9_feed 79 = .ok (.iaload, 1) := by decide +kernel
theorem dX9_feed_80 : decode cX9_feed 80 = .ok (.iconst 1, 1) := by decide +kernel
theorem dX9_feed_81 : decode cX9_feed 81 = .ok (.iadd, 1) := by decide +kernel
theorem dX9_feed_82 : decode cX9_feed 82 = .ok (.iastore, 1) := by decide +kernel
theorem dX9_feed_83 : decode cX9_feed 83 = .ok (.iinc 4 1, 3) := by decide +kernel
theorem dX9_feed_86 : decode cX9_feed 86 = .ok (.goto (-46), 3) := by decide +kernel
theorem dX9_feed_89 : decode cX9_feed 89 = .ok (.aload_n 0, 1) := by decide +kernel
theorem dX9_feed_90 : decode cX9_feed 90 = .ok (.getfield 9, 3) := by decide +kernel
theorem dX9_feed_93 : decode cX9_feed 93 = .ok (.iconst 3, 1) := by decide +kernel
theorem dX9_feed_94 : decode cX9_feed 94 = .ok (.iaload, 1) := by decide +kernel
theorem dX9_feed_95 : decode cX9_feed 95 = .ok (.ireturn, 1) := by decide +kernel
theorem dX9_here_0 : decode cX9_here 0 = .ok (.aload_n 0, 1) := by decide +kernel
theorem dX9_here_1 : decode cX9_here 1 = .ok (.getfield 125, 3) := by decide +kernel
theorem dX9_here_4 : decode cX9_here 4 = .ok (.ifCond .ne 32, 3) := by decide +kernel
theorem dX9_here_7 : decode cX9_here 7 = .ok (.aload_n 0, 1) := by decide +kernel
theorem dX9_here_8 : decode cX9_here 8 = .ok (.getfield 129, 3) := by decide +kernel
theorem dX9_here_11 : decode cX9_here 11 = .ok (.aload_n 0, 1) := by decide +kernel
theorem dX9_here_12 : decode cX9_here 12 = .ok (.getfield 9, 3) := by decide +kernel
theorem dX9_here_15 : decode cX9_here 15 = .ok (.iconst 3, 1) := by decide +kernel
theorem dX9_here_16 : decode cX9_here 16 = .ok (.iaload, 1) := by decide +kernel
theorem dX9_here_17 : decode cX9_here 17 = .ok (.if_icmp .ge 19, 3) := by decide +kernel
theorem dX9_here_20 : decode cX9_here 20 = .ok (.aload_n 0, 1) := by decide +kernel
theorem dX9_here_21 : decode cX9_here 21 = .ok (.getfield 9, 3) := by decide +kernel
theorem dX9_here_24 : decode cX9_here 24 = .ok (.sipush 232, 3) := by decide +kernel
theorem dX9_here_27 : decode cX9_here 27 = .ok (.aload_n 0, 1) := by decide +kernel
theorem dX9_here_28 : decode cX9_here 28 = .ok (.getfield 129, 3) := by decide +kernel
theorem dX9_here_31 : decode cX9_here 31 = .ok (.iadd, 1) := by decide +kernel
theorem dX9_here_32 : decode cX9_here 32 = .ok (.iaload, 1) := by decide +kernel
theorem dX9_here_33 : decode cX9_here 33 = .ok (.goto 4, 3) := by decide +kernel
theorem dX9_here_36 : decode cX9_here 36 = .ok (.iconst (-1), 1) := by decide +kernel
theorem dX9_here_37 : decode cX9_here 37 = .ok (.ireturn, 1) := by decide +kernel
theorem dX9_takes_0 : decode cX9_takes 0 = .ok (.aload_n 0, 1) := by decide +kernel
theorem dX9_takes_1 : decode cX9_takes 1 = .ok (.invokevirtual 133, 3) := by decide +kernel
theorem dX9_takes_4 : decode cX9_takes 4 = .ok (.iload_n 1, 1) := by decide +kernel
theorem dX9_takes_5 : decode cX9_takes 5 = .ok (.if_icmp .ne 7, 3) := by decide +kernel
theorem dX9_takes_8 : decode cX9_takes 8 = .ok (.iconst 1, 1) := by decide +kernel
theorem dX9_takes_9 : decode cX9_takes 9 = .ok (.goto 4, 3) := by decide +kernel
theorem dX9_takes_12 : decode cX9_takes 12 = .ok (.iconst 0, 1) := by decide +kernel
theorem dX9_takes_13 : decode cX9_takes 13 = .ok (.istore_n 2, 1) := by decide +kernel
theorem dX9_takes_14 : decode cX9_takes 14 = .ok (.aload_n 0, 1) := by decide +kernel
theorem dX9_takes_15 : decode cX9_takes 15 = .ok (.dup, 1) := by decide +kernel
theorem dX9_takes_16 : decode cX9_takes 16 = .ok (.getfield 129, 3) := by decide +kernel
theorem dX9_takes_19 : decode cX9_takes 19 = .ok (.iload_n 2, 1) := by decide +kernel
theorem dX9_takes_20 : decode cX9_takes 20 = .ok (.ifCond .eq 7, 3) := by decide +kernel
theorem dX9_takes_23 : decode cX9_takes 23 = .ok (.iconst 1, 1) := by decide +kernel
theorem dX9_takes_24 : decode cX9_takes 24 = .ok (.goto 4, 3) := by decide +kernel
theorem dX9_takes_27 : decode cX9_takes 27 = .ok (.iconst 0, 1) := by decide +kernel
theorem dX9_takes_28 : decode cX9_takes 28 = .ok (.iadd, 1) := by decide +kernel
theorem dX9_takes_29 : decode cX9_takes 29 = .ok (.putfield 129, 3) := by decide +kernel
theorem dX9_takes_32 : decode cX9_takes 32 = .ok (.iload_n 2, 1) := by decide +kernel
theorem dX9_takes_33 : decode cX9_takes 33 = .ok (.ireturn, 1) := by decide +kernel
theorem dX9_codes_0 : decode cX9_codes 0 = .ok (.aload_n 0, 1) := by decide +kernel
theorem dX9_codes_1 : decode cX9_codes 1 = .ok (.getfield 125, 3) := by decide +kernel
theorem dX9_codes_4 : decode cX9_codes 4 = .ok (.ifCond .ne 23, 3) := by decide +kernel
theorem dX9_codes_7 : decode cX9_codes 7 = .ok (.aload_n 0, 1) := by decide +kernel
theorem dX9_codes_8 : decode cX9_codes 8 = .ok (.getfield 38, 3) := by decide +kernel
theorem dX9_codes_11 : decode cX9_codes 11 = .ok (.aload_n 0, 1) := by decide +kernel
theorem dX9_codes_12 : decode cX9_codes 12 = .ok (.getfield 137, 3) := by decide +kernel
theorem dX9_codes_15 : decode cX9_codes 15 = .ok (.iload_n 1, 1) := by decide +kernel
theorem dX9_codes_16 : decode cX9_codes 16 = .ok (.iastore, 1) := by decide +kernel
theorem dX9_codes_17 : decode cX9_codes 17 = .ok (.aload_n 0, 1) := by decide +kernel
theorem dX9_codes_18 : decode cX9_codes 18 = .ok (.dup, 1) := by decide +kernel
theorem dX9_codes_19 : decode cX9_codes 19 = .ok (.getfield 137, 3) := by decide +kernel
theorem dX9_codes_22 : decode cX9_codes 22 = .ok (.iconst 1, 1) := by decide +kernel
theorem dX9_codes_23 : decode cX9_codes 23 = .ok (.iadd, 1) := by decide +kernel
theorem dX9_codes_24 : decode cX9_codes 24 = .ok (.putfield 137, 3) := by decide +kernel
theorem dX9_codes_27 : decode cX9_codes 27 = .ok (.return_, 1) := by decide +kernel
theorem dX9_either_0 : decode cX9_either 0 = .ok (.aload_n 0, 1) := by decide +kernel
theorem dX9_either_1 : decode cX9_either 1 = .ok (.invokevirtual 140, 3) := by decide +kernel
theorem dX9_either_4 : decode cX9_either 4 = .ok (.aload_n 0, 1) := by decide +kernel
theorem dX9_either_5 : decode cX9_either 5 = .ok (.bipush 124, 2) := by decide +kernel
theorem dX9_either_7 : decode cX9_either 7 = .ok (.invokevirtual 143, 3) := by decide +kernel
theorem dX9_either_10 : decode cX9_either 10 = .ok (.ifCond .eq 17, 3) := by decide +kernel
theorem dX9_either_13 : decode cX9_either 13 = .ok (.aload_n 0, 1) := by decide +kernel
theorem dX9_either_14 : decode cX9_either 14 = .ok (.invokevirtual 140, 3) := by decide +kernel
theorem dX9_either_17 : decode cX9_either 17 = .ok (.aload_n 0, 1) := by decide +kernel
theorem dX9_either_18 : decode cX9_either 18 = .ok (.sipush 20000, 3) := by decide +kernel
theorem dX9_either_21 : decode cX9_either 21 = .ok (.invokevirtual 146, 3) := by decide +kernel
theorem dX9_either_24 : decode cX9_either 24 = .ok (.goto (-20), 3) := by decide +kernel
theorem dX9_either_27 : decode cX9_either 27 = .ok (.return_, 1) := by decide +kernel
theorem dX9_both_0 : decode cX9_both 0 = .ok (.aload_n 0, 1) := by decide +kernel
theorem dX9_both_1 : decode cX9_both 1 = .ok (.invokevirtual 150, 3) := by decide +kernel
theorem dX9_both_4 : decode cX9_both 4 = .ok (.aload_n 0, 1) := by decide +kernel
theorem dX9_both_5 : decode cX9_both 5 = .ok (.bipush 38, 2) := by decide +kernel
theorem dX9_both_7 : decode cX9_both 7 = .ok (.invokevirtual 143, 3) := by decide +kernel
theorem dX9_both_10 : decode cX9_both 10 = .ok (.ifCond .eq 17, 3) := by decide +kernel
theorem dX9_both_13 : decode cX9_both 13 = .ok (.aload_n 0, 1) := by decide +kernel
theorem dX9_both_14 : decode cX9_both 14 = .ok (.invokevirtual 150, 3) := by decide +kernel
theorem dX9_both_17 : decode cX9_both 17 = .ok (.aload_n 0, 1) := by decide +kernel
theorem dX9_both_18 : decode cX9_both 18 = .ok (.sipush 20001, 3) := by decide +kernel
theorem dX9_both_21 : decode cX9_both 21 = .ok (.invokevirtual 146, 3) := by decide +kernel
theorem dX9_both_24 : decode cX9_both 24 = .ok (.goto (-20), 3) := by decide +kernel
theorem dX9_both_27 : decode cX9_both 27 = .ok (.return_, 1) := by decide +kernel
theorem dX9_compared_0 : decode cX9_compared 0 = .ok (.aload_n 0, 1) := by decide +kernel
theorem dX9_compared_1 : decode cX9_compared 1 = .ok (.invokevirtual 153, 3) := by decide +kernel
theorem dX9_compared_4 : decode cX9_compared 4 = .ok (.aload_n 0, 1) := by decide +kernel
theorem dX9_compared_5 : decode cX9_compared 5 = .ok (.bipush 60, 2) := by decide +kernel
theorem dX9_compared_7 : decode cX9_compared 7 = .ok (.invokevirtual 143, 3) := by decide +kernel
theorem dX9_compared_10 : decode cX9_compared 10 = .ok (.ifCond .eq 9, 3) := by decide +kernel
theorem dX9_compared_13 : decode cX9_compared 13 = .ok (.sipush 20002, 3) := by decide +kernel
theorem dX9_compared_16 : decode cX9_compared 16 = .ok (.goto 34, 3) := by decide +kernel
theorem dX9_compared_19 : decode cX9_compared 19 = .ok (.aload_n 0, 1) := by decide +kernel
theorem dX9_compared_20 : decode cX9_compared 20 = .ok (.bipush 61, 2) := by decide +kernel
theorem dX9_compared_22 : decode cX9_compared 22 = .ok (.invokevirtual 143, 3) := by decide +kernel
theorem dX9_compared_25 : decode cX9_compared 25 = .ok (.ifCond .eq 9, 3) := by decide +kernel
theorem dX9_compared_28 : decode cX9_compared 28 = .ok (.sipush 20003, 3) := by decide +kernel
theorem dX9_compared_31 : decode cX9_compared 31 = .ok (.goto 19, 3) := by decide +kernel
theorem dX9_compared_34 : decode cX9_compared 34 = .ok (.aload_n 0, 1) := by decide +kernel
theorem dX9_compared_35 : decode cX9_compared 35 = .ok (.bipush 62, 2) := by decide +kernel
theorem dX9_compared_37 : decode cX9_compared 37 = .ok (.invokevirtual 143, 3) := by decide +kernel
theorem dX9_compared_40 : decode cX9_compared 40 = .ok (.ifCond .eq 9, 3) := by decide +kernel
theorem dX9_compared_43 : decode cX9_compared 43 = .ok (.sipush 20004, 3) := by decide +kernel
theorem dX9_compared_46 : decode cX9_compared 46 = .ok (.goto 4, 3) := by decide +kernel
theorem dX9_compared_49 : decode cX9_compared 49 = .ok (.iconst 0, 1) := by decide +kernel
theorem dX9_compared_50 : decode cX9_compared 50 = .ok (.istore_n 1, 1) := by decide +kernel
theorem dX9_compared_51 : decode cX9_compared 51 = .ok (.iload_n 1, 1) := by decide +kernel
theorem dX9_compared_52 : decode cX9_compared 52 = .ok (.ifCond .le 12, 3) := by decide +kernel
theorem dX9_compared_55 : decode cX9_compared 55 = .ok (.aload_n 0, 1) := by decide +kernel
theorem dX9_compared_56 : decode cX9_compared 56 = .ok (.invokevirtual 153, 3) := by decide +kernel
theorem dX9_compared_59 : decode cX9_compared 59 = .ok (.aload_n 0, 1) := by decide +kernel
theorem dX9_compared_60 : decode cX9_compared 60 = .ok (.iload_n 1, 1) := by decide +kernel
theorem dX9_compared_61 : decode cX9_compared 61 = .ok (.invokevirtual 146, 3) := by decide +kernel
theorem dX9_compared_64 : decode cX9_compared 64 = .ok (.return_, 1) := by decide +kernel
theorem dX9_sum_0 : decode cX9_sum 0 = .ok (.aload_n 0, 1) := by decide +kernel
theorem dX9_sum_1 : decode cX9_sum 1 = .ok (.invokevirtual 156, 3) := by decide +kernel
theorem dX9_sum_4 : decode cX9_sum 4 = .ok (.aload_n 0, 1) := by decide +kernel
theorem dX9_sum_5 : decode cX9_sum 5 = .ok (.bipush 43, 2) := by decide +kernel
theorem dX9_sum_7 : decode cX9_sum 7 = .ok (.invokevirtual 143, 3) := by decide +kernel
theorem dX9_sum_10 : decode cX9_sum 10 = .ok (.ifCond .eq 9, 3) := by decide +kernel
theorem dX9_sum_13 : decode cX9_sum 13 = .ok (.sipush 20005, 3) := by decide +kernel
theorem dX9_sum_16 : decode cX9_sum 16 = .ok (.goto 19, 3) := by decide +kernel
theorem dX9_sum_19 : decode cX9_sum 19 = .ok (.aload_n 0, 1) := by decide +kernel
theorem dX9_sum_20 : decode cX9_sum 20 = .ok (.bipush 45, 2) := by decide +kernel
theorem dX9_sum_22 : decode cX9_sum 22 = .ok (.invokevirtual 143, 3) := by decide +kernel
theorem dX9_sum_25 : decode cX9_sum 25 = .ok (.ifCond .eq 9, 3) := by decide +kernel
theorem dX9_sum_28 : decode cX9_sum 28 = .ok (.sipush 20006, 3) := by decide +kernel
theorem dX9_sum_31 : decode cX9_sum 31 = .ok (.goto 4, 3) := by decide +kernel
theorem dX9_sum_34 : decode cX9_sum 34 = .ok (.iconst 0, 1) := by decide +kernel
theorem dX9_sum_35 : decode cX9_sum 35 = .ok (.istore_n 1, 1) := by decide +kernel
theorem dX9_sum_36 : decode cX9_sum 36 = .ok (.iload_n 1, 1) := by decide +kernel
theorem dX9_sum_37 : decode cX9_sum 37 = .ok (.ifCond .le 47, 3) := by decide +kernel
theorem dX9_sum_40 : decode cX9_sum 40 = .ok (.aload_n 0, 1) := by decide +kernel
theorem dX9_sum_41 : decode cX9_sum 41 = .ok (.invokevirtual 156, 3) := by decide +kernel
theorem dX9_sum_44 : decode cX9_sum 44 = .ok (.aload_n 0, 1) := by decide +kernel
theorem dX9_sum_45 : decode cX9_sum 45 = .ok (.iload_n 1, 1) := by decide +kernel
theorem dX9_sum_46 : decode cX9_sum 46 = .ok (.invokevirtual 146, 3) := by decide +kernel
theorem dX9_sum_49 : decode cX9_sum 49 = .ok (.aload_n 0, 1) := by decide +kernel
theorem dX9_sum_50 : decode cX9_sum 50 = .ok (.bipush 43, 2) := by decide +kernel
theorem dX9_sum_52 : decode cX9_sum 52 = .ok (.invokevirtual 143, 3) := by decide +kernel
theorem dX9_sum_55 : decode cX9_sum 55 = .ok (.ifCond .eq 9, 3) := by decide +kernel
theorem dX9_sum_58 : decode cX9_sum 58 = .ok (.sipush 20005, 3) := by decide +kernel
theorem dX9_sum_61 : decode cX9_sum 61 = .ok (.goto 19, 3) := by decide +kernel
theorem dX9_sum_64 : decode cX9_sum 64 = .ok (.aload_n 0, 1) := by decide +kernel
theorem dX9_sum_65 : decode cX9_sum 65 = .ok (.bipush 45, 2) := by decide +kernel
theorem dX9_sum_67 : decode cX9_sum 67 = .ok (.invokevirtual 143, 3) := by decide +kernel
theorem dX9_sum_70 : decode cX9_sum 70 = .ok (.ifCond .eq 9, 3) := by decide +kernel
theorem dX9_sum_73 : decode cX9_sum 73 = .ok (.sipush 20006, 3) := by decide +kernel
theorem dX9_sum_76 : decode cX9_sum 76 = .ok (.goto 4, 3) := by decide +kernel
theorem dX9_sum_79 : decode cX9_sum 79 = .ok (.iconst 0, 1) := by decide +kernel
theorem dX9_sum_80 : decode cX9_sum 80 = .ok (.istore_n 1, 1) := by decide +kernel
theorem dX9_sum_81 : decode cX9_sum 81 = .ok (.goto (-45), 3) := by decide +kernel
theorem dX9_sum_84 : decode cX9_sum 84 = .ok (.return_, 1) := by decide +kernel
theorem dX9_product_0 : decode cX9_product 0 = .ok (.aload_n 0, 1) := by decide +kernel
theorem dX9_product_1 : decode cX9_product 1 = .ok (.invokevirtual 159, 3) := by decide +kernel
theorem dX9_product_4 : decode cX9_product 4 = .ok (.aload_n 0, 1) := by decide +kernel
theorem dX9_product_5 : decode cX9_product 5 = .ok (.bipush 42, 2) := by decide +kernel
theorem dX9_product_7 : decode cX9_product 7 = .ok (.invokevirtual 143, 3) := by decide +kernel
theorem dX9_product_10 : decode cX9_product 10 = .ok (.ifCond .eq 9, 3) := by decide +kernel
theorem dX9_product_13 : decode cX9_product 13 = .ok (.sipush 20007, 3) := by decide +kernel
theorem dX9_product_16 : decode cX9_product 16 = .ok (.goto 34, 3) := by decide +kernel
theorem dX9_product_19 : decode cX9_product 19 = .ok (.aload_n 0, 1) := by decide +kernel
theorem dX9_product_20 : decode cX9_product 20 = .ok (.bipush 47, 2) := by decide +kernel
theorem dX9_product_22 : decode cX9_product 22 = .ok (.invokevirtual 143, 3) := by decide +kernel
theorem dX9_product_25 : decode cX9_product 25 = .ok (.ifCond .eq 9, 3) := by decide +kernel
theorem dX9_product_28 : decode cX9_product 28 = .ok (.sipush 20008, 3) := by decide +kernel
theorem dX9_product_31 : decode cX9_product 31 = .ok (.goto 19, 3) := by decide +kernel
theorem dX9_product_34 : decode cX9_product 34 = .ok (.aload_n 0, 1) := by decide +kernel
theorem dX9_product_35 : decode cX9_product 35 = .ok (.bipush 37, 2) := by decide +kernel
theorem dX9_product_37 : decode cX9_product 37 = .ok (.invokevirtual 143, 3) := by decide +kernel
theorem dX9_product_40 : decode cX9_product 40 = .ok (.ifCond .eq 9, 3) := by decide +kernel
theorem dX9_product_43 : decode cX9_product 43 = .ok (.sipush 20009, 3) := by decide +kernel
theorem dX9_product_46 : decode cX9_product 46 = .ok (.goto 4, 3) := by decide +kernel
theorem dX9_product_49 : decode cX9_product 49 = .ok (.iconst 0, 1) := by decide +kernel
theorem dX9_product_50 : decode cX9_product 50 = .ok (.istore_n 1, 1) := by decide +kernel
theorem dX9_product_51 : decode cX9_product 51 = .ok (.iload_n 1, 1) := by decide +kernel
theorem dX9_product_52 : decode cX9_product 52 = .ok (.ifCond .le 62, 3) := by decide +kernel
theorem dX9_product_55 : decode cX9_product 55 = .ok (.aload_n 0, 1) := by decide +kernel
theorem dX9_product_56 : decode cX9_product 56 = .ok (.invokevirtual 159, 3) := by decide +kernel
theorem dX9_product_59 : decode cX9_product 59 = .ok (.aload_n 0, 1) := by decide +kernel
theorem dX9_product_60 : decode cX9_product 60 = .ok (.iload_n 1, 1) := by decide +kernel
theorem dX9_product_61 : decode cX9_product 61 = .ok (.invokevirtual 146, 3) := by decide +kernel
theorem dX9_product_64 : decode cX9_product 64 = .ok (.aload_n 0, 1) := by decide +kernel
theorem dX9_product_65 : decode cX9_product 65 = .ok (.bipush 42, 2) := by decide +kernel
theorem dX9_product_67 : decode cX9_product 67 = .ok (.invokevirtual 143, 3) := by decide +kernel
theorem dX9_product_70 : decode cX9_product 70 = .ok (.ifCond .eq 9, 3) := by decide +kernel
theorem dX9_product_73 : decode cX9_product 73 = .ok (.sipush 20007, 3) := by decide +kernel
theorem dX9_product_76 : decode cX9_product 76 = .ok (.goto 34, 3) := by decide +kernel
theorem dX9_product_79 : decode cX9_product 79 = .ok (.aload_n 0, 1) := by decide +kernel
theorem dX9_product_80 : decode cX9_product 80 = .ok (.bipush 47, 2) := by decide +kernel
theorem dX9_product_82 : decode cX9_product 82 = .ok (.invokevirtual 143, 3) := by decide +kernel
theorem dX9_product_85 : decode cX9_product 85 = .ok (.ifCond .eq 9, 3) := by decide +kernel
theorem dX9_product_88 : decode cX9_product 88 = .ok (.sipush 20008, 3) := by decide +kernel
theorem dX9_product_91 : decode cX9_product 91 = .ok (.goto 19, 3) := by decide +kernel
theorem dX9_product_94 : decode cX9_product 94 = .ok (.aload_n 0, 1) := by decide +kernel
theorem dX9_product_95 : decode cX9_product 95 = .ok (.bipush 37, 2) := by decide +kernel
theorem dX9_product_97 : decode cX9_product 97 = .ok (.invokevirtual 143, 3) := by decide +kernel
theorem dX9_product_100 : decode cX9_product 100 = .ok (.ifCond .eq 9, 3) := by decide +kernel
theorem dX9_product_103 : decode cX9_product 103 = .ok (.sipush 20009, 3) := by decide +kernel
theorem dX9_product_106 : decode cX9_product 106 = .ok (.goto 4, 3) := by decide +kernel
theorem dX9_product_109 : decode cX9_product 109 = .ok (.iconst 0, 1) := by decide +kernel
theorem dX9_product_110 : decode cX9_product 110 = .ok (.istore_n 1, 1) := by decide +kernel
theorem dX9_product_111 : decode cX9_product 111 = .ok (.goto (-60), 3) := by decide +kernel
theorem dX9_product_114 : decode cX9_product 114 = .ok (.return_, 1) := by decide +kernel
theorem dX9_nameOf_0 : decode cX9_nameOf 0 = .ok (.iconst (-1), 1) := by decide +kernel
theorem dX9_nameOf_1 : decode cX9_nameOf 1 = .ok (.istore_n 2, 1) := by decide +kernel
theorem dX9_nameOf_2 : decode cX9_nameOf 2 = .ok (.iconst 0, 1) := by decide +kernel
theorem dX9_nameOf_3 : decode cX9_nameOf 3 = .ok (.istore_n 3, 1) := by decide +kernel
theorem dX9_nameOf_4 : decode cX9_nameOf 4 = .ok (.iload_n 3, 1) := by decide +kernel
theorem dX9_nameOf_5 : decode cX9_nameOf 5 = .ok (.aload_n 0, 1) := by decide +kernel
theorem dX9_nameOf_6 : decode cX9_nameOf 6 = .ok (.getfield 34, 3) := by decide +kernel
theorem dX9_nameOf_9 : decode cX9_nameOf 9 = .ok (.aload_n 0, 1) := by decide +kernel
theorem dX9_nameOf_10 : decode cX9_nameOf 10 = .ok (.getfield 162, 3) := by decide +kernel
theorem dX9_nameOf_13 : decode cX9_nameOf 13 = .ok (.aaload, 1) := by decide +kernel
theorem dX9_nameOf_14 : decode cX9_nameOf 14 = .ok (.invokevirtual 165, 3) := by decide +kernel
theorem dX9_nameOf_17 : decode cX9_nameOf 17 = .ok (.if_icmp .ge 32, 3) := by decide +kernel
theorem dX9_nameOf_20 : decode cX9_nameOf 20 = .ok (.aload_n 0, 1) := by decide +kernel
theorem dX9_nameOf_21 : decode cX9_nameOf 21 = .ok (.getfield 34, 3) := by decide +kernel
theorem dX9_nameOf_24 : decode cX9_nameOf 24 = .ok (.aload_n 0, 1) := by decide +kernel
theorem dX9_nameOf_25 : decode cX9_nameOf 25 = .ok (.getfield 162, 3) := by decide +kernel
theorem dX9_nameOf_28 : decode cX9_nameOf 28 = .ok (.aaload, 1) := by decide +kernel
theorem dX9_nameOf_29 : decode cX9_nameOf 29 = .ok (.iload_n 3, 1) := by decide +kernel
theorem dX9_nameOf_30 : decode cX9_nameOf 30 = .ok (.invokevirtual 168, 3) := by decide +kernel
theorem dX9_nameOf_33 : decode cX9_nameOf 33 = .ok (.iload_n 1, 1) := by decide +kernel
theorem dX9_nameOf_34 : decode cX9_nameOf 34 = .ok (.if_icmp .ne 7, 3) := by decide +kernel
theorem dX9_nameOf_37 : decode cX9_nameOf 37 = .ok (.iload_n 3, 1) := by decide +kernel
theorem dX9_nameOf_38 : decode cX9_nameOf 38 = .ok (.goto 4, 3) := by decide +kernel
theorem dX9_nameOf_41 : decode cX9_nameOf 41 = .ok (.iload_n 2, 1) := by decide +kernel
theorem dX9_nameOf_42 : decode cX9_nameOf 42 = .ok (.istore_n 2, 1) := by decide +kernel
theorem dX9_nameOf_43 : decode cX9_nameOf 43 = .ok (.iinc 3 1, 3) := by decide +kernel
theorem dX9_nameOf_46 : decode cX9_nameOf 46 = .ok (.goto (-42), 3) := by decide +kernel
theorem dX9_nameOf_49 : decode cX9_nameOf 49 = .ok (.iload_n 2, 1) := by decide +kernel
theorem dX9_nameOf_50 : decode cX9_nameOf 50 = .ok (.ireturn, 1) := by decide +kernel
theorem dX9_one_0 : decode cX9_one 0 = .ok (.aload_n 0, 1) := by decide +kernel
theorem dX9_one_1 : decode cX9_one 1 = .ok (.invokevirtual 133, 3) := by decide +kernel
theorem dX9_one_4 : decode cX9_one 4 = .ok (.istore_n 1, 1) := by decide +kernel
theorem dX9_one_5 : decode cX9_one 5 = .ok (.iload_n 1, 1) := by decide +kernel
theorem dX9_one_6 : decode cX9_one 6 = .ok (.bipush 33, 2) := by decide +kernel
theorem dX9_one_8 : decode cX9_one 8 = .ok (.if_icmp .eq 9, 3) := by decide +kernel
theorem dX9_one_11 : decode cX9_one 11 = .ok (.iload_n 1, 1) := by decide +kernel
theorem dX9_one_12 : decode cX9_one 12 = .ok (.bipush 40, 2) := by decide +kernel
theorem dX9_one_14 : decode cX9_one 14 = .ok (.if_icmp .ne 102, 3) := by decide +kernel
theorem dX9_one_17 : decode cX9_one 17 = .ok (.aload_n 0, 1) := by decide +kernel
theorem dX9_one_18 : decode cX9_one 18 = .ok (.aload_n 0, 1) := by decide +kernel
theorem dX9_one_19 : decode cX9_one 19 = .ok (.getfield 172, 3) := by decide +kernel
theorem dX9_one_22 : decode cX9_one 22 = .ok (.iconst 5, 1) := by decide +kernel
theorem dX9_one_23 : decode cX9_one 23 = .ok (.if_icmp .ne 7, 3) := by decide +kernel
theorem dX9_one_26 : decode cX9_one 26 = .ok (.iconst 1, 1) := by decide +kernel
theorem dX9_one_27 : decode cX9_one 27 = .ok (.goto 4, 3) := by decide +kernel
theorem dX9_one_30 : decode cX9_one 30 = .ok (.iconst 0, 1) := by decide +kernel
theorem dX9_one_31 : decode cX9_one 31 = .ok (.putfield 125, 3) := by decide +kernel
theorem dX9_one_34 : decode cX9_one 34 = .ok (.aload_n 0, 1) := by decide +kernel
theorem dX9_one_35 : decode cX9_one 35 = .ok (.getfield 125, 3) := by decide +kernel
theorem dX9_one_38 : decode cX9_one 38 = .ok (.ifCond .ne 209, 3) := by decide +kernel
theorem dX9_one_41 : decode cX9_one 41 = .ok (.aload_n 0, 1) := by decide +kernel
theorem dX9_one_42 : decode cX9_one 42 = .ok (.dup, 1) := by decide +kernel
theorem dX9_one_43 : decode cX9_one 43 = .ok (.getfield 172, 3) := by decide +kernel
theorem dX9_one_46 : decode cX9_one 46 = .ok (.iconst 1, 1) := by decide +kernel
theorem dX9_one_47 : decode cX9_one 47 = .ok (.iadd, 1) := by decide +kernel
theorem dX9_one_48 : decode cX9_one 48 = .ok (.putfield 172, 3) := by decide +kernel
theorem dX9_one_51 : decode cX9_one 51 = .ok (.aload_n 0, 1) := by decide +kernel
theorem dX9_one_52 : decode cX9_one 52 = .ok (.dup, 1) := by decide +kernel
theorem dX9_one_53 : decode cX9_one 53 = .ok (.getfield 129, 3) := by decide +kernel
theorem dX9_one_56 : decode cX9_one 56 = .ok (.iconst 1, 1) := by decide +kernel
theorem dX9_one_57 : decode cX9_one 57 = .ok (.iadd, 1) := by decide +kernel
theorem dX9_one_58 : decode cX9_one 58 = .ok (.putfield 129, 3) := by decide +kernel
theorem dX9_one_61 : decode cX9_one 61 = .ok (.iload_n 1, 1) := by decide +kernel
theorem dX9_one_62 : decode cX9_one 62 = .ok (.bipush 33, 2) := by decide +kernel
theorem dX9_one_64 : decode cX9_one 64 = .ok (.if_icmp .ne 17, 3) := by decide +kernel
theorem dX9_one_67 : decode cX9_one 67 = .ok (.aload_n 0, 1) := by decide +kernel
theorem dX9_one_68 : decode cX9_one 68 = .ok (.invokevirtual 159, 3) := by decide +kernel
theorem dX9_one_71 : decode cX9_one 71 = .ok (.aload_n 0, 1) := by decide +kernel
theorem dX9_one_72 : decode cX9_one 72 = .ok (.sipush 20010, 3) := by decide +kernel
theorem dX9_one_75 : decode cX9_one 75 = .ok (.invokevirtual 146, 3) := by decide +kernel
theorem dX9_one_78 : decode cX9_one 78 = .ok (.goto 25, 3) := by decide +kernel
theorem dX9_one_81 : decode cX9_one 81 = .ok (.aload_n 0, 1) := by decide +kernel
theorem dX9_one_82 : decode cX9_one 82 = .ok (.invokevirtual 175, 3) := by decide +kernel
theorem dX9_one_85 : decode cX9_one 85 = .ok (.aload_n 0, 1) := by decide +kernel
theorem dX9_one_86 : decode cX9_one 86 = .ok (.aload_n 0, 1) := by decide +kernel
theorem dX9_one_87 : decode cX9_one 87 = .ok (.bipush 41, 2) := by decide +kernel
theorem dX9_one_89 : decode cX9_one 89 = .ok (.invokevirtual 143, 3) := by decide +kernel
theorem dX9_one_92 : decode cX9_one 92 = .ok (.ifCond .ne 7, 3) := by decide +kernel
theorem dX9_one_95 : decode cX9_one 95 = .ok (.iconst 1, 1) := by decide +kernel
theorem dX9_one_96 : decode cX9_one 96 = .ok (.goto 4, 3) := by decide +kernel
theorem dX9_one_99 : decode cX9_one 99 = .ok (.iconst 0, 1) := by decide +kernel
theorem dX9_one_100 : decode cX9_one 100 = .ok (.putfield 125, 3) := by decide +kernel
theorem dX9_one_103 : decode cX9_one 103 = .ok (.aload_n 0, 1) := by decide +kernel
theorem dX9_one_104 : decode cX9_one 104 = .ok (.dup, 1) := by decide +kernel
theorem dX9_one_105 : decode cX9_one 105 = .ok (.getfield 172, 3) := by decide +kernel
theorem dX9_one_108 : decode cX9_one 108 = .ok (.iconst 1, 1) := by decide +kernel
theorem dX9_one_109 : decode cX9_one 109 = .ok (.isub, 1) := by decide +kernel
theorem dX9_one_110 : decode cX9_one 110 = .ok (.putfield 172, 3) := by decide +kernel
theorem dX9_one_113 : decode cX9_one 113 = .ok (.goto 134, 3) := by decide +kernel
theorem dX9_one_116 : decode cX9_one 116 = .ok (.iload_n 1, 1) := by decide +kernel
theorem dX9_one_117 : decode cX9_one 117 = .ok (.bipush 48, 2) := by decide +kernel
theorem dX9_one_119 : decode cX9_one 119 = .ok (.bipush 57, 2) := by decide +kernel
theorem dX9_one_121 : decode cX9_one 121 = .ok (.invokestatic 75, 3) := by decide +kernel
theorem dX9_one_124 : decode cX9_one 124 = .ok (.ifCond .eq 63, 3) := by decide +kernel
theorem dX9_one_127 : decode cX9_one 127 = .ok (.iconst 0, 1) := by decide +kernel
theorem dX9_one_128 : decode cX9_one 128 = .ok (.istore_n 2, 1) := by decide +kernel
theorem dX9_one_129 : decode cX9_one 129 = .ok (.iconst 0, 1) := by decide +kernel
theorem dX9_one_130 : decode cX9_one 130 = .ok (.istore_n 3, 1) := by decide +kernel
theorem dX9_one_131 : decode cX9_one 131 = .ok (.iload_n 3, 1) := by decide +kernel
theorem dX9_one_132 : decode cX9_one 132 = .ok (.iconst 4, 1) := by decide +kernel
theorem dX9_one_133 : decode cX9_one 133 = .ok (.if_icmp .ge 46, 3) := by decide +kernel
theorem dX9_one_136 : decode cX9_one 136 = .ok (.aload_n 0, 1) := by decide +kernel
theorem dX9_one_137 : decode cX9_one 137 = .ok (.invokevirtual 133, 3) := by decide +kernel
theorem dX9_one_140 : decode cX9_one 140 = .ok (.bipush 48, 2) := by decide +kernel
theorem dX9_one_142 : decode cX9_one 142 = .ok (.bipush 57, 2) := by decide +kernel
theorem dX9_one_144 : decode cX9_one 144 = .ok (.invokestatic 75, 3) := by decide +kernel
theorem dX9_one_147 : decode cX9_one 147 = .ok (.ifCond .eq 32, 3) := by decide +kernel
theorem dX9_one_150 : decode cX9_one 150 = .ok (.bipush 10, 2) := by decide +kernel
theorem dX9_one_152 : decode cX9_one 152 = .ok (.iload_n 2, 1) := by decide +kernel
theorem dX9_one_153 : decode cX9_one 153 = .ok (.imul, 1) := by decide +kernel
theorem dX9_one_154 : decode cX9_one 154 = .ok (.aload_n 0, 1) := by decide +kernel
theorem dX9_one_155 : decode cX9_one 155 = .ok (.invokevirtual 133, 3) := by decide +kernel
theorem dX9_one_158 : decode cX9_one 158 = .ok (.iadd, 1) := by decide +kernel
theorem dX9_one_159 : decode cX9_one 159 = .ok (.bipush 48, 2) := by decide +kernel
theorem dX9_one_161 : decode cX9_one 161 = .ok (.isub, 1) := by decide +kernel
theorem dX9_one_162 : decode cX9_one 162 = .ok (.istore_n 2, 1) := by decide +kernel
theorem dX9_one_163 : decode cX9_one 163 = .ok (.aload_n 0, 1) := by decide +kernel
theorem dX9_one_164 : decode cX9_one 164 = .ok (.dup, 1) := by decide +kernel
theorem dX9_one_165 : decode cX9_one 165 = .ok (.getfield 129, 3) := by decide +kernel
theorem dX9_one_168 : decode cX9_one 168 = .ok (.iconst 1, 1) := by decide +kernel
theorem dX9_one_169 : decode cX9_one 169 = .ok (.iadd, 1) := by decide +kernel
theorem dX9_one_170 : decode cX9_one 170 = .ok (.putfield 129, 3) := by decide +kernel
theorem dX9_one_173 : decode cX9_one 173 = .ok (.iinc 3 1, 3) := by decide +kernel
theorem dX9_one_176 : decode cX9_one 176 = .ok (.goto (-45), 3) := by decide +kernel
theorem dX9_one_179 : decode cX9_one 179 = .ok (.aload_n 0, 1) := by decide +kernel
theorem dX9_one_180 : decode cX9_one 180 = .ok (.iload_n 2, 1) := by decide +kernel
theorem dX9_one_181 : decode cX9_one 181 = .ok (.invokevirtual 146, 3) := by decide +kernel
theorem dX9_one_184 : decode cX9_one 184 = .ok (.goto 63, 3) := by decide +kernel
theorem dX9_one_187 : decode cX9_one 187 = .ok (.iload_n 1, 1) := by decide +kernel
theorem dX9_one_188 : decode cX9_one 188 = .ok (.ifCond .ge 7, 3) := by decide +kernel
theorem dX9_one_191 : decode cX9_one 191 = .ok (.iconst (-1), 1) := by decide +kernel
theorem dX9_one_192 : decode cX9_one 192 = .ok (.goto 8, 3) := by decide +kernel
theorem dX9_one_195 : decode cX9_one 195 = .ok (.aload_n 0, 1) := by decide +kernel
theorem dX9_one_196 : decode cX9_one 196 = .ok (.iload_n 1, 1) := by decide +kernel
theorem dX9_one_197 : decode cX9_one 197 = .ok (.invokevirtual 178, 3) := by decide +kernel
theorem dX9_one_200 : decode cX9_one 200 = .ok (.istore_n 2, 1) := by decide +kernel
theorem dX9_one_201 : decode cX9_one 201 = .ok (.aload_n 0, 1) := by decide +kernel
theorem dX9_one_202 : decode cX9_one 202 = .ok (.aload_n 0, 1) := by decide +kernel
theorem dX9_one_203 : decode cX9_one 203 = .ok (.getfield 125, 3) := by decide +kernel
theorem dX9_one_206 : decode cX9_one 206 = .ok (.ifCond .ne 7, 3) := by decide +kernel
theorem dX9_one_209 : decode cX9_one 209 = .ok (.iload_n 2, 1) := by decide +kernel
theorem dX9_one_210 : decode cX9_one 210 = .ok (.ifCond .ge 7, 3) := by decide +kernel
theorem dX9_one_213 : decode cX9_one 213 = .ok (.iconst 1, 1) := by decide +kernel
theorem dX9_one_214 : decode cX9_one 214 = .ok (.goto 4, 3) := by decide +kernel
theorem dX9_one_217 : decode cX9_one 217 = .ok (.iconst 0, 1) := by decide +kernel
theorem dX9_one_218 : decode cX9_one 218 = .ok (.putfield 125, 3) := by decide +kernel
theorem dX9_one_221 : decode cX9_one 221 = .ok (.aload_n 0, 1) := by decide +kernel
theorem dX9_one_222 : decode cX9_one 222 = .ok (.getfield 125, 3) := by decide +kernel
theorem dX9_one_225 : decode cX9_one 225 = .ok (.ifCond .ne 22, 3) := by decide +kernel
theorem dX9_one_228 : decode cX9_one 228 = .ok (.aload_n 0, 1) := by decide +kernel
theorem dX9_one_229 : decode cX9_one 229 = .ok (.sipush 10000, 3) := by decide +kernel
theorem dX9_one_232 : decode cX9_one 232 = .ok (.iload_n 2, 1) := by decide +kernel
theorem dX9_one_233 : decode cX9_one 233 = .ok (.iadd, 1) := by decide +kernel
theorem dX9_one_234 : decode cX9_one 234 = .ok (.invokevirtual 146, 3) := by decide +kernel
theorem dX9_one_237 : decode cX9_one 237 = .ok (.aload_n 0, 1) := by decide +kernel
theorem dX9_one_238 : decode cX9_one 238 = .ok (.dup, 1) := by decide +kernel
theorem dX9_one_239 : decode cX9_one 239 = .ok (.getfield 129, 3) := by decide +kernel
theorem dX9_one_242 : decode cX9_one 242 = .ok (.iconst 1, 1) := by decide +kernel
theorem dX9_one_243 : decode cX9_one 243 = .ok (.iadd, 1) := by decide +kernel
theorem dX9_one_244 : decode cX9_one 244 = .ok (.putfield 129, 3) := by decide +kernel
theorem dX9_one_247 : decode cX9_one 247 = .ok (.return_, 1) := by decide +kernel
theorem dX9_text_0 : decode cX9_text 0 = .ok (.iload_n 1, 1) := by decide +kernel
theorem dX9_text_1 : decode cX9_text 1 = .ok (.iconst 0, 1) := by decide +kernel
theorem dX9_text_2 : decode cX9_text 2 = .ok (.iconst 1, 1) := by decide +kernel
theorem dX9_text_3 : decode cX9_text 3 = .ok (.invokestatic 75, 3) := by decide +kernel
theorem dX9_text_6 : decode cX9_text 6 = .ok (.ifCond .ne 10, 3) := by decide +kernel
theorem dX9_text_9 : decode cX9_text 9 = .ok (.aload_n 0, 1) := by decide +kernel
theorem dX9_text_10 : decode cX9_text 10 = .ok (.ldc 82, 2) := by decide +kernel
theorem dX9_text_12 : decode cX9_text 12 = .ok (.invokevirtual 83, 3) := by decide +kernel
theorem dX9_text_15 : decode cX9_text 15 = .ok (.ireturn, 1) := by decide +kernel
theorem dX9_text_16 : decode cX9_text 16 = .ok (.aload_n 0, 1) := by decide +kernel
theorem dX9_text_17 : decode cX9_text 17 = .ok (.iload_n 1, 1) := by decide +kernel
theorem dX9_text_18 : decode cX9_text 18 = .ok (.putfield 162, 3) := by decide +kernel
theorem dX9_text_21 : decode cX9_text 21 = .ok (.aload_n 0, 1) := by decide +kernel
theorem dX9_text_22 : decode cX9_text 22 = .ok (.iconst 0, 1) := by decide +kernel
theorem dX9_text_23 : decode cX9_text 23 = .ok (.putfield 129, 3) := by decide +kernel
theorem dX9_text_26 : decode cX9_text 26 = .ok (.aload_n 0, 1) := by decide +kernel
theorem dX9_text_27 : decode cX9_text 27 = .ok (.iconst 0, 1) := by decide +kernel
theorem dX9_text_28 : decode cX9_text 28 = .ok (.putfield 172, 3) := by decide +kernel
theorem dX9_text_31 : decode cX9_text 31 = .ok (.aload_n 0, 1) := by decide +kernel
theorem dX9_text_32 : decode cX9_text 32 = .ok (.iconst 0, 1) := by decide +kernel
theorem dX9_text_33 : decode cX9_text 33 = .ok (.putfield 125, 3) := by decide +kernel
theorem dX9_text_36 : decode cX9_text 36 = .ok (.aload_n 0, 1) := by decide +kernel
theorem dX9_text_37 : decode cX9_text 37 = .ok (.iconst 0, 1) := by decide +kernel
theorem dX9_text_38 : decode cX9_text 38 = .ok (.putfield 137, 3) := by decide +kernel
theorem dX9_text_41 : decode cX9_text 41 = .ok (.aload_n 0, 1) := by decide +kernel
theorem dX9_text_42 : decode cX9_text 42 = .ok (.invokevirtual 175, 3) := by decide +kernel
theorem dX9_text_45 : decode cX9_text 45 = .ok (.aload_n 0, 1) := by decide +kernel
theorem dX9_text_46 : decode cX9_text 46 = .ok (.aload_n 0, 1) := by decide +kernel
theorem dX9_text_47 : decode cX9_text 47 = .ok (.getfield 125, 3) := by decide +kernel
theorem dX9_text_50 : decode cX9_text 50 = .ok (.ifCond .ne 16, 3) := by decide +kernel
theorem dX9_text_53 : decode cX9_text 53 = .ok (.aload_n 0, 1) := by decide +kernel
theorem dX9_text_54 : decode cX9_text 54 = .ok (.getfield 129, 3) := by decide +kernel
theorem dX9_text_57 : decode cX9_text 57 = .ok (.aload_n 0, 1) := by decide +kernel
theorem dX9_text_58 : decode cX9_text 58 = .ok (.getfield 9, 3) := by decide +kernel
theorem dX9_text_61 : decode cX9_text 61 = .ok (.iconst 3, 1) := by decide +kernel
theorem dX9_text_62 : decode cX9_text 62 = .ok (.iaload, 1) := by decide +kernel
theorem dX9_text_63 : decode cX9_text 63 = .ok (.if_icmp .ge 7, 3) := by decide +kernel
theorem dX9_text_66 : decode cX9_text 66 = .ok (.iconst 1, 1) := by decide +kernel
theorem dX9_text_67 : decode cX9_text 67 = .ok (.goto 4, 3) := by decide +kernel
theorem dX9_text_70 : decode cX9_text 70 = .ok (.iconst 0, 1) := by decide +kernel
theorem dX9_text_71 : decode cX9_text 71 = .ok (.putfield 125, 3) := by decide +kernel
theorem dX9_text_74 : decode cX9_text 74 = .ok (.aload_n 0, 1) := by decide +kernel
theorem dX9_text_75 : decode cX9_text 75 = .ok (.getfield 9, 3) := by decide +kernel
theorem dX9_text_78 : decode cX9_text 78 = .ok (.iconst 3, 1) := by decide +kernel
theorem dX9_text_79 : decode cX9_text 79 = .ok (.iconst 0, 1) := by decide +kernel
theorem dX9_text_80 : decode cX9_text 80 = .ok (.iastore, 1) := by decide +kernel
theorem dX9_text_81 : decode cX9_text 81 = .ok (.aload_n 0, 1) := by decide +kernel
theorem dX9_text_82 : decode cX9_text 82 = .ok (.getfield 125, 3) := by decide +kernel
theorem dX9_text_85 : decode cX9_text 85 = .ok (.ifCond .eq 11, 3) := by decide +kernel
theorem dX9_text_88 : decode cX9_text 88 = .ok (.bipush (-10), 2) := by decide +kernel
theorem dX9_text_90 : decode cX9_text 90 = .ok (.aload_n 0, 1) := by decide +kernel
theorem dX9_text_91 : decode cX9_text 91 = .ok (.getfield 129, 3) := by decide +kernel
theorem dX9_text_94 : decode cX9_text 94 = .ok (.isub, 1) := by decide +kernel
theorem dX9_text_95 : decode cX9_text 95 = .ok (.ireturn, 1) := by decide +kernel
theorem dX9_text_96 : decode cX9_text 96 = .ok (.aload_n 0, 1) := by decide +kernel
theorem dX9_text_97 : decode cX9_text 97 = .ok (.getfield 9, 3) := by decide +kernel
theorem dX9_text_100 : decode cX9_text 100 = .ok (.sipush 316, 3) := by decide +kernel
theorem dX9_text_103 : decode cX9_text 103 = .ok (.bipush 62, 2) := by decide +kernel
theorem dX9_text_105 : decode cX9_text 105 = .ok (.aload_n 0, 1) := by decide +kernel
theorem dX9_text_106 : decode cX9_text 106 = .ok (.getfield 162, 3) := by decide +kernel
theorem dX9_text_109 : decode cX9_text 109 = .ok (.imul, 1) := by decide +kernel
theorem dX9_text_110 : decode cX9_text 110 = .ok (.iadd, 1) := by decide +kernel
theorem dX9_text_111 : decode cX9_text 111 = .ok (.aload_n 0, 1) := by decide +kernel
theorem dX9_text_112 : decode cX9_text 112 = .ok (.getfield 137, 3) := by decide +kernel
theorem dX9_text_115 : decode cX9_text 115 = .ok (.iastore, 1) := by decide +kernel
theorem dX9_text_116 : decode cX9_text 116 = .ok (.iconst 0, 1) := by decide +kernel
theorem dX9_text_117 : decode cX9_text 117 = .ok (.istore_n 2, 1) := by decide +kernel
theorem dX9_text_118 : decode cX9_text 118 = .ok (.iload_n 2, 1) := by decide +kernel
theorem dX9_text_119 : decode cX9_text 119 = .ok (.aload_n 0, 1) := by decide +kernel
theorem dX9_text_120 : decode cX9_text 120 = .ok (.getfield 137, 3) := by decide +kernel
theorem dX9_text_123 : decode cX9_text 123 = .ok (.if_icmp .ge 35, 3) := by decide +kernel
theorem dX9_text_126 : decode cX9_text 126 = .ok (.aload_n 0, 1) := by decide +kernel
theorem dX9_text_127 : decode cX9_text 127 = .ok (.getfield 9, 3) := by decide +kernel
theorem dX9_text_130 : decode cX9_text 130 = .ok (.sipush 316, 3) := by decide +kernel
theorem dX9_text_133 : decode cX9_text 133 = .ok (.bipush 62, 2) := by decide +kernel
theorem dX9_text_135 : decode cX9_text 135 = .ok (.aload_n 0, 1) := by decide +kernel
theorem dX9_text_136 : decode cX9_text 136 = .ok (.getfield 162, 3) := by decide +kernel
theorem dX9_text_139 : decode cX9_text 139 = .ok (.imul, 1) := by decide +kernel
theorem dX9_text_140 : decode cX9_text 140 = .ok (.iadd, 1) := by decide +kernel
theorem dX9_text_141 : decode cX9_text 141 = .ok (.iconst 1, 1) := by decide +kernel
theorem dX9_text_142 : decode cX9_text 142 = .ok (.iadd, 1) := by decide +kernel
theorem dX9_text_143 : decode cX9_text 143 = .ok (.iload_n 2, 1) := by decide +kernel
theorem dX9_text_144 : decode cX9_text 144 = .ok (.iadd, 1) := by decide +kernel
theorem dX9_text_145 : decode cX9_text 145 = .ok (.aload_n 0, 1) := by decide +kernel
theorem dX9_text_146 : decode cX9_text 146 = .ok (.getfield 38, 3) := by decide +kernel
theorem dX9_text_149 : decode cX9_text 149 = .ok (.iload_n 2, 1) := by decide +kernel
theorem dX9_text_150 : decode cX9_text 150 = .ok (.iaload, 1) := by decide +kernel
theorem dX9_text_151 : decode cX9_text 151 = .ok (.iastore, 1) := by decide +kernel
theorem dX9_text_152 : decode cX9_text 152 = .ok (.iinc 2 1, 3) := by decide +kernel
theorem dX9_text_155 : decode cX9_text 155 = .ok (.goto (-37), 3) := by decide +kernel
theorem dX9_text_158 : decode cX9_text 158 = .ok (.iconst 1, 1) := by decide +kernel
theorem dX9_text_159 : decode cX9_text 159 = .ok (.ireturn, 1) := by decide +kernel
theorem dX9_untell_0 : decode cX9_untell 0 = .ok (.iload_n 1, 1) := by decide +kernel
theorem dX9_untell_1 : decode cX9_untell 1 = .ok (.iconst 0, 1) := by decide +kernel
theorem dX9_untell_2 : decode cX9_untell 2 = .ok (.iconst 1, 1) := by decide +kernel
theorem dX9_untell_3 : decode cX9_untell 3 = .ok (.invokestatic 75, 3) := by decide +kernel
theorem dX9_untell_6 : decode cX9_untell 6 = .ok (.ifCond .eq 27, 3) := by decide +kernel
theorem dX9_untell_9 : decode cX9_untell 9 = .ok (.aload_n 0, 1) := by decide +kernel
theorem dX9_untell_10 : decode cX9_untell 10 = .ok (.sipush 316, 3) := by decide +kernel
theorem dX9_untell_13 : decode cX9_untell 13 = .ok (.bipush 62, 2) := by decide +kernel
theorem dX9_untell_15 : decode cX9_untell 15 = .ok (.iload_n 1, 1) := by decide +kernel
theorem dX9_untell_16 : decode cX9_untell 16 = .ok (.imul, 1) := by decide +kernel
theorem dX9_untell_17 : decode cX9_untell 17 = .ok (.iadd, 1) := by decide +kernel
theorem dX9_untell_18 : decode cX9_untell 18 = .ok (.iconst 0, 1) := by decide +kernel
theorem dX9_untell_19 : decode cX9_untell 19 = .ok (.invokevirtual 79, 3) := by decide +kernel
theorem dX9_untell_22 : decode cX9_untell 22 = .ok (.ifCond .le 7, 3) := by decide +kernel
theorem dX9_untell_25 : decode cX9_untell 25 = .ok (.iconst 1, 1) := by decide +kernel
theorem dX9_untell_26 : decode cX9_untell 26 = .ok (.goto 13, 3) := by decide +kernel
theorem dX9_untell_29 : decode cX9_untell 29 = .ok (.iconst 0, 1) := by decide +kernel
theorem dX9_untell_30 : decode cX9_untell 30 = .ok (.goto 9, 3) := by decide +kernel
theorem dX9_untell_33 : decode cX9_untell 33 = .ok (.aload_n 0, 1) := by decide +kernel
theorem dX9_untell_34 : decode cX9_untell 34 = .ok (.ldc 82, 2) := by decide +kernel
theorem dX9_untell_36 : decode cX9_untell 36 = .ok (.invokevirtual 83, 3) := by decide +kernel
theorem dX9_untell_39 : decode cX9_untell 39 = .ok (.ireturn, 1) := by decide +kernel
theorem dX9_done_0 : decode cX9_done 0 = .ok (.iload_n 0, 1) := by decide +kernel
theorem dX9_done_1 : decode cX9_done 1 = .ok (.tableswitch 136 20000 20008 #[51, 65, 79, 90, 101, 112, 116, 120, 124], 51) := by decide +kernel
theorem dX9_done_52 : decode cX9_done 52 = .ok (.iload_n 1, 1) := by decide +kernel
theorem dX9_done_53 : decode cX9_done 53 = .ok (.ifCond .ne 7, 3) := by decide +kernel
theorem dX9_done_56 : decode cX9_done 56 = .ok (.iload_n 2, 1) := by decide +kernel
theorem dX9_done_57 : decode cX9_done 57 = .ok (.ifCond .eq 7, 3) := by decide +kernel
theorem dX9_done_60 : decode cX9_done 60 = .ok (.iconst 1, 1) := by decide +kernel
theorem dX9_done_61 : decode cX9_done 61 = .ok (.goto 4, 3) := by decide +kernel
theorem dX9_done_64 : decode cX9_done 64 = .ok (.iconst 0, 1) := by decide +kernel
theorem dX9_done_65 : decode cX9_done 65 = .ok (.ireturn, 1) := by decide +kernel
theorem dX9_done_66 : decode cX9_done 66 = .ok (.iload_n 1, 1) := by decide +kernel
theorem dX9_done_67 : decode cX9_done 67 = .ok (.ifCond .eq 11, 3) := by decide +kernel
theorem dX9_done_70 : decode cX9_done 70 = .ok (.iload_n 2, 1) := by decide +kernel
theorem dX9_done_71 : decode cX9_done 71 = .ok (.ifCond .eq 7, 3) := by decide +kernel
theorem dX9_done_74 : decode cX9_done 74 = .ok (.iconst 1, 1) := by decide +kernel
theorem dX9_done_75 : decode cX9_done 75 = .ok (.goto 4, 3) := by decide +kernel
theorem dX9_done_78 : decode cX9_done 78 = .ok (.iconst 0, 1) := by decide +kernel
theorem dX9_done_79 : decode cX9_done 79 = .ok (.ireturn, 1) := by decide +kernel
theorem dX9_done_80 : decode cX9_done 80 = .ok (.iload_n 1, 1) := by decide +kernel
theorem dX9_done_81 : decode cX9_done 81 = .ok (.iload_n 2, 1) := by decide +kernel
theorem dX9_done_82 : decode cX9_done 82 = .ok (.if_icmp .ge 7, 3) := by decide +kernel
theorem dX9_done_85 : decode cX9_done 85 = .ok (.iconst 1, 1) := by decide +kernel
theorem dX9_done_86 : decode cX9_done 86 = .ok (.goto 4, 3) := by decide +kernel
theorem dX9_done_89 : decode cX9_done 89 = .ok (.iconst 0, 1) := by decide +kernel
theorem dX9_done_90 : decode cX9_done 90 = .ok (.ireturn, 1) := by decide +kernel
theorem dX9_done_91 : decode cX9_done 91 = .ok (.iload_n 1, 1) := by decide +kernel
theorem dX9_done_92 : decode cX9_done 92 = .ok (.iload_n 2, 1) := by decide +kernel
theorem dX9_done_93 : decode cX9_done 93 = .ok (.if_icmp .ne 7, 3) := by decide +kernel
theorem dX9_done_96 : decode cX9_done 96 = .ok (.iconst 1, 1) := by decide +kernel
theorem dX9_done_97 : decode cX9_done 97 = .ok (.goto 4, 3) := by decide +kernel
theorem dX9_done_100 : decode cX9_done 100 = .ok (.iconst 0, 1) := by decide +kernel
theorem dX9_done_101 : decode cX9_done 101 = .ok (.ireturn, 1) := by decide +kernel
theorem dX9_done_102 : decode cX9_done 102 = .ok (.iload_n 1, 1) := by decide +kernel
theorem dX9_done_103 : decode cX9_done 103 = .ok (.iload_n 2, 1) := by decide +kernel
theorem dX9_done_104 : decode cX9_done 104 = .ok (.if_icmp .le 7, 3) := by decide +kernel
theorem dX9_done_107 : decode cX9_done 107 = .ok (.iconst 1, 1) := by decide +kernel
theorem dX9_done_108 : decode cX9_done 108 = .ok (.goto 4, 3) := by decide +kernel
theorem dX9_done_111 : decode cX9_done 111 = .ok (.iconst 0, 1) := by decide +kernel
theorem dX9_done_112 : decode cX9_done 112 = .ok (.ireturn, 1) := by decide +kernel
theorem dX9_done_113 : decode cX9_done 113 = .ok (.iload_n 1, 1) := by decide +kernel
theorem dX9_done_114 : decode cX9_done 114 = .ok (.iload_n 2, 1) := by decide +kernel
theorem dX9_done_115 : decode cX9_done 115 = .ok (.iadd, 1) := by decide +kernel
theorem dX9_done_116 : decode cX9_done 116 = .ok (.ireturn, 1) := by decide +kernel
theorem dX9_done_117 : decode cX9_done 117 = .ok (.iload_n 1, 1) := by decide +kernel
theorem dX9_done_118 : decode cX9_done 118 = .ok (.iload_n 2, 1) := by decide +kernel
theorem dX9_done_119 : decode cX9_done 119 = .ok (.isub, 1) := by decide +kernel
theorem dX9_done_120 : decode cX9_done 120 = .ok (.ireturn, 1) := by decide +kernel
theorem dX9_done_121 : decode cX9_done 121 = .ok (.iload_n 1, 1) := by decide +kernel
theorem dX9_done_122 : decode cX9_done 122 = .ok (.iload_n 2, 1) := by decide +kernel
theorem dX9_done_123 : decode cX9_done 123 = .ok (.imul, 1) := by decide +kernel
theorem dX9_done_124 : decode cX9_done 124 = .ok (.ireturn, 1) := by decide +kernel
theorem dX9_done_125 : decode cX9_done 125 = .ok (.iload_n 2, 1) := by decide +kernel
theorem dX9_done_126 : decode cX9_done 126 = .ok (.ifCond .ne 7, 3) := by decide +kernel
theorem dX9_done_129 : decode cX9_done 129 = .ok (.iconst 0, 1) := by decide +kernel
theorem dX9_done_130 : decode cX9_done 130 = .ok (.goto 6, 3) := by decide +kernel
theorem dX9_done_133 : decode cX9_done 133 = .ok (.iload_n 1, 1) := by decide +kernel
theorem dX9_done_134 : decode cX9_done 134 = .ok (.iload_n 2, 1) := by decide +kernel
theorem dX9_done_135 : decode cX9_done 135 = .ok (.idiv, 1) := by decide +kernel
theorem dX9_done_136 : decode cX9_done 136 = .ok (.ireturn, 1) := by decide +kernel
theorem dX9_done_137 : decode cX9_done 137 = .ok (.iload_n 2, 1) := by decide +kernel
theorem dX9_done_138 : decode cX9_done 138 = .ok (.ifCond .ne 7, 3) := by decide +kernel
theorem dX9_done_141 : decode cX9_done 141 = .ok (.iconst 0, 1) := by decide +kernel
theorem dX9_done_142 : decode cX9_done 142 = .ok (.goto 6, 3) := by decide +kernel
theorem dX9_done_145 : decode cX9_done 145 = .ok (.iload_n 1, 1) := by decide +kernel
theorem dX9_done_146 : decode cX9_done 146 = .ok (.iload_n 2, 1) := by decide +kernel
theorem dX9_done_147 : decode cX9_done 147 = .ok (.irem, 1) := by decide +kernel
theorem dX9_done_148 : decode cX9_done 148 = .ok (.ireturn, 1) := by decide +kernel
theorem dX9_worked_0 : decode cX9_worked 0 = .ok (.iconst 0, 1) := by decide +kernel
theorem dX9_worked_1 : decode cX9_worked 1 = .ok (.istore_n 2, 1) := by decide +kernel
theorem dX9_worked_2 : decode cX9_worked 2 = .ok (.iload_n 1, 1) := by decide +kernel
theorem dX9_worked_3 : decode cX9_worked 3 = .ok (.istore_n 3, 1) := by decide +kernel
theorem dX9_worked_4 : decode cX9_worked 4 = .ok (.iload_n 3, 1) := by decide +kernel
theorem dX9_worked_5 : decode cX9_worked 5 = .ok (.iload_n 1, 1) := by decide +kernel
theorem dX9_worked_6 : decode cX9_worked 6 = .ok (.aload_n 0, 1) := by decide +kernel
theorem dX9_worked_7 : decode cX9_worked 7 = .ok (.getfield 9, 3) := by decide +kernel
theorem dX9_worked_10 : decode cX9_worked 10 = .ok (.iload_n 1, 1) := by decide +kernel
theorem dX9_worked_11 : decode cX9_worked 11 = .ok (.iconst 1, 1) := by decide +kernel
theorem dX9_worked_12 : decode cX9_worked 12 = .ok (.isub, 1) := by decide +kernel
theorem dX9_worked_13 : decode cX9_worked 13 = .ok (.iaload, 1) := by decide +kernel
theorem dX9_worked_14 : decode cX9_worked 14 = .ok (.iadd, 1) := by decide +kernel
theorem dX9_worked_15 : decode cX9_worked 15 = .ok (.if_icmp .ge 126, 3) := by decide +kernel
theorem dX9_worked_18 : decode cX9_worked 18 = .ok (.aload_n 0, 1) := by decide +kernel
theorem dX9_worked_19 : decode cX9_worked 19 = .ok (.getfield 9, 3) := by decide +kernel
theorem dX9_worked_22 : decode cX9_worked 22 = .ok (.iload_n 3, 1) := by decide +kernel
theorem dX9_worked_23 : decode cX9_worked 23 = .ok (.iaload, 1) := by decide +kernel
theorem dX9_worked_24 : decode cX9_worked 24 = .ok (.istore 4, 2) := by decide +kernel
theorem dX9_worked_26 : decode cX9_worked 26 = .ok (.iload 4, 2) := by decide +kernel
theorem dX9_worked_28 : decode cX9_worked 28 = .ok (.sipush 20000, 3) := by decide +kernel
theorem dX9_worked_31 : decode cX9_worked 31 = .ok (.if_icmp .ge 39, 3) := by decide +kernel
theorem dX9_worked_34 : decode cX9_worked 34 = .ok (.aload_n 0, 1) := by decide +kernel
theorem dX9_worked_35 : decode cX9_worked 35 = .ok (.getfield 44, 3) := by decide +kernel
theorem dX9_worked_38 : decode cX9_worked 38 = .ok (.iload_n 2, 1) := by decide +kernel
theorem dX9_worked_39 : decode cX9_worked 39 = .ok (.iload 4, 2) := by decide +kernel
theorem dX9_worked_41 : decode cX9_worked 41 = .ok (.sipush 10000, 3) := by decide +kernel
theorem dX9_worked_44 : decode cX9_worked 44 = .ok (.if_icmp .ge 8, 3) := by decide +kernel
theorem dX9_worked_47 : decode cX9_worked 47 = .ok (.iload 4, 2) := by decide +kernel
theorem dX9_worked_49 : decode cX9_worked 49 = .ok (.goto 14, 3) := by decide +kernel
theorem dX9_worked_52 : decode cX9_worked 52 = .ok (.aload_n 0, 1) := by decide +kernel
theorem dX9_worked_53 : decode cX9_worked 53 = .ok (.getfield 41, 3) := by decide +kernel
theorem dX9_worked_56 : decode cX9_worked 56 = .ok (.iload 4, 2) := by decide +kernel
theorem dX9_worked_58 : decode cX9_worked 58 = .ok (.sipush 10000, 3) := by decide +kernel
theorem dX9_worked_61 : decode cX9_worked 61 = .ok (.isub, 1) := by decide +kernel
theorem dX9_worked_62 : decode cX9_worked 62 = .ok (.iaload, 1) := by decide +kernel
theorem dX9_worked_63 : decode cX9_worked 63 = .ok (.iastore, 1) := by decide +kernel
theorem dX9_worked_64 : decode cX9_worked 64 = .ok (.iinc 2 1, 3) := by decide +kernel
theorem dX9_worked_67 : decode cX9_worked 67 = .ok (.goto 68, 3) := by decide +kernel
theorem dX9_worked_70 : decode cX9_worked 70 = .ok (.iload 4, 2) := by decide +kernel
theorem dX9_worked_72 : decode cX9_worked 72 = .ok (.sipush 20010, 3) := by decide +kernel
theorem dX9_worked_75 : decode cX9_worked 75 = .ok (.if_icmp .ne 30, 3) := by decide +kernel
theorem dX9_worked_78 : decode cX9_worked 78 = .ok (.aload_n 0, 1) := by decide +kernel
theorem dX9_worked_79 : decode cX9_worked 79 = .ok (.getfield 44, 3) := by decide +kernel
theorem dX9_worked_82 : decode cX9_worked 82 = .ok (.iload_n 2, 1) := by decide +kernel
theorem dX9_worked_83 : decode cX9_worked 83 = .ok (.iconst 1, 1) := by decide +kernel
theorem dX9_worked_84 : decode cX9_worked 84 = .ok (.isub, 1) := by decide +kernel
theorem dX9_worked_85 : decode cX9_worked 85 = .ok (.aload_n 0, 1) := by decide +kernel
theorem dX9_worked_86 : decode cX9_worked 86 = .ok (.getfield 44, 3) := by decide +kernel
theorem dX9_worked_89 : decode cX9_worked 89 = .ok (.iload_n 2, 1) := by decide +kernel
theorem dX9_worked_90 : decode cX9_worked 90 = .ok (.iconst 1, 1) := by decide +kernel
theorem dX9_worked_91 : decode cX9_worked 91 = .ok (.isub, 1) := by decide +kernel
theorem dX9_worked_92 : decode cX9_worked 92 = .ok (.iaload, 1) := by decide +kernel
theorem dX9_worked_93 : decode cX9_worked 93 = .ok (.ifCond .ne 7, 3) := by decide +kernel
theorem dX9_worked_96 : decode cX9_worked 96 = .ok (.iconst 1, 1) := by decide +kernel
theorem dX9_worked_97 : decode cX9_worked 97 = .ok (.goto 4, 3) := by decide +kernel
theorem dX9_worked_100 : decode cX9_worked 100 = .ok (.iconst 0, 1) := by decide +kernel
theorem dX9_worked_101 : decode cX9_worked 101 = .ok (.iastore, 1) := by decide +kernel
theorem dX9_worked_102 : decode cX9_worked 102 = .ok (.goto 33, 3) := by decide +kernel
theorem dX9_worked_105 : decode cX9_worked 105 = .ok (.iinc 2 (-1), 3) := by decide +kernel
theorem dX9_worked_108 : decode cX9_worked 108 = .ok (.aload_n 0, 1) := by decide +kernel
theorem dX9_worked_109 : decode cX9_worked 109 = .ok (.getfield 44, 3) := by decide +kernel
theorem dX9_worked_112 : decode cX9_worked 112 = .ok (.iload_n 2, 1) := by decide +kernel
theorem dX9_worked_113 : decode cX9_worked 113 = .ok (.iconst 1, 1) := by decide +kernel
theorem dX9_worked_114 : decode cX9_worked 114 = .ok (.isub, 1) := by decide +kernel
theorem dX9_worked_115 : decode cX9_worked 115 = .ok (.iload 4, 2) := by decide +kernel
theorem dX9_worked_117 : decode cX9_worked 117 = .ok (.aload_n 0, 1) := by decide +kernel
theorem dX9_worked_118 : decode cX9_worked 118 = .ok (.getfield 44, 3) := by decide +kernel
theorem dX9_worked_121 : decode cX9_worked 121 = .ok (.iload_n 2, 1) := by decide +kernel
theorem dX9_worked_122 : decode cX9_worked 122 = .ok (.iconst 1, 1) := by decide +kernel
theorem dX9_worked_123 : decode cX9_worked 123 = .ok (.isub, 1) := by decide +kernel
theorem dX9_worked_124 : decode cX9_worked 124 = .ok (.iaload, 1) := by decide +kernel
theorem dX9_worked_125 : decode cX9_worked 125 = .ok (.aload_n 0, 1) := by decide +kernel
theorem dX9_worked_126 : decode cX9_worked 126 = .ok (.getfield 44, 3) := by decide +kernel
theorem dX9_worked_129 : decode cX9_worked 129 = .ok (.iload_n 2, 1) := by decide +kernel
theorem dX9_worked_130 : decode cX9_worked 130 = .ok (.iaload, 1) := by decide +kernel
theorem dX9_worked_131 : decode cX9_worked 131 = .ok (.invokestatic 181, 3) := by decide +kernel
theorem dX9_worked_134 : decode cX9_worked 134 = .ok (.iastore, 1) := by decide +kernel
theorem dX9_worked_135 : decode cX9_worked 135 = .ok (.iinc 3 1, 3) := by decide +kernel
theorem dX9_worked_138 : decode cX9_worked 138 = .ok (.goto (-134), 3) := by decide +kernel
theorem dX9_worked_141 : decode cX9_worked 141 = .ok (.aload_n 0, 1) := by decide +kernel
theorem dX9_worked_142 : decode cX9_worked 142 = .ok (.getfield 44, 3) := by decide +kernel
theorem dX9_worked_145 : decode cX9_worked 145 = .ok (.iconst 0, 1) := by decide +kernel
theorem dX9_worked_146 : decode cX9_worked 146 = .ok (.iaload, 1) := by decide +kernel
theorem dX9_worked_147 : decode cX9_worked 147 = .ok (.ireturn, 1) := by decide +kernel
theorem dX9_hasText_0 : decode cX9_hasText 0 = .ok (.aload_n 0, 1) := by decide +kernel
theorem dX9_hasText_1 : decode cX9_hasText 1 = .ok (.getfield 9, 3) := by decide +kernel
theorem dX9_hasText_4 : decode cX9_hasText 4 = .ok (.sipush 316, 3) := by decide +kernel
theorem dX9_hasText_7 : decode cX9_hasText 7 = .ok (.bipush 62, 2) := by decide +kernel
theorem dX9_hasText_9 : decode cX9_hasText 9 = .ok (.iload_n 1, 1) := by decide +kernel
theorem dX9_hasText_10 : decode cX9_hasText 10 = .ok (.imul, 1) := by decide +kernel
theorem dX9_hasText_11 : decode cX9_hasText 11 = .ok (.iadd, 1) := by decide +kernel
theorem dX9_hasText_12 : decode cX9_hasText 12 = .ok (.iaload, 1) := by decide +kernel
theorem dX9_hasText_13 : decode cX9_hasText 13 = .ok (.ifCond .le 7, 3) := by decide +kernel
theorem dX9_hasText_16 : decode cX9_hasText 16 = .ok (.iconst 1, 1) := by decide +kernel
theorem dX9_hasText_17 : decode cX9_hasText 17 = .ok (.goto 4, 3) := by decide +kernel
theorem dX9_hasText_20 : decode cX9_hasText 20 = .ok (.iconst 0, 1) := by decide +kernel
theorem dX9_hasText_21 : decode cX9_hasText 21 = .ok (.ireturn, 1) := by decide +kernel
theorem dX9_given_0 : decode cX9_given 0 = .ok (.aload_n 0, 1) := by decide +kernel
theorem dX9_given_1 : decode cX9_given 1 = .ok (.getfield 41, 3) := by decide +kernel
theorem dX9_given_4 : decode cX9_given 4 = .ok (.iconst 0, 1) := by decide +kernel
theorem dX9_given_5 : decode cX9_given 5 = .ok (.iload_n 2, 1) := by decide +kernel
theorem dX9_given_6 : decode cX9_given 6 = .ok (.iastore, 1) := by decide +kernel
theorem dX9_given_7 : decode cX9_given 7 = .ok (.aload_n 0, 1) := by decide +kernel
theorem dX9_given_8 : decode cX9_given 8 = .ok (.getfield 41, 3) := by decide +kernel
theorem dX9_given_11 : decode cX9_given 11 = .ok (.iconst 1, 1) := by decide +kernel
theorem dX9_given_12 : decode cX9_given 12 = .ok (.iload_n 3, 1) := by decide +kernel
theorem dX9_given_13 : decode cX9_given 13 = .ok (.iastore, 1) := by decide +kernel
theorem dX9_given_14 : decode cX9_given 14 = .ok (.aload_n 0, 1) := by decide +kernel
theorem dX9_given_15 : decode cX9_given 15 = .ok (.getfield 41, 3) := by decide +kernel
theorem dX9_given_18 : decode cX9_given 18 = .ok (.iconst 2, 1) := by decide +kernel
theorem dX9_given_19 : decode cX9_given 19 = .ok (.iload 4, 2) := by decide +kernel
theorem dX9_given_21 : decode cX9_given 21 = .ok (.iastore, 1) := by decide +kernel
theorem dX9_given_22 : decode cX9_given 22 = .ok (.aload_n 0, 1) := by decide +kernel
theorem dX9_given_23 : decode cX9_given 23 = .ok (.getfield 41, 3) := by decide +kernel
theorem dX9_given_26 : decode cX9_given 26 = .ok (.iconst 3, 1) := by decide +kernel
theorem dX9_given_27 : decode cX9_given 27 = .ok (.iload 5, 2) := by decide +kernel
theorem dX9_given_29 : decode cX9_given 29 = .ok (.iastore, 1) := by decide +kernel
theorem dX9_given_30 : decode cX9_given 30 = .ok (.aload_n 0, 1) := by decide +kernel
theorem dX9_given_31 : decode cX9_given 31 = .ok (.getfield 41, 3) := by decide +kernel
theorem dX9_given_34 : decode cX9_given 34 = .ok (.iconst 4, 1) := by decide +kernel
theorem dX9_given_35 : decode cX9_given 35 = .ok (.iload 6, 2) := by decide +kernel
theorem dX9_given_37 : decode cX9_given 37 = .ok (.iastore, 1) := by decide +kernel
theorem dX9_given_38 : decode cX9_given 38 = .ok (.aload_n 0, 1) := by decide +kernel
theorem dX9_given_39 : decode cX9_given 39 = .ok (.sipush 316, 3) := by decide +kernel
theorem dX9_given_42 : decode cX9_given 42 = .ok (.bipush 62, 2) := by decide +kernel
theorem dX9_given_44 : decode cX9_given 44 = .ok (.iload_n 1, 1) := by decide +kernel
theorem dX9_given_45 : decode cX9_given 45 = .ok (.imul, 1) := by decide +kernel
theorem dX9_given_46 : decode cX9_given 46 = .ok (.iadd, 1) := by decide +kernel
theorem dX9_given_47 : decode cX9_given 47 = .ok (.iconst 1, 1) := by decide +kernel
theorem dX9_given_48 : decode cX9_given 48 = .ok (.iadd, 1) := by decide +kernel
theorem dX9_given_49 : decode cX9_given 49 = .ok (.invokevirtual 184, 3) := by decide +kernel
theorem dX9_given_52 : decode cX9_given 52 = .ok (.ireturn, 1) := by decide +kernel
theorem dX9_treesAt_0 : decode cX9_treesAt 0 = .ok (.iconst 0, 1) := by decide +kernel
theorem dX9_treesAt_1 : decode cX9_treesAt 1 = .ok (.istore_n 2, 1) := by decide +kernel
theorem dX9_treesAt_2 : decode cX9_treesAt 2 = .ok (.iconst 0, 1) := by decide +kernel
theorem dX9_treesAt_3 : decode cX9_treesAt 3 = .ok (.istore_n 3, 1) := by decide +kernel
theorem dX9_treesAt_4 : decode cX9_treesAt 4 = .ok (.iload_n 3, 1) := by decide +kernel
theorem dX9_treesAt_5 : decode cX9_treesAt 5 = .ok (.aload_n 0, 1) := by decide +kernel
theorem dX9_treesAt_6 : decode cX9_treesAt 6 = .ok (.getfield 9, 3) := by decide +kernel
theorem dX9_treesAt_9 : decode cX9_treesAt 9 = .ok (.iconst 2, 1) := by decide +kernel
theorem dX9_treesAt_10 : decode cX9_treesAt 10 = .ok (.iaload, 1) := by decide +kernel
theorem dX9_treesAt_11 : decode cX9_treesAt 11 = .ok (.if_icmp .ge 27, 3) := by decide +kernel
theorem dX9_treesAt_14 : decode cX9_treesAt 14 = .ok (.iload_n 2, 1) := by decide +kernel
theorem dX9_treesAt_15 : decode cX9_treesAt 15 = .ok (.aload_n 0, 1) := by decide +kernel
theorem dX9_treesAt_16 : decode cX9_treesAt 16 = .ok (.iload_n 3, 1) := by decide +kernel
theorem dX9_treesAt_17 : decode cX9_treesAt 17 = .ok (.iconst 0, 1) := by decide +kernel
theorem dX9_treesAt_18 : decode cX9_treesAt 18 = .ok (.invokevirtual 187, 3) := by decide +kernel
theorem dX9_treesAt_21 : decode cX9_treesAt 21 = .ok (.iload_n 1, 1) := by decide +kernel
theorem dX9_treesAt_22 : decode cX9_treesAt 22 = .ok (.if_icmp .ne 7, 3) := by decide +kernel
theorem dX9_treesAt_25 : decode cX9_treesAt 25 = .ok (.iconst 1, 1) := by decide +kernel
theorem dX9_treesAt_26 : decode cX9_treesAt 26 = .ok (.goto 4, 3) := by decide +kernel
theorem dX9_treesAt_29 : decode cX9_treesAt 29 = .ok (.iconst 0, 1) := by decide +kernel
theorem dX9_treesAt_30 : decode cX9_treesAt 30 = .ok (.iadd, 1) := by decide +kernel
theorem dX9_treesAt_31 : decode cX9_treesAt 31 = .ok (.istore_n 2, 1) := by decide +kernel
theorem dX9_treesAt_32 : decode cX9_treesAt 32 = .ok (.iinc 3 1, 3) := by decide +kernel
theorem dX9_treesAt_35 : decode cX9_treesAt 35 = .ok (.goto (-31), 3) := by decide +kernel
theorem dX9_treesAt_38 : decode cX9_treesAt 38 = .ok (.iload_n 2, 1) := by decide +kernel
theorem dX9_treesAt_39 : decode cX9_treesAt 39 = .ok (.ireturn, 1) := by decide +kernel
theorem dX9_movingOf_0 : decode cX9_movingOf 0 = .ok (.aload_n 0, 1) := by decide +kernel
theorem dX9_movingOf_1 : decode cX9_movingOf 1 = .ok (.getfield 9, 3) := by decide +kernel
theorem dX9_movingOf_4 : decode cX9_movingOf 4 = .ok (.iconst 0, 1) := by decide +kernel
theorem dX9_movingOf_5 : decode cX9_movingOf 5 = .ok (.iaload, 1) := by decide +kernel
theorem dX9_movingOf_6 : decode cX9_movingOf 6 = .ok (.istore_n 2, 1) := by decide +kernel
theorem dX9_movingOf_7 : decode cX9_movingOf 7 = .ok (.aload_n 0, 1) := by decide +kernel
theorem dX9_movingOf_8 : decode cX9_movingOf 8 = .ok (.iconst 0, 1) := by decide +kernel
theorem dX9_movingOf_9 : decode cX9_movingOf 9 = .ok (.invokevirtual 190, 3) := by decide +kernel
theorem dX9_movingOf_12 : decode cX9_movingOf 12 = .ok (.ifCond .eq 28, 3) := by decide +kernel
theorem dX9_movingOf_15 : decode cX9_movingOf 15 = .ok (.aload_n 0, 1) := by decide +kernel
theorem dX9_movingOf_16 : decode cX9_movingOf 16 = .ok (.iconst 0, 1) := by decide +kernel
theorem dX9_movingOf_17 : decode cX9_movingOf 17 = .ok (.iload_n 1, 1) := by decide +kernel
theorem dX9_movingOf_18 : decode cX9_movingOf 18 = .ok (.iload_n 2, 1) := by decide +kernel
theorem dX9_movingOf_19 : decode cX9_movingOf 19 = .ok (.aload_n 0, 1) := by decide +kernel
theorem dX9_movingOf_20 : decode cX9_movingOf 20 = .ok (.iconst 0, 1) := by decide +kernel
theorem dX9_movingOf_21 : decode cX9_movingOf 21 = .ok (.invokevirtual 193, 3) := by decide +kernel
theorem dX9_movingOf_24 : decode cX9_movingOf 24 = .ok (.aload_n 0, 1) := by decide +kernel
theorem dX9_movingOf_25 : decode cX9_movingOf 25 = .ok (.iconst 1, 1) := by decide +kernel
theorem dX9_movingOf_26 : decode cX9_movingOf 26 = .ok (.invokevirtual 193, 3) := by decide +kernel
theorem dX9_movingOf_29 : decode cX9_movingOf 29 = .ok (.aload_n 0, 1) := by decide +kernel
theorem dX9_movingOf_30 : decode cX9_movingOf 30 = .ok (.iload_n 1, 1) := by decide +kernel
theorem dX9_movingOf_31 : decode cX9_movingOf 31 = .ok (.invokevirtual 196, 3) := by decide +kernel
theorem dX9_movingOf_34 : decode cX9_movingOf 34 = .ok (.invokevirtual 199, 3) := by decide +kernel
theorem dX9_movingOf_37 : decode cX9_movingOf 37 = .ok (.goto 9, 3) := by decide +kernel
theorem dX9_movingOf_40 : decode cX9_movingOf 40 = .ok (.bipush 100, 2) := by decide +kernel
theorem dX9_movingOf_42 : decode cX9_movingOf 42 = .ok (.iload_n 1, 1) := by decide +kernel
theorem dX9_movingOf_43 : decode cX9_movingOf 43 = .ok (.imul, 1) := by decide +kernel
theorem dX9_movingOf_44 : decode cX9_movingOf 44 = .ok (.iload_n 2, 1) := by decide +kernel
theorem dX9_movingOf_45 : decode cX9_movingOf 45 = .ok (.idiv, 1) := by decide +kernel
theorem dX9_movingOf_46 : decode cX9_movingOf 46 = .ok (.iconst 0, 1) := by decide +kernel
theorem dX9_movingOf_47 : decode cX9_movingOf 47 = .ok (.bipush 100, 2) := by decide +kernel
theorem dX9_movingOf_49 : decode cX9_movingOf 49 = .ok (.invokestatic 203, 3) := by decide +kernel
theorem dX9_movingOf_52 : decode cX9_movingOf 52 = .ok (.ireturn, 1) := by decide +kernel
theorem dX9_hoursOf_0 : decode cX9_hoursOf 0 = .ok (.aload_n 0, 1) := by decide +kernel
theorem dX9_hoursOf_1 : decode cX9_hoursOf 1 = .ok (.iload_n 1, 1) := by decide +kernel
theorem dX9_hoursOf_2 : decode cX9_hoursOf 2 = .ok (.iconst 1, 1) := by decide +kernel
theorem dX9_hoursOf_3 : decode cX9_hoursOf 3 = .ok (.invokevirtual 104, 3) := by decide +kernel
theorem dX9_hoursOf_6 : decode cX9_hoursOf 6 = .ok (.istore_n 2, 1) := by decide +kernel
theorem dX9_hoursOf_7 : decode cX9_hoursOf 7 = .ok (.aload_n 0, 1) := by decide +kernel
theorem dX9_hoursOf_8 : decode cX9_hoursOf 8 = .ok (.iload_n 1, 1) := by decide +kernel
theorem dX9_hoursOf_9 : decode cX9_hoursOf 9 = .ok (.iconst 2, 1) := by decide +kernel
theorem dX9_hoursOf_10 : decode cX9_hoursOf 10 = .ok (.invokevirtual 104, 3) := by decide +kernel
theorem dX9_hoursOf_13 : decode cX9_hoursOf 13 = .ok (.istore_n 3, 1) := by decide +kernel
theorem dX9_hoursOf_14 : decode cX9_hoursOf 14 = .ok (.aload_n 0, 1) := by decide +kernel
theorem dX9_hoursOf_15 : decode cX9_hoursOf 15 = .ok (.iload_n 1, 1) := by decide +kernel
theorem dX9_hoursOf_16 : decode cX9_hoursOf 16 = .ok (.iconst 3, 1) := by decide +kernel
theorem dX9_hoursOf_17 : decode cX9_hoursOf 17 = .ok (.invokevirtual 104, 3) := by decide +kernel
theorem dX9_hoursOf_20 : decode cX9_hoursOf 20 = .ok (.istore 4, 2) := by decide +kernel
theorem dX9_hoursOf_22 : decode cX9_hoursOf 22 = .ok (.aload_n 0, 1) := by decide +kernel
theorem dX9_hoursOf_23 : decode cX9_hoursOf 23 = .ok (.iconst 1, 1) := by decide +kernel
theorem dX9_hoursOf_24 : decode cX9_hoursOf 24 = .ok (.invokevirtual 190, 3) := by decide +kernel
theorem dX9_hoursOf_27 : decode cX9_hoursOf 27 = .ok (.ifCond .eq 17, 3) := by decide +kernel
theorem dX9_hoursOf_30 : decode cX9_hoursOf 30 = .ok (.aload_n 0, 1) := by decide +kernel
theorem dX9_hoursOf_31 : decode cX9_hoursOf 31 = .ok (.iconst 1, 1) := by decide +kernel
theorem dX9_hoursOf_32 : decode cX9_hoursOf 32 = .ok (.iload_n 1, 1) := by decide +kernel
theorem dX9_hoursOf_33 : decode cX9_hoursOf 33 = .ok (.iload_n 2, 1) := by decide +kernel
theorem dX9_hoursOf_34 : decode cX9_hoursOf 34 = .ok (.iload_n 3, 1) := by decide +kernel
theorem dX9_hoursOf_35 : decode cX9_hoursOf 35 = .ok (.iload 4, 2) := by decide +kernel
theorem dX9_hoursOf_37 : decode cX9_hoursOf 37 = .ok (.iconst 0, 1) := by decide +kernel
theorem dX9_hoursOf_38 : decode cX9_hoursOf 38 = .ok (.invokevirtual 199, 3) := by decide +kernel
theorem dX9_hoursOf_41 : decode cX9_hoursOf 41 = .ok (.goto 17, 3) := by decide +kernel
theorem dX9_hoursOf_44 : decode cX9_hoursOf 44 = .ok (.bipush 8, 2) := by decide +kernel
theorem dX9_hoursOf_46 : decode cX9_hoursOf 46 = .ok (.iload_n 2, 1) := by decide +kernel
theorem dX9_hoursOf_47 : decode cX9_hoursOf 47 = .ok (.iadd, 1) := by decide +kernel
theorem dX9_hoursOf_48 : decode cX9_hoursOf 48 = .ok (.iload_n 3, 1) := by decide +kernel
theorem dX9_hoursOf_49 : decode cX9_hoursOf 49 = .ok (.bipush 9, 2) := by decide +kernel
theorem dX9_hoursOf_51 : decode cX9_hoursOf 51 = .ok (.idiv, 1) := by decide +kernel
theorem dX9_hoursOf_52 : decode cX9_hoursOf 52 = .ok (.iadd, 1) := by decide +kernel
theorem dX9_hoursOf_53 : decode cX9_hoursOf 53 = .ok (.iconst 3, 1) := by decide +kernel
theorem dX9_hoursOf_54 : decode cX9_hoursOf 54 = .ok (.iload 4, 2) := by decide +kernel
theorem dX9_hoursOf_56 : decode cX9_hoursOf 56 = .ok (.imul, 1) := by decide +kernel
theorem dX9_hoursOf_57 : decode cX9_hoursOf 57 = .ok (.iadd, 1) := by decide +kernel
theorem dX9_hoursOf_58 : decode cX9_hoursOf 58 = .ok (.iconst 0, 1) := by decide +kernel
theorem dX9_hoursOf_59 : decode cX9_hoursOf 59 = .ok (.sipush 999, 3) := by decide +kernel
theorem dX9_hoursOf_62 : decode cX9_hoursOf 62 = .ok (.invokestatic 203, 3) := by decide +kernel
theorem dX9_hoursOf_65 : decode cX9_hoursOf 65 = .ok (.ireturn, 1) := by decide +kernel
theorem dX9_post_0 : decode cX9_post 0 = .ok (.iload_n 1, 1) := by decide +kernel
theorem dX9_post_1 : decode cX9_post 1 = .ok (.iconst 0, 1) := by decide +kernel
theorem dX9_post_2 : decode cX9_post 2 = .ok (.aload_n 0, 1) := by decide +kernel
theorem dX9_post_3 : decode cX9_post 3 = .ok (.getfield 9, 3) := by decide +kernel
theorem dX9_post_6 : decode cX9_post 6 = .ok (.iconst 0, 1) := by decide +kernel
theorem dX9_post_7 : decode cX9_post 7 = .ok (.iaload, 1) := by decide +kernel
theorem dX9_post_8 : decode cX9_post 8 = .ok (.invokestatic 75, 3) := by decide +kernel
theorem dX9_post_11 : decode cX9_post 11 = .ok (.ifCond .eq 12, 3) := by decide +kernel
theorem dX9_post_14 : decode cX9_post 14 = .ok (.iload_n 2, 1) := by decide +kernel
theorem dX9_post_15 : decode cX9_post 15 = .ok (.iconst 0, 1) := by decide +kernel
theorem dX9_post_16 : decode cX9_post 16 = .ok (.iconst 5, 1) := by decide +kernel
theorem dX9_post_17 : decode cX9_post 17 = .ok (.invokestatic 75, 3) := by decide +kernel
theorem dX9_post_20 : decode cX9_post 20 = .ok (.ifCond .ne 10, 3) := by decide +kernel
theorem dX9_post_23 : decode cX9_post 23 = .ok (.aload_n 0, 1) := by decide +kernel
theorem dX9_post_24 : decode cX9_post 24 = .ok (.ldc 82, 2) := by decide +kernel
theorem dX9_post_26 : decode cX9_post 26 = .ok (.invokevirtual 83, 3) := by decide +kernel
theorem dX9_post_29 : decode cX9_post 29 = .ok (.ireturn, 1) := by decide +kernel
theorem dX9_post_30 : decode cX9_post 30 = .ok (.aload_n 0, 1) := by decide +kernel
theorem dX9_post_31 : decode cX9_post 31 = .ok (.invokevirtual 117, 3) := by decide +kernel
theorem dX9_post_34 : decode cX9_post 34 = .ok (.aload_n 0, 1) := by decide +kernel
theorem dX9_post_35 : decode cX9_post 35 = .ok (.iload_n 1, 1) := by decide +kernel
theorem dX9_post_36 : decode cX9_post 36 = .ok (.invokevirtual 206, 3) := by decide +kernel
theorem dX9_post_39 : decode cX9_post 39 = .ok (.istore_n 3, 1) := by decide +kernel
theorem dX9_post_40 : decode cX9_post 40 = .ok (.iload_n 2, 1) := by decide +kernel
theorem dX9_post_41 : decode cX9_post 41 = .ok (.tableswitch 87 0 4 #[35, 42, 49, 67, 85], 35) := by decide +kernel
theorem dX9_post_76 : decode cX9_post 76 = .ok (.aload_n 0, 1) := by decide +kernel
theorem dX9_post_77 : decode cX9_post 77 = .ok (.getfield 19, 3) := by decide +kernel
theorem dX9_post_80 : decode cX9_post 80 = .ok (.iload_n 1, 1) := by decide +kernel
theorem dX9_post_81 : decode cX9_post 81 = .ok (.iaload, 1) := by decide +kernel
theorem dX9_post_82 : decode cX9_post 82 = .ok (.ireturn, 1) := by decide +kernel
theorem dX9_post_83 : decode cX9_post 83 = .ok (.aload_n 0, 1) := by decide +kernel
theorem dX9_post_84 : decode cX9_post 84 = .ok (.getfield 22, 3) := by decide +kernel
theorem dX9_post_87 : decode cX9_post 87 = .ok (.iload_n 1, 1) := by decide +kernel
theorem dX9_post_88 : decode cX9_post 88 = .ok (.iaload, 1) := by decide +kernel
theorem dX9_post_89 : decode cX9_post 89 = .ok (.ireturn, 1) := by decide +kernel
theorem dX9_post_90 : decode cX9_post 90 = .ok (.aload_n 0, 1) := by decide +kernel
theorem dX9_post_91 : decode cX9_post 91 = .ok (.getfield 19, 3) := by decide +kernel
theorem dX9_post_94 : decode cX9_post 94 = .ok (.iload_n 1, 1) := by decide +kernel
theorem dX9_post_95 : decode cX9_post 95 = .ok (.iaload, 1) := by decide +kernel
theorem dX9_post_96 : decode cX9_post 96 = .ok (.aload_n 0, 1) := by decide +kernel
theorem dX9_post_97 : decode cX9_post 97 = .ok (.iconst 0, 1) := by decide +kernel
theorem dX9_post_98 : decode cX9_post 98 = .ok (.invokevirtual 193, 3) := by decide +kernel
theorem dX9_post_101 : decode cX9_post 101 = .ok (.iload_n 3, 1) := by decide +kernel
theorem dX9_post_102 : decode cX9_post 102 = .ok (.imul, 1) := by decide +kernel
theorem dX9_post_103 : decode cX9_post 103 = .ok (.bipush 100, 2) := by decide +kernel
theorem dX9_post_105 : decode cX9_post 105 = .ok (.idiv, 1) := by decide +kernel
theorem dX9_post_106 : decode cX9_post 106 = .ok (.isub, 1) := by decide +kernel
theorem dX9_post_107 : decode cX9_post 107 = .ok (.ireturn, 1) := by decide +kernel
theorem dX9_post_108 : decode cX9_post 108 = .ok (.aload_n 0, 1) := by decide +kernel
theorem dX9_post_109 : decode cX9_post 109 = .ok (.getfield 22, 3) := by decide +kernel
theorem dX9_post_112 : decode cX9_post 112 = .ok (.iload_n 1, 1) := by decide +kernel
theorem dX9_post_113 : decode cX9_post 113 = .ok (.iaload, 1) := by decide +kernel
theorem dX9_post_114 : decode cX9_post 114 = .ok (.aload_n 0, 1) := by decide +kernel
theorem dX9_post_115 : decode cX9_post 115 = .ok (.iconst 1, 1) := by decide +kernel
theorem dX9_post_116 : decode cX9_post 116 = .ok (.invokevirtual 193, 3) := by decide +kernel
theorem dX9_post_119 : decode cX9_post 119 = .ok (.iload_n 3, 1) := by decide +kernel
theorem dX9_post_120 : decode cX9_post 120 = .ok (.imul, 1) := by decide +kernel
theorem dX9_post_121 : decode cX9_post 121 = .ok (.bipush 100, 2) := by decide +kernel
theorem dX9_post_123 : decode cX9_post 123 = .ok (.idiv, 1) := by decide +kernel
theorem dX9_post_124 : decode cX9_post 124 = .ok (.isub, 1) := by decide +kernel
theorem dX9_post_125 : decode cX9_post 125 = .ok (.ireturn, 1) := by decide +kernel
theorem dX9_post_126 : decode cX9_post 126 = .ok (.iload_n 3, 1) := by decide +kernel
theorem dX9_post_127 : decode cX9_post 127 = .ok (.ireturn, 1) := by decide +kernel
theorem dX9_post_128 : decode cX9_post 128 = .ok (.aload_n 0, 1) := by decide +kernel
theorem dX9_post_129 : decode cX9_post 129 = .ok (.iload_n 1, 1) := by decide +kernel
theorem dX9_post_130 : decode cX9_post 130 = .ok (.invokevirtual 196, 3) := by decide +kernel
theorem dX9_post_133 : decode cX9_post 133 = .ok (.ireturn, 1) := by decide +kernel
theorem dX9_miss_0 : decode cX9_miss 0 = .ok (.iload_n 1, 1) := by decide +kernel
theorem dX9_miss_1 : decode cX9_miss 1 = .ok (.iconst 0, 1) := by decide +kernel
theorem dX9_miss_2 : decode cX9_miss 2 = .ok (.iconst 2, 1) := by decide +kernel
theorem dX9_miss_3 : decode cX9_miss 3 = .ok (.invokestatic 75, 3) := by decide +kernel
theorem dX9_miss_6 : decode cX9_miss 6 = .ok (.ifCond .ne 10, 3) := by decide +kernel
theorem dX9_miss_9 : decode cX9_miss 9 = .ok (.aload_n 0, 1) := by decide +kernel
theorem dX9_miss_10 : decode cX9_miss 10 = .ok (.ldc 82, 2) := by decide +kernel
theorem dX9_miss_12 : decode cX9_miss 12 = .ok (.invokevirtual 83, 3) := by decide +kernel
theorem dX9_miss_15 : decode cX9_miss 15 = .ok (.ireturn, 1) := by decide +kernel
theorem dX9_miss_16 : decode cX9_miss 16 = .ok (.aload_n 0, 1) := by decide +kernel
theorem dX9_miss_17 : decode cX9_miss 17 = .ok (.invokevirtual 117, 3) := by decide +kernel
theorem dX9_miss_20 : decode cX9_miss 20 = .ok (.aload_n 0, 1) := by decide +kernel
theorem dX9_miss_21 : decode cX9_miss 21 = .ok (.iload_n 1, 1) := by decide +kernel
theorem dX9_miss_22 : decode cX9_miss 22 = .ok (.invokevirtual 193, 3) := by decide +kernel
theorem dX9_miss_25 : decode cX9_miss 25 = .ok (.ireturn, 1) := by decide +kernel
theorem dX9_wronged_0 : decode cX9_wronged 0 = .ok (.iload_n 1, 1) := by decide +kernel
theorem dX9_wronged_1 : decode cX9_wronged 1 = .ok (.iconst 1, 1) := by decide +kernel
theorem dX9_wronged_2 : decode cX9_wronged 2 = .ok (.sipush 9999, 3) := by decide +kernel
theorem dX9_wronged_5 : decode cX9_wronged 5 = .ok (.invokestatic 75, 3) := by decide +kernel
theorem dX9_wronged_8 : decode cX9_wronged 8 = .ok (.ifCond .ne 10, 3) := by decide +kernel
theorem dX9_wronged_11 : decode cX9_wronged 11 = .ok (.aload_n 0, 1) := by decide +kernel
theorem dX9_wronged_12 : decode cX9_wronged 12 = .ok (.ldc 82, 2) := by decide +kernel
theorem dX9_wronged_14 : decode cX9_wronged 14 = .ok (.invokevirtual 83, 3) := by decide +kernel
theorem dX9_wronged_17 : decode cX9_wronged 17 = .ok (.ireturn, 1) := by decide +kernel
theorem dX9_wronged_18 : decode cX9_wronged 18 = .ok (.aload_n 0, 1) := by decide +kernel
theorem dX9_wronged_19 : decode cX9_wronged 19 = .ok (.invokevirtual 117, 3) := by decide +kernel
theorem dX9_wronged_22 : decode cX9_wronged 22 = .ok (.iconst 0, 1) := by decide +kernel
theorem dX9_wronged_23 : decode cX9_wronged 23 = .ok (.istore_n 2, 1) := by decide +kernel
theorem dX9_wronged_24 : decode cX9_wronged 24 = .ok (.iconst 0, 1) := by decide +kernel
theorem dX9_wronged_25 : decode cX9_wronged 25 = .ok (.istore_n 3, 1) := by decide +kernel
theorem dX9_wronged_26 : decode cX9_wronged 26 = .ok (.iconst 0, 1) := by decide +kernel
theorem dX9_wronged_27 : decode cX9_wronged 27 = .ok (.istore 4, 2) := by decide +kernel
theorem dX9_wronged_29 : decode cX9_wronged 29 = .ok (.iload 4, 2) := by decide +kernel
theorem dX9_wronged_31 : decode cX9_wronged 31 = .ok (.aload_n 0, 1) := by decide +kernel
theorem dX9_wronged_32 : decode cX9_wronged 32 = .ok (.getfield 9, 3) := by decide +kernel
theorem dX9_wronged_35 : decode cX9_wronged 35 = .ok (.iconst 0, 1) := by decide +kernel
theorem dX9_wronged_36 : decode cX9_wronged 36 = .ok (.iaload, 1) := by decide +kernel
theorem dX9_wronged_37 : decode cX9_wronged 37 = .ok (.if_icmp .gt 68, 3) := by decide +kernel
theorem dX9_wronged_40 : decode cX9_wronged 40 = .ok (.aload_n 0, 1) := by decide +kernel
theorem dX9_wronged_41 : decode cX9_wronged 41 = .ok (.iconst 0, 1) := by decide +kernel
theorem dX9_wronged_42 : decode cX9_wronged 42 = .ok (.invokevirtual 193, 3) := by decide +kernel
theorem dX9_wronged_45 : decode cX9_wronged 45 = .ok (.aload_n 0, 1) := by decide +kernel
theorem dX9_wronged_46 : decode cX9_wronged 46 = .ok (.iload 4, 2) := by decide +kernel
theorem dX9_wronged_48 : decode cX9_wronged 48 = .ok (.invokevirtual 206, 3) := by decide +kernel
theorem dX9_wronged_51 : decode cX9_wronged 51 = .ok (.imul, 1) := by decide +kernel
theorem dX9_wronged_52 : decode cX9_wronged 52 = .ok (.bipush 100, 2) := by decide +kernel
theorem dX9_wronged_54 : decode cX9_wronged 54 = .ok (.idiv, 1) := by decide +kernel
theorem dX9_wronged_55 : decode cX9_wronged 55 = .ok (.invokestatic 114, 3) := by decide +kernel
theorem dX9_wronged_58 : decode cX9_wronged 58 = .ok (.iload_n 1, 1) := by decide +kernel
theorem dX9_wronged_59 : decode cX9_wronged 59 = .ok (.if_icmp .lt 7, 3) := by decide +kernel
theorem dX9_wronged_62 : decode cX9_wronged 62 = .ok (.iconst 1, 1) := by decide +kernel
theorem dX9_wronged_63 : decode cX9_wronged 63 = .ok (.goto 4, 3) := by decide +kernel
theorem dX9_wronged_66 : decode cX9_wronged 66 = .ok (.iconst 0, 1) := by decide +kernel
theorem dX9_wronged_67 : decode cX9_wronged 67 = .ok (.istore 5, 2) := by decide +kernel
theorem dX9_wronged_69 : decode cX9_wronged 69 = .ok (.iload_n 2, 1) := by decide +kernel
theorem dX9_wronged_70 : decode cX9_wronged 70 = .ok (.iload 4, 2) := by decide +kernel
theorem dX9_wronged_72 : decode cX9_wronged 72 = .ok (.ifCond .le 21, 3) := by decide +kernel
theorem dX9_wronged_75 : decode cX9_wronged 75 = .ok (.iload_n 3, 1) := by decide +kernel
theorem dX9_wronged_76 : decode cX9_wronged 76 = .ok (.ifCond .ne 8, 3) := by decide +kernel
theorem dX9_wronged_79 : decode cX9_wronged 79 = .ok (.iload 5, 2) := by decide +kernel
theorem dX9_wronged_81 : decode cX9_wronged 81 = .ok (.ifCond .eq 12, 3) := by decide +kernel
theorem dX9_wronged_84 : decode cX9_wronged 84 = .ok (.iconst 1, 1) := by decide +kernel
theorem dX9_wronged_85 : decode cX9_wronged 85 = .ok (.iload 4, 2) := by decide +kernel
theorem dX9_wronged_87 : decode cX9_wronged 87 = .ok (.iconst 1, 1) := by decide +kernel
theorem dX9_wronged_88 : decode cX9_wronged 88 = .ok (.isub, 1) := by decide +kernel
theorem dX9_wronged_89 : decode cX9_wronged 89 = .ok (.ishl, 1) := by decide +kernel
theorem dX9_wronged_90 : decode cX9_wronged 90 = .ok (.goto 4, 3) := by decide +kernel
theorem dX9_wronged_93 : decode cX9_wronged 93 = .ok (.iconst 0, 1) := by decide +kernel
theorem dX9_wronged_94 : decode cX9_wronged 94 = .ok (.ior, 1) := by decide +kernel
theorem dX9_wronged_95 : decode cX9_wronged 95 = .ok (.istore_n 2, 1) := by decide +kernel
theorem dX9_wronged_96 : decode cX9_wronged 96 = .ok (.iload 5, 2) := by decide +kernel
theorem dX9_wronged_98 : decode cX9_wronged 98 = .ok (.istore_n 3, 1) := by decide +kernel
theorem dX9_wronged_99 : decode cX9_wronged 99 = .ok (.iinc 4 1, 3) := by decide +kernel
theorem dX9_wronged_102 : decode cX9_wronged 102 = .ok (.goto (-73), 3) := by decide +kernel
theorem dX9_wronged_105 : decode cX9_wronged 105 = .ok (.iload_n 2, 1) := by decide +kernel
theorem dX9_wronged_106 : decode cX9_wronged 106 = .ok (.ireturn, 1) := by decide +kernel
theorem dX9_which_0 : decode cX9_which 0 = .ok (.iload_n 1, 1) := by decide +kernel
theorem dX9_which_1 : decode cX9_which 1 = .ok (.iconst 0, 1) := by decide +kernel
theorem dX9_which_2 : decode cX9_which 2 = .ok (.iconst 1, 1) := by decide +kernel
theorem dX9_which_3 : decode cX9_which 3 = .ok (.invokestatic 75, 3) := by decide +kernel
theorem dX9_which_6 : decode cX9_which 6 = .ok (.ifCond .ne 10, 3) := by decide +kernel
theorem dX9_which_9 : decode cX9_which 9 = .ok (.aload_n 0, 1) := by decide +kernel
theorem dX9_which_10 : decode cX9_which 10 = .ok (.ldc 82, 2) := by decide +kernel
theorem dX9_which_12 : decode cX9_which 12 = .ok (.invokevirtual 83, 3) := by decide +kernel
theorem dX9_which_15 : decode cX9_which 15 = .ok (.ireturn, 1) := by decide +kernel
theorem dX9_which_16 : decode cX9_which 16 = .ok (.iconst (-1), 1) := by decide +kernel
theorem dX9_which_17 : decode cX9_which 17 = .ok (.istore_n 2, 1) := by decide +kernel
theorem dX9_which_18 : decode cX9_which 18 = .ok (.iconst 0, 1) := by decide +kernel
theorem dX9_which_19 : decode cX9_which 19 = .ok (.istore_n 3, 1) := by decide +kernel
theorem dX9_which_20 : decode cX9_which 20 = .ok (.iconst 0, 1) := by decide +kernel
theorem dX9_which_21 : decode cX9_which 21 = .ok (.istore 4, 2) := by decide +kernel
theorem dX9_which_23 : decode cX9_which 23 = .ok (.iload 4, 2) := by decide +kernel
theorem dX9_which_25 : decode cX9_which 25 = .ok (.aload_n 0, 1) := by decide +kernel
theorem dX9_which_26 : decode cX9_which 26 = .ok (.getfield 9, 3) := by decide +kernel
theorem dX9_which_29 : decode cX9_which 29 = .ok (.iconst 1, 1) := by decide +kernel
theorem dX9_which_30 : decode cX9_which 30 = .ok (.iaload, 1) := by decide +kernel
theorem dX9_which_31 : decode cX9_which 31 = .ok (.if_icmp .ge 78, 3) := by decide +kernel
theorem dX9_which_34 : decode cX9_which 34 = .ok (.aload_n 0, 1) := by decide +kernel
theorem dX9_which_35 : decode cX9_which 35 = .ok (.iload 4, 2) := by decide +kernel
theorem dX9_which_37 : decode cX9_which 37 = .ok (.iconst 4, 1) := by decide +kernel
theorem dX9_which_38 : decode cX9_which 38 = .ok (.invokevirtual 97, 3) := by decide +kernel
theorem dX9_which_41 : decode cX9_which 41 = .ok (.iconst 1, 1) := by decide +kernel
theorem dX9_which_42 : decode cX9_which 42 = .ok (.if_icmp .ne 61, 3) := by decide +kernel
theorem dX9_which_45 : decode cX9_which 45 = .ok (.aload_n 0, 1) := by decide +kernel
theorem dX9_which_46 : decode cX9_which 46 = .ok (.getfield 9, 3) := by decide +kernel
theorem dX9_which_49 : decode cX9_which 49 = .ok (.sipush 128, 3) := by decide +kernel
theorem dX9_which_52 : decode cX9_which 52 = .ok (.iconst 5, 1) := by decide +kernel
theorem dX9_which_53 : decode cX9_which 53 = .ok (.iload 4, 2) := by decide +kernel
theorem dX9_which_55 : decode cX9_which 55 = .ok (.imul, 1) := by decide +kernel
theorem dX9_which_56 : decode cX9_which 56 = .ok (.iadd, 1) := by decide +kernel
theorem dX9_which_57 : decode cX9_which 57 = .ok (.iconst 4, 1) := by decide +kernel
theorem dX9_which_58 : decode cX9_which 58 = .ok (.iadd, 1) := by decide +kernel
theorem dX9_which_59 : decode cX9_which 59 = .ok (.iconst 0, 1) := by decide +kernel
theorem dX9_which_60 : decode cX9_which 60 = .ok (.iastore, 1) := by decide +kernel
theorem dX9_which_61 : decode cX9_which 61 = .ok (.aload_n 0, 1) := by decide +kernel
theorem dX9_which_62 : decode cX9_which 62 = .ok (.invokevirtual 117, 3) := by decide +kernel
theorem dX9_which_65 : decode cX9_which 65 = .ok (.aload_n 0, 1) := by decide +kernel
theorem dX9_which_66 : decode cX9_which 66 = .ok (.getfield 9, 3) := by decide +kernel
theorem dX9_which_69 : decode cX9_which 69 = .ok (.sipush 128, 3) := by decide +kernel
theorem dX9_which_72 : decode cX9_which 72 = .ok (.iconst 5, 1) := by decide +kernel
theorem dX9_which_73 : decode cX9_which 73 = .ok (.iload 4, 2) := by decide +kernel
theorem dX9_which_75 : decode cX9_which 75 = .ok (.imul, 1) := by decide +kernel
theorem dX9_which_76 : decode cX9_which 76 = .ok (.iadd, 1) := by decide +kernel
theorem dX9_which_77 : decode cX9_which 77 = .ok (.iconst 4, 1) := by decide +kernel
theorem dX9_which_78 : decode cX9_which 78 = .ok (.iadd, 1) := by decide +kernel
theorem dX9_which_79 : decode cX9_which 79 = .ok (.iconst 1, 1) := by decide +kernel
theorem dX9_which_80 : decode cX9_which 80 = .ok (.iastore, 1) := by decide +kernel
theorem dX9_which_81 : decode cX9_which 81 = .ok (.iload_n 2, 1) := by decide +kernel
theorem dX9_which_82 : decode cX9_which 82 = .ok (.ifCond .lt 12, 3) := by decide +kernel
theorem dX9_which_85 : decode cX9_which 85 = .ok (.aload_n 0, 1) := by decide +kernel
theorem dX9_which_86 : decode cX9_which 86 = .ok (.iconst 2, 1) := by decide +kernel
theorem dX9_which_87 : decode cX9_which 87 = .ok (.invokevirtual 193, 3) := by decide +kernel
theorem dX9_which_90 : decode cX9_which 90 = .ok (.iload_n 3, 1) := by decide +kernel
theorem dX9_which_91 : decode cX9_which 91 = .ok (.if_icmp .ge 12, 3) := by decide +kernel
theorem dX9_which_94 : decode cX9_which 94 = .ok (.iload 4, 2) := by decide +kernel
theorem dX9_which_96 : decode cX9_which 96 = .ok (.istore_n 2, 1) := by decide +kernel
theorem dX9_which_97 : decode cX9_which 97 = .ok (.aload_n 0, 1) := by decide +kernel
theorem dX9_which_98 : decode cX9_which 98 = .ok (.iconst 2, 1) := by decide +kernel
theorem dX9_which_99 : decode cX9_which 99 = .ok (.invokevirtual 193, 3) := by decide +kernel
theorem dX9_which_102 : decode cX9_which 102 = .ok (.istore_n 3, 1) := by decide +kernel
theorem dX9_which_103 : decode cX9_which 103 = .ok (.iinc 4 1, 3) := by decide +kernel
theorem dX9_which_106 : decode cX9_which 106 = .ok (.goto (-83), 3) := by decide +kernel
theorem dX9_which_109 : decode cX9_which 109 = .ok (.iload_n 2, 1) := by decide +kernel
theorem dX9_which_110 : decode cX9_which 110 = .ok (.ifCond .ge 12, 3) := by decide +kernel
theorem dX9_which_113 : decode cX9_which 113 = .ok (.aload_n 0, 1) := by decide +kernel
theorem dX9_which_114 : decode cX9_which 114 = .ok (.ldc 209, 2) := by decide +kernel
theorem dX9_which_116 : decode cX9_which 116 = .ok (.invokevirtual 83, 3) := by decide +kernel
theorem dX9_which_119 : decode cX9_which 119 = .ok (.goto 12, 3) := by decide +kernel
theorem dX9_which_122 : decode cX9_which 122 = .ok (.iload_n 1, 1) := by decide +kernel
theorem dX9_which_123 : decode cX9_which 123 = .ok (.ifCond .ne 7, 3) := by decide +kernel
theorem dX9_which_126 : decode cX9_which 126 = .ok (.iload_n 2, 1) := by decide +kernel
theorem dX9_which_127 : decode cX9_which 127 = .ok (.goto 4, 3) := by decide +kernel
theorem dX9_which_130 : decode cX9_which 130 = .ok (.iload_n 3, 1) := by decide +kernel
theorem dX9_which_131 : decode cX9_which 131 = .ok (.ireturn, 1) := by decide +kernel
theorem dX9_offBy_0 : decode cX9_offBy 0 = .ok (.iconst 0, 1) := by decide +kernel
theorem dX9_offBy_1 : decode cX9_offBy 1 = .ok (.istore_n 2, 1) := by decide +kernel
theorem dX9_offBy_2 : decode cX9_offBy 2 = .ok (.iload_n 2, 1) := by decide +kernel
theorem dX9_offBy_3 : decode cX9_offBy 3 = .ok (.bipush 24, 2) := by decide +kernel
theorem dX9_offBy_5 : decode cX9_offBy 5 = .ok (.if_icmp .ge 32, 3) := by decide +kernel
theorem dX9_offBy_8 : decode cX9_offBy 8 = .ok (.aload_n 0, 1) := by decide +kernel
theorem dX9_offBy_9 : decode cX9_offBy 9 = .ok (.getfield 47, 3) := by decide +kernel
theorem dX9_offBy_12 : decode cX9_offBy 12 = .ok (.iload_n 2, 1) := by decide +kernel
theorem dX9_offBy_13 : decode cX9_offBy 13 = .ok (.aload_n 0, 1) := by decide +kernel
theorem dX9_offBy_14 : decode cX9_offBy 14 = .ok (.bipush 8, 2) := by decide +kernel
theorem dX9_offBy_16 : decode cX9_offBy 16 = .ok (.iconst 5, 1) := by decide +kernel
theorem dX9_offBy_17 : decode cX9_offBy 17 = .ok (.iload_n 2, 1) := by decide +kernel
theorem dX9_offBy_18 : decode cX9_offBy 18 = .ok (.imul, 1) := by decide +kernel
theorem dX9_offBy_19 : decode cX9_offBy 19 = .ok (.iadd, 1) := by decide +kernel
theorem dX9_offBy_20 : decode cX9_offBy 20 = .ok (.iconst 3, 1) := by decide +kernel
theorem dX9_offBy_21 : decode cX9_offBy 21 = .ok (.iadd, 1) := by decide +kernel
theorem dX9_offBy_22 : decode cX9_offBy 22 = .ok (.iload_n 1, 1) := by decide +kernel
theorem dX9_offBy_23 : decode cX9_offBy 23 = .ok (.iload_n 2, 1) := by decide +kernel
theorem dX9_offBy_24 : decode cX9_offBy 24 = .ok (.ishr, 1) := by decide +kernel
theorem dX9_offBy_25 : decode cX9_offBy 25 = .ok (.iconst 1, 1) := by decide +kernel
theorem dX9_offBy_26 : decode cX9_offBy 26 = .ok (.iand, 1) := by decide +kernel
theorem dX9_offBy_27 : decode cX9_offBy 27 = .ok (.invokevirtual 79, 3) := by decide +kernel
theorem dX9_offBy_30 : decode cX9_offBy 30 = .ok (.iastore, 1) := by decide +kernel
theorem dX9_offBy_31 : decode cX9_offBy 31 = .ok (.iinc 2 1, 3) := by decide +kernel
theorem dX9_offBy_34 : decode cX9_offBy 34 = .ok (.goto (-32), 3) := by decide +kernel
theorem dX9_offBy_37 : decode cX9_offBy 37 = .ok (.aload_n 0, 1) := by decide +kernel
theorem dX9_offBy_38 : decode cX9_offBy 38 = .ok (.invokevirtual 117, 3) := by decide +kernel
theorem dX9_offBy_41 : decode cX9_offBy 41 = .ok (.iconst 0, 1) := by decide +kernel
theorem dX9_offBy_42 : decode cX9_offBy 42 = .ok (.istore_n 2, 1) := by decide +kernel
theorem dX9_offBy_43 : decode cX9_offBy 43 = .ok (.iload_n 2, 1) := by decide +kernel
theorem dX9_offBy_44 : decode cX9_offBy 44 = .ok (.bipush 24, 2) := by decide +kernel
theorem dX9_offBy_46 : decode cX9_offBy 46 = .ok (.if_icmp .ge 28, 3) := by decide +kernel
theorem dX9_offBy_49 : decode cX9_offBy 49 = .ok (.aload_n 0, 1) := by decide +kernel
theorem dX9_offBy_50 : decode cX9_offBy 50 = .ok (.getfield 9, 3) := by decide +kernel
theorem dX9_offBy_53 : decode cX9_offBy 53 = .ok (.bipush 8, 2) := by decide +kernel
theorem dX9_offBy_55 : decode cX9_offBy 55 = .ok (.iconst 5, 1) := by decide +kernel
theorem dX9_offBy_56 : decode cX9_offBy 56 = .ok (.iload_n 2, 1) := by decide +kernel
theorem dX9_offBy_57 : decode cX9_offBy 57 = .ok (.imul, 1) := by decide +kernel
theorem dX9_offBy_58 : decode cX9_offBy 58 = .ok (.iadd, 1) := by decide +kernel
theorem dX9_offBy_59 : decode cX9_offBy 59 = .ok (.iconst 3, 1) := by decide +kernel
theorem dX9_offBy_60 : decode cX9_offBy 60 = .ok (.iadd, 1) := by decide +kernel
theorem dX9_offBy_61 : decode cX9_offBy 61 = .ok (.aload_n 0, 1) := by decide +kernel
theorem dX9_offBy_62 : decode cX9_offBy 62 = .ok (.getfield 47, 3) := by decide +kernel
theorem dX9_offBy_65 : decode cX9_offBy 65 = .ok (.iload_n 2, 1) := by decide +kernel
theorem dX9_offBy_66 : decode cX9_offBy 66 = .ok (.iaload, 1) := by decide +kernel
theorem dX9_offBy_67 : decode cX9_offBy 67 = .ok (.iastore, 1) := by decide +kernel
theorem dX9_offBy_68 : decode cX9_offBy 68 = .ok (.iinc 2 1, 3) := by decide +kernel
theorem dX9_offBy_71 : decode cX9_offBy 71 = .ok (.goto (-28), 3) := by decide +kernel
theorem dX9_offBy_74 : decode cX9_offBy 74 = .ok (.aload_n 0, 1) := by decide +kernel
theorem dX9_offBy_75 : decode cX9_offBy 75 = .ok (.iconst 0, 1) := by decide +kernel
theorem dX9_offBy_76 : decode cX9_offBy 76 = .ok (.invokevirtual 193, 3) := by decide +kernel
theorem dX9_offBy_79 : decode cX9_offBy 79 = .ok (.invokestatic 114, 3) := by decide +kernel
theorem dX9_offBy_82 : decode cX9_offBy 82 = .ok (.ireturn, 1) := by decide +kernel
theorem dX9_checks_0 : decode cX9_checks 0 = .ok (.iload_n 1, 1) := by decide +kernel
theorem dX9_checks_1 : decode cX9_checks 1 = .ok (.iconst 1, 1) := by decide +kernel
theorem dX9_checks_2 : decode cX9_checks 2 = .ok (.iconst 2, 1) := by decide +kernel
theorem dX9_checks_3 : decode cX9_checks 3 = .ok (.invokestatic 75, 3) := by decide +kernel
theorem dX9_checks_6 : decode cX9_checks 6 = .ok (.ifCond .eq 12, 3) := by decide +kernel
theorem dX9_checks_9 : decode cX9_checks 9 = .ok (.iload_n 2, 1) := by decide +kernel
theorem dX9_checks_10 : decode cX9_checks 10 = .ok (.iconst 0, 1) := by decide +kernel
theorem dX9_checks_11 : decode cX9_checks 11 = .ok (.iconst 1, 1) := by decide +kernel
theorem dX9_checks_12 : decode cX9_checks 12 = .ok (.invokestatic 75, 3) := by decide +kernel
theorem dX9_checks_15 : decode cX9_checks 15 = .ok (.ifCond .ne 10, 3) := by decide +kernel
theorem dX9_checks_18 : decode cX9_checks 18 = .ok (.aload_n 0, 1) := by decide +kernel
theorem dX9_checks_19 : decode cX9_checks 19 = .ok (.ldc 82, 2) := by decide +kernel
theorem dX9_checks_21 : decode cX9_checks 21 = .ok (.invokevirtual 83, 3) := by decide +kernel
theorem dX9_checks_24 : decode cX9_checks 24 = .ok (.ireturn, 1) := by decide +kernel
theorem dX9_checks_25 : decode cX9_checks 25 = .ok (.aload_n 0, 1) := by decide +kernel
theorem dX9_checks_26 : decode cX9_checks 26 = .ok (.getfield 9, 3) := by decide +kernel
theorem dX9_checks_29 : decode cX9_checks 29 = .ok (.iconst 0, 1) := by decide +kernel
theorem dX9_checks_30 : decode cX9_checks 30 = .ok (.iaload, 1) := by decide +kernel
theorem dX9_checks_31 : decode cX9_checks 31 = .ok (.istore_n 3, 1) := by decide +kernel
theorem dX9_checks_32 : decode cX9_checks 32 = .ok (.iload_n 3, 1) := by decide +kernel
theorem dX9_checks_33 : decode cX9_checks 33 = .ok (.iload_n 1, 1) := by decide +kernel
theorem dX9_checks_34 : decode cX9_checks 34 = .ok (.if_icmp .ge 10, 3) := by decide +kernel
theorem dX9_checks_37 : decode cX9_checks 37 = .ok (.aload_n 0, 1) := by decide +kernel
theorem dX9_checks_38 : decode cX9_checks 38 = .ok (.ldc 209, 2) := by decide +kernel
theorem dX9_checks_40 : decode cX9_checks 40 = .ok (.invokevirtual 83, 3) := by decide +kernel
theorem dX9_checks_43 : decode cX9_checks 43 = .ok (.ireturn, 1) := by decide +kernel
theorem dX9_checks_44 : decode cX9_checks 44 = .ok (.iconst 0, 1) := by decide +kernel
theorem dX9_checks_45 : decode cX9_checks 45 = .ok (.istore 4, 2) := by decide +kernel
theorem dX9_checks_47 : decode cX9_checks 47 = .ok (.iconst 0, 1) := by decide +kernel
theorem dX9_checks_48 : decode cX9_checks 48 = .ok (.istore 5, 2) := by decide +kernel
theorem dX9_checks_50 : decode cX9_checks 50 = .ok (.iconst 0, 1) := by decide +kernel
theorem dX9_checks_51 : decode cX9_checks 51 = .ok (.istore 6, 2) := by decide +kernel
theorem dX9_checks_53 : decode cX9_checks 53 = .ok (.iload 6, 2) := by decide +kernel
theorem dX9_checks_55 : decode cX9_checks 55 = .ok (.iload_n 3, 1) := by decide +kernel
theorem dX9_checks_56 : decode cX9_checks 56 = .ok (.if_icmp .ge 85, 3) := by decide +kernel
theorem dX9_checks_59 : decode cX9_checks 59 = .ok (.iconst 0, 1) := by decide +kernel
theorem dX9_checks_60 : decode cX9_checks 60 = .ok (.istore 7, 2) := by decide +kernel
theorem dX9_checks_62 : decode cX9_checks 62 = .ok (.iload 7, 2) := by decide +kernel
theorem dX9_checks_64 : decode cX9_checks 64 = .ok (.iload_n 1, 1) := by decide +kernel
theorem dX9_checks_65 : decode cX9_checks 65 = .ok (.iconst 1, 1) := by decide +kernel
theorem dX9_checks_66 : decode cX9_checks 66 = .ok (.if_icmp .ne 7, 3) := by decide +kernel
theorem dX9_checks_69 : decode cX9_checks 69 = .ok (.iconst 1, 1) := by decide +kernel
theorem dX9_checks_70 : decode cX9_checks 70 = .ok (.goto 5, 3) := by decide +kernel
theorem dX9_checks_73 : decode cX9_checks 73 = .ok (.iload 6, 2) := by decide +kernel
theorem dX9_checks_75 : decode cX9_checks 75 = .ok (.if_icmp .ge 60, 3) := by decide +kernel
theorem dX9_checks_78 : decode cX9_checks 78 = .ok (.iload_n 1, 1) := by decide +kernel
theorem dX9_checks_79 : decode cX9_checks 79 = .ok (.iconst 1, 1) := by decide +kernel
theorem dX9_checks_80 : decode cX9_checks 80 = .ok (.if_icmp .ne 10, 3) := by decide +kernel
theorem dX9_checks_83 : decode cX9_checks 83 = .ok (.iconst 1, 1) := by decide +kernel
theorem dX9_checks_84 : decode cX9_checks 84 = .ok (.iload 6, 2) := by decide +kernel
theorem dX9_checks_86 : decode cX9_checks 86 = .ok (.ishl, 1) := by decide +kernel
theorem dX9_checks_87 : decode cX9_checks 87 = .ok (.goto 12, 3) := by decide +kernel
theorem dX9_checks_90 : decode cX9_checks 90 = .ok (.iconst 1, 1) := by decide +kernel
theorem dX9_checks_91 : decode cX9_checks 91 = .ok (.iload 6, 2) := by decide +kernel
theorem dX9_checks_93 : decode cX9_checks 93 = .ok (.ishl, 1) := by decide +kernel
theorem dX9_checks_94 : decode cX9_checks 94 = .ok (.iconst 1, 1) := by decide +kernel
theorem dX9_checks_95 : decode cX9_checks 95 = .ok (.iload 7, 2) := by decide +kernel
theorem dX9_checks_97 : decode cX9_checks 97 = .ok (.ishl, 1) := by decide +kernel
theorem dX9_checks_98 : decode cX9_checks 98 = .ok (.ior, 1) := by decide +kernel
theorem dX9_checks_99 : decode cX9_checks 99 = .ok (.istore 8, 2) := by decide +kernel
theorem dX9_checks_101 : decode cX9_checks 101 = .ok (.aload_n 0, 1) := by decide +kernel
theorem dX9_checks_102 : decode cX9_checks 102 = .ok (.iload 8, 2) := by decide +kernel
theorem dX9_checks_104 : decode cX9_checks 104 = .ok (.invokevirtual 210, 3) := by decide +kernel
theorem dX9_checks_107 : decode cX9_checks 107 = .ok (.istore 9, 2) := by decide +kernel
theorem dX9_checks_109 : decode cX9_checks 109 = .ok (.iload 4, 2) := by decide +kernel
theorem dX9_checks_111 : decode cX9_checks 111 = .ok (.ifCond .eq 10, 3) := by decide +kernel
theorem dX9_checks_114 : decode cX9_checks 114 = .ok (.iload 9, 2) := by decide +kernel
theorem dX9_checks_116 : decode cX9_checks 116 = .ok (.iload 5, 2) := by decide +kernel
theorem dX9_checks_118 : decode cX9_checks 118 = .ok (.if_icmp .ge 11, 3) := by decide +kernel
theorem dX9_checks_121 : decode cX9_checks 121 = .ok (.iload 8, 2) := by decide +kernel
theorem dX9_checks_123 : decode cX9_checks 123 = .ok (.istore 4, 2) := by decide +kernel
theorem dX9_checks_125 : decode cX9_checks 125 = .ok (.iload 9, 2) := by decide +kernel
theorem dX9_checks_127 : decode cX9_checks 127 = .ok (.istore 5, 2) := by decide +kernel
theorem dX9_checks_129 : decode cX9_checks 129 = .ok (.iinc 7 1, 3) := by decide +kernel
theorem dX9_checks_132 : decode cX9_checks 132 = .ok (.goto (-70), 3) := by decide +kernel
theorem dX9_checks_135 : decode cX9_checks 135 = .ok (.iinc 6 1, 3) := by decide +kernel
theorem dX9_checks_138 : decode cX9_checks 138 = .ok (.goto (-85), 3) := by decide +kernel
theorem dX9_checks_141 : decode cX9_checks 141 = .ok (.iload_n 2, 1) := by decide +kernel
theorem dX9_checks_142 : decode cX9_checks 142 = .ok (.ifCond .ne 8, 3) := by decide +kernel
theorem dX9_checks_145 : decode cX9_checks 145 = .ok (.iload 4, 2) := by decide +kernel
theorem dX9_checks_147 : decode cX9_checks 147 = .ok (.goto 5, 3) := by decide +kernel
theorem dX9_checks_150 : decode cX9_checks 150 = .ok (.iload 5, 2) := by decide +kernel
theorem dX9_checks_152 : decode cX9_checks 152 = .ok (.ireturn, 1) := by decide +kernel
theorem dX9_hours_0 : decode cX9_hours 0 = .ok (.iconst 0, 1) := by decide +kernel
theorem dX9_hours_1 : decode cX9_hours 1 = .ok (.istore_n 1, 1) := by decide +kernel
theorem dX9_hours_2 : decode cX9_hours 2 = .ok (.iconst 0, 1) := by decide +kernel
theorem dX9_hours_3 : decode cX9_hours 3 = .ok (.istore_n 2, 1) := by decide +kernel
theorem dX9_hours_4 : decode cX9_hours 4 = .ok (.iload_n 2, 1) := by decide +kernel
theorem dX9_hours_5 : decode cX9_hours 5 = .ok (.aload_n 0, 1) := by decide +kernel
theorem dX9_hours_6 : decode cX9_hours 6 = .ok (.getfield 9, 3) := by decide +kernel
theorem dX9_hours_9 : decode cX9_hours 9 = .ok (.iconst 0, 1) := by decide +kernel
theorem dX9_hours_10 : decode cX9_hours 10 = .ok (.iaload, 1) := by decide +kernel
theorem dX9_hours_11 : decode cX9_hours 11 = .ok (.if_icmp .ge 17, 3) := by decide +kernel
theorem dX9_hours_14 : decode cX9_hours 14 = .ok (.iload_n 1, 1) := by decide +kernel
theorem dX9_hours_15 : decode cX9_hours 15 = .ok (.aload_n 0, 1) := by decide +kernel
theorem dX9_hours_16 : decode cX9_hours 16 = .ok (.iload_n 2, 1) := by decide +kernel
theorem dX9_hours_17 : decode cX9_hours 17 = .ok (.invokevirtual 120, 3) := by decide +kernel
theorem dX9_hours_20 : decode cX9_hours 20 = .ok (.iadd, 1) := by decide +kernel
theorem dX9_hours_21 : decode cX9_hours 21 = .ok (.istore_n 1, 1) := by decide +kernel
theorem dX9_hours_22 : decode cX9_hours 22 = .ok (.iinc 2 1, 3) := by decide +kernel
theorem dX9_hours_25 : decode cX9_hours 25 = .ok (.goto (-21), 3) := by decide +kernel
theorem dX9_hours_28 : decode cX9_hours 28 = .ok (.iload_n 1, 1) := by decide +kernel
theorem dX9_hours_29 : decode cX9_hours 29 = .ok (.ireturn, 1) := by decide +kernel
theorem dX9_within_0 : decode cX9_within 0 = .ok (.iload_n 1, 1) := by decide +kernel
theorem dX9_within_1 : decode cX9_within 1 = .ok (.iconst 0, 1) := by decide +kernel
theorem dX9_within_2 : decode cX9_within 2 = .ok (.ldc 91, 2) := by decide +kernel
theorem dX9_within_4 : decode cX9_within 4 = .ok (.invokestatic 75, 3) := by decide +kernel
theorem dX9_within_7 : decode cX9_within 7 = .ok (.ifCond .ne 10, 3) := by decide +kernel
theorem dX9_within_10 : decode cX9_within 10 = .ok (.aload_n 0, 1) := by decide +kernel
theorem dX9_within_11 : decode cX9_within 11 = .ok (.ldc 82, 2) := by decide +kernel
theorem dX9_within_13 : decode cX9_within 13 = .ok (.invokevirtual 83, 3) := by decide +kernel
theorem dX9_within_16 : decode cX9_within 16 = .ok (.ireturn, 1) := by decide +kernel
theorem dX9_within_17 : decode cX9_within 17 = .ok (.iconst 0, 1) := by decide +kernel
theorem dX9_within_18 : decode cX9_within 18 = .ok (.istore_n 2, 1) := by decide +kernel
theorem dX9_within_19 : decode cX9_within 19 = .ok (.iconst 0, 1) := by decide +kernel
theorem dX9_within_20 : decode cX9_within 20 = .ok (.istore_n 3, 1) := by decide +kernel
theorem dX9_within_21 : decode cX9_within 21 = .ok (.iload_n 2, 1) := by decide +kernel
theorem dX9_within_22 : decode cX9_within 22 = .ok (.aload_n 0, 1) := by decide +kernel
theorem dX9_within_23 : decode cX9_within 23 = .ok (.getfield 9, 3) := by decide +kernel
theorem dX9_within_26 : decode cX9_within 26 = .ok (.iconst 0, 1) := by decide +kernel
theorem dX9_within_27 : decode cX9_within 27 = .ok (.iaload, 1) := by decide +kernel
theorem dX9_within_28 : decode cX9_within 28 = .ok (.if_icmp .ge 28, 3) := by decide +kernel
theorem dX9_within_31 : decode cX9_within 31 = .ok (.iload_n 3, 1) := by decide +kernel
theorem dX9_within_32 : decode cX9_within 32 = .ok (.aload_n 0, 1) := by decide +kernel
theorem dX9_within_33 : decode cX9_within 33 = .ok (.iload_n 2, 1) := by decide +kernel
theorem dX9_within_34 : decode cX9_within 34 = .ok (.invokevirtual 120, 3) := by decide +kernel
theorem dX9_within_37 : decode cX9_within 37 = .ok (.iadd, 1) := by decide +kernel
theorem dX9_within_38 : decode cX9_within 38 = .ok (.iload_n 1, 1) := by decide +kernel
theorem dX9_within_39 : decode cX9_within 39 = .ok (.if_icmp .gt 17, 3) := by decide +kernel
theorem dX9_within_42 : decode cX9_within 42 = .ok (.iload_n 3, 1) := by decide +kernel
theorem dX9_within_43 : decode cX9_within 43 = .ok (.aload_n 0, 1) := by decide +kernel
theorem dX9_within_44 : decode cX9_within 44 = .ok (.iload_n 2, 1) := by decide +kernel
theorem dX9_within_45 : decode cX9_within 45 = .ok (.invokevirtual 120, 3) := by decide +kernel
theorem dX9_within_48 : decode cX9_within 48 = .ok (.iadd, 1) := by decide +kernel
theorem dX9_within_49 : decode cX9_within 49 = .ok (.istore_n 3, 1) := by decide +kernel
theorem dX9_within_50 : decode cX9_within 50 = .ok (.iinc 2 1, 3) := by decide +kernel
theorem dX9_within_53 : decode cX9_within 53 = .ok (.goto (-32), 3) := by decide +kernel
theorem dX9_within_56 : decode cX9_within 56 = .ok (.iload_n 2, 1) := by decide +kernel
theorem dX9_within_57 : decode cX9_within 57 = .ok (.ireturn, 1) := by decide +kernel
theorem dX9_leaning_0 : decode cX9_leaning 0 = .ok (.aload_n 0, 1) := by decide +kernel
theorem dX9_leaning_1 : decode cX9_leaning 1 = .ok (.invokevirtual 117, 3) := by decide +kernel
theorem dX9_leaning_4 : decode cX9_leaning 4 = .ok (.iconst 0, 1) := by decide +kernel
theorem dX9_leaning_5 : decode cX9_leaning 5 = .ok (.istore_n 1, 1) := by decide +kernel
theorem dX9_leaning_6 : decode cX9_leaning 6 = .ok (.iconst 1, 1) := by decide +kernel
theorem dX9_leaning_7 : decode cX9_leaning 7 = .ok (.istore_n 2, 1) := by decide +kernel
theorem dX9_leaning_8 : decode cX9_leaning 8 = .ok (.iload_n 2, 1) := by decide +kernel
theorem dX9_leaning_9 : decode cX9_leaning 9 = .ok (.aload_n 0, 1) := by decide +kernel
theorem dX9_leaning_10 : decode cX9_leaning 10 = .ok (.getfield 9, 3) := by decide +kernel
theorem dX9_leaning_13 : decode cX9_leaning 13 = .ok (.iconst 0, 1) := by decide +kernel
theorem dX9_leaning_14 : decode cX9_leaning 14 = .ok (.iaload, 1) := by decide +kernel
theorem dX9_leaning_15 : decode cX9_leaning 15 = .ok (.if_icmp .ge 36, 3) := by decide +kernel
theorem dX9_leaning_18 : decode cX9_leaning 18 = .ok (.aload_n 0, 1) := by decide +kernel
theorem dX9_leaning_19 : decode cX9_leaning 19 = .ok (.getfield 25, 3) := by decide +kernel
theorem dX9_leaning_22 : decode cX9_leaning 22 = .ok (.iload_n 2, 1) := by decide +kernel
theorem dX9_leaning_23 : decode cX9_leaning 23 = .ok (.iaload, 1) := by decide +kernel
theorem dX9_leaning_24 : decode cX9_leaning 24 = .ok (.invokestatic 114, 3) := by decide +kernel
theorem dX9_leaning_27 : decode cX9_leaning 27 = .ok (.aload_n 0, 1) := by decide +kernel
theorem dX9_leaning_28 : decode cX9_leaning 28 = .ok (.getfield 25, 3) := by decide +kernel
theorem dX9_leaning_31 : decode cX9_leaning 31 = .ok (.iload_n 1, 1) := by decide +kernel
theorem dX9_leaning_32 : decode cX9_leaning 32 = .ok (.iaload, 1) := by decide +kernel
theorem dX9_leaning_33 : decode cX9_leaning 33 = .ok (.invokestatic 114, 3) := by decide +kernel
theorem dX9_leaning_36 : decode cX9_leaning 36 = .ok (.if_icmp .le 7, 3) := by decide +kernel
theorem dX9_leaning_39 : decode cX9_leaning 39 = .ok (.iload_n 2, 1) := by decide +kernel
theorem dX9_leaning_40 : decode cX9_leaning 40 = .ok (.goto 4, 3) := by decide +kernel
theorem dX9_leaning_43 : decode cX9_leaning 43 = .ok (.iload_n 1, 1) := by decide +kernel
theorem dX9_leaning_44 : decode cX9_leaning 44 = .ok (.istore_n 1, 1) := by decide +kernel
theorem dX9_leaning_45 : decode cX9_leaning 45 = .ok (.iinc 2 1, 3) := by decide +kernel
theorem dX9_leaning_48 : decode cX9_leaning 48 = .ok (.goto (-40), 3) := by decide +kernel
theorem dX9_leaning_51 : decode cX9_leaning 51 = .ok (.iload_n 1, 1) := by decide +kernel
theorem dX9_leaning_52 : decode cX9_leaning 52 = .ok (.ireturn, 1) := by decide +kernel
theorem dX9_divisor_0 : decode cX9_divisor 0 = .ok (.lload_n 2, 1) := by decide +kernel
theorem dX9_divisor_1 : decode cX9_divisor 1 = .ok (.lconst 0, 1) := by decide +kernel
theorem dX9_divisor_2 : decode cX9_divisor 2 = .ok (.lcmp, 1) := by decide +kernel
theorem dX9_divisor_3 : decode cX9_divisor 3 = .ok (.ifCond .ne 7, 3) := by decide +kernel
theorem dX9_divisor_6 : decode cX9_divisor 6 = .ok (.lload_n 0, 1) := by decide +kernel
theorem dX9_divisor_7 : decode cX9_divisor 7 = .ok (.goto 10, 3) := by decide +kernel
theorem dX9_divisor_10 : decode cX9_divisor 10 = .ok (.lload_n 2, 1) := by decide +kernel
theorem dX9_divisor_11 : decode cX9_divisor 11 = .ok (.lload_n 0, 1) := by decide +kernel
theorem dX9_divisor_12 : decode cX9_divisor 12 = .ok (.lload_n 2, 1) := by decide +kernel
theorem dX9_divisor_13 : decode cX9_divisor 13 = .ok (.lrem, 1) := by decide +kernel
theorem dX9_divisor_14 : decode cX9_divisor 14 = .ok (.invokestatic 213, 3) := by decide +kernel
theorem dX9_divisor_17 : decode cX9_divisor 17 = .ok (.lreturn, 1) := by decide +kernel
theorem dX9_findStraight_0 : decode cX9_findStraight 0 = .ok (.aload_n 0, 1) := by decide +kernel
theorem dX9_findStraight_1 : decode cX9_findStraight 1 = .ok (.invokevirtual 117, 3) := by decide +kernel
theorem dX9_findStraight_4 : decode cX9_findStraight 4 = .ok (.aload_n 0, 1) := by decide +kernel
theorem dX9_findStraight_5 : decode cX9_findStraight 5 = .ok (.lconst 0, 1) := by decide +kernel
theorem dX9_findStraight_6 : decode cX9_findStraight 6 = .ok (.putfield 217, 3) := by decide +kernel
theorem dX9_findStraight_9 : decode cX9_findStraight 9 = .ok (.aload_n 0, 1) := by decide +kernel
theorem dX9_findStraight_10 : decode cX9_findStraight 10 = .ok (.lconst 0, 1) := by decide +kernel
theorem dX9_findStraight_11 : decode cX9_findStraight 11 = .ok (.putfield 220, 3) := by decide +kernel
theorem dX9_findStraight_14 : decode cX9_findStraight 14 = .ok (.iconst 1, 1) := by decide +kernel
theorem dX9_findStraight_15 : decode cX9_findStraight 15 = .ok (.istore_n 1, 1) := by decide +kernel
theorem dX9_findStraight_16 : decode cX9_findStraight 16 = .ok (.iload_n 1, 1) := by decide +kernel
theorem dX9_findStraight_17 : decode cX9_findStraight 17 = .ok (.aload_n 0, 1) := by decide +kernel
theorem dX9_findStraight_18 : decode cX9_findStraight 18 = .ok (.getfield 9, 3) := by decide +kernel
theorem dX9_findStraight_21 : decode cX9_findStraight 21 = .ok (.iconst 0, 1) := by decide +kernel
theorem dX9_findStraight_22 : decode cX9_findStraight 22 = .ok (.iaload, 1) := by decide +kernel
theorem dX9_findStraight_23 : decode cX9_findStraight 23 = .ok (.if_icmp .gt 42, 3) := by decide +kernel
theorem dX9_findStraight_26 : decode cX9_findStraight 26 = .ok (.aload_n 0, 1) := by decide +kernel
theorem dX9_findStraight_27 : decode cX9_findStraight 27 = .ok (.dup, 1) := by decide +kernel
theorem dX9_findStraight_28 : decode cX9_findStraight 28 = .ok (.getfield 217, 3) := by decide +kernel
theorem dX9_findStraight_31 : decode cX9_findStraight 31 = .ok (.iload_n 1, 1) := by decide +kernel
theorem dX9_findStraight_32 : decode cX9_findStraight 32 = .ok (.i2l, 1) := by decide +kernel
theorem dX9_findStraight_33 : decode cX9_findStraight 33 = .ok (.aload_n 0, 1) := by decide +kernel
theorem dX9_findStraight_34 : decode cX9_findStraight 34 = .ok (.getfield 19, 3) := by decide +kernel
theorem dX9_findStraight_37 : decode cX9_findStraight 37 = .ok (.iload_n 1, 1) := by decide +kernel
theorem dX9_findStraight_38 : decode cX9_findStraight 38 = .ok (.iaload, 1) := by decide +kernel
theorem dX9_findStraight_39 : decode cX9_findStraight 39 = .ok (.i2l, 1) := by decide +kernel
theorem dX9_findStraight_40 : decode cX9_findStraight 40 = .ok (.lmul, 1) := by decide +kernel
theorem dX9_findStraight_41 : decode cX9_findStraight 41 = .ok (.ladd, 1) := by decide +kernel
theorem dX9_findStraight_42 : decode cX9_findStraight 42 = .ok (.putfield 217, 3) := by decide +kernel
theorem dX9_findStraight_45 : decode cX9_findStraight 45 = .ok (.aload_n 0, 1) := by decide +kernel
theorem dX9_findStraight_46 : decode cX9_findStraight 46 = .ok (.dup, 1) := by decide +kernel
theorem dX9_findStraight_47 : decode cX9_findStraight 47 = .ok (.getfield 220, 3) := by decide +kernel
theorem dX9_findStraight_50 : decode cX9_findStraight 50 = .ok (.iload_n 1, 1) := by decide +kernel
theorem dX9_findStraight_51 : decode cX9_findStraight 51 = .ok (.i2l, 1) := by decide +kernel
theorem dX9_findStraight_52 : decode cX9_findStraight 52 = .ok (.iload_n 1, 1) := by decide +kernel
theorem dX9_findStraight_53 : decode cX9_findStraight 53 = .ok (.i2l, 1) := by decide +kernel
theorem dX9_findStraight_54 : decode cX9_findStraight 54 = .ok (.lmul, 1) := by decide +kernel
theorem dX9_findStraight_55 : decode cX9_findStraight 55 = .ok (.ladd, 1) := by decide +kernel
theorem dX9_findStraight_56 : decode cX9_findStraight 56 = .ok (.putfield 220, 3) := by decide +kernel
theorem dX9_findStraight_59 : decode cX9_findStraight 59 = .ok (.iinc 1 1, 3) := by decide +kernel
theorem dX9_findStraight_62 : decode cX9_findStraight 62 = .ok (.goto (-46), 3) := by decide +kernel
theorem dX9_findStraight_65 : decode cX9_findStraight 65 = .ok (.aload_n 0, 1) := by decide +kernel
theorem dX9_findStraight_66 : decode cX9_findStraight 66 = .ok (.getfield 220, 3) := by decide +kernel
theorem dX9_findStraight_69 : decode cX9_findStraight 69 = .ok (.aload_n 0, 1) := by decide +kernel
theorem dX9_findStraight_70 : decode cX9_findStraight 70 = .ok (.getfield 217, 3) := by decide +kernel
theorem dX9_findStraight_73 : decode cX9_findStraight 73 = .ok (.invokestatic 223, 3) := by decide +kernel
theorem dX9_findStraight_76 : decode cX9_findStraight 76 = .ok (.invokestatic 213, 3) := by decide +kernel
theorem dX9_findStraight_79 : decode cX9_findStraight 79 = .ok (.lstore_n 1, 1) := by decide +kernel
theorem dX9_findStraight_80 : decode cX9_findStraight 80 = .ok (.aload_n 0, 1) := by decide +kernel
theorem dX9_findStraight_81 : decode cX9_findStraight 81 = .ok (.dup, 1) := by decide +kernel
theorem dX9_findStraight_82 : decode cX9_findStraight 82 = .ok (.getfield 217, 3) := by decide +kernel
theorem dX9_findStraight_85 : decode cX9_findStraight 85 = .ok (.lload_n 1, 1) := by decide +kernel
theorem dX9_findStraight_86 : decode cX9_findStraight 86 = .ok (.ldiv, 1) := by decide +kernel
theorem dX9_findStraight_87 : decode cX9_findStraight 87 = .ok (.putfield 217, 3) := by decide +kernel
theorem dX9_findStraight_90 : decode cX9_findStraight 90 = .ok (.aload_n 0, 1) := by decide +kernel
theorem dX9_findStraight_91 : decode cX9_findStraight 91 = .ok (.dup, 1) := by decide +kernel
theorem dX9_findStraight_92 : decode cX9_findStraight 92 = .ok (.getfield 220, 3) := by decide +kernel
theorem dX9_findStraight_95 : decode cX9_findStraight 95 = .ok (.lload_n 1, 1) := by decide +kernel
theorem dX9_findStraight_96 : decode cX9_findStraight 96 = .ok (.ldiv, 1) := by decide +kernel
theorem dX9_findStraight_97 : decode cX9_findStraight 97 = .ok (.putfield 220, 3) := by decide +kernel
theorem dX9_findStraight_100 : decode cX9_findStraight 100 = .ok (.return_, 1) := by decide +kernel
theorem dX9_straight_0 : decode cX9_straight 0 = .ok (.iload_n 1, 1) := by decide +kernel
theorem dX9_straight_1 : decode cX9_straight 1 = .ok (.iconst 0, 1) := by decide +kernel
theorem dX9_straight_2 : decode cX9_straight 2 = .ok (.iconst 1, 1) := by decide +kernel
theorem dX9_straight_3 : decode cX9_straight 3 = .ok (.invokestatic 75, 3) := by decide +kernel
theorem dX9_straight_6 : decode cX9_straight 6 = .ok (.ifCond .ne 11, 3) := by decide +kernel
theorem dX9_straight_9 : decode cX9_straight 9 = .ok (.aload_n 0, 1) := by decide +kernel
theorem dX9_straight_10 : decode cX9_straight 10 = .ok (.ldc 82, 2) := by decide +kernel
theorem dX9_straight_12 : decode cX9_straight 12 = .ok (.invokevirtual 83, 3) := by decide +kernel
theorem dX9_straight_15 : decode cX9_straight 15 = .ok (.i2l, 1) := by decide +kernel
theorem dX9_straight_16 : decode cX9_straight 16 = .ok (.lreturn, 1) := by decide +kernel
theorem dX9_straight_17 : decode cX9_straight 17 = .ok (.aload_n 0, 1) := by decide +kernel
theorem dX9_straight_18 : decode cX9_straight 18 = .ok (.invokevirtual 226, 3) := by decide +kernel
theorem dX9_straight_21 : decode cX9_straight 21 = .ok (.iload_n 1, 1) := by decide +kernel
theorem dX9_straight_22 : decode cX9_straight 22 = .ok (.ifCond .ne 10, 3) := by decide +kernel
theorem dX9_straight_25 : decode cX9_straight 25 = .ok (.aload_n 0, 1) := by decide +kernel
theorem dX9_straight_26 : decode cX9_straight 26 = .ok (.getfield 217, 3) := by decide +kernel
theorem dX9_straight_29 : decode cX9_straight 29 = .ok (.goto 7, 3) := by decide +kernel
theorem dX9_straight_32 : decode cX9_straight 32 = .ok (.aload_n 0, 1) := by decide +kernel
theorem dX9_straight_33 : decode cX9_straight 33 = .ok (.getfield 220, 3) := by decide +kernel
theorem dX9_straight_36 : decode cX9_straight 36 = .ok (.lreturn, 1) := by decide +kernel
theorem dX9_offIt_0 : decode cX9_offIt 0 = .ok (.aload_n 0, 1) := by decide +kernel
theorem dX9_offIt_1 : decode cX9_offIt 1 = .ok (.invokevirtual 226, 3) := by decide +kernel
theorem dX9_offIt_4 : decode cX9_offIt 4 = .ok (.iconst 1, 1) := by decide +kernel
theorem dX9_offIt_5 : decode cX9_offIt 5 = .ok (.istore_n 1, 1) := by decide +kernel
theorem dX9_offIt_6 : decode cX9_offIt 6 = .ok (.ldc2_w 229, 3) := by decide +kernel
theorem dX9_offIt_9 : decode cX9_offIt 9 = .ok (.lstore_n 2, 1) := by decide +kernel
theorem dX9_offIt_10 : decode cX9_offIt 10 = .ok (.iconst 1, 1) := by decide +kernel
theorem dX9_offIt_11 : decode cX9_offIt 11 = .ok (.istore 4, 2) := by decide +kernel
theorem dX9_offIt_13 : decode cX9_offIt 13 = .ok (.iload 4, 2) := by decide +kernel
theorem dX9_offIt_15 : decode cX9_offIt 15 = .ok (.aload_n 0, 1) := by decide +kernel
theorem dX9_offIt_16 : decode cX9_offIt 16 = .ok (.getfield 9, 3) := by decide +kernel
theorem dX9_offIt_19 : decode cX9_offIt 19 = .ok (.iconst 0, 1) := by decide +kernel
theorem dX9_offIt_20 : decode cX9_offIt 20 = .ok (.iaload, 1) := by decide +kernel
theorem dX9_offIt_21 : decode cX9_offIt 21 = .ok (.if_icmp .gt 49, 3) := by decide +kernel
theorem dX9_offIt_24 : decode cX9_offIt 24 = .ok (.aload_n 0, 1) := by decide +kernel
theorem dX9_offIt_25 : decode cX9_offIt 25 = .ok (.getfield 19, 3) := by decide +kernel
theorem dX9_offIt_28 : decode cX9_offIt 28 = .ok (.iload 4, 2) := by decide +kernel
theorem dX9_offIt_30 : decode cX9_offIt 30 = .ok (.iaload, 1) := by decide +kernel
theorem dX9_offIt_31 : decode cX9_offIt 31 = .ok (.i2l, 1) := by decide +kernel
theorem dX9_offIt_32 : decode cX9_offIt 32 = .ok (.aload_n 0, 1) := by decide +kernel
theorem dX9_offIt_33 : decode cX9_offIt 33 = .ok (.getfield 220, 3) := by decide +kernel
theorem dX9_offIt_36 : decode cX9_offIt 36 = .ok (.lmul, 1) := by decide +kernel
theorem dX9_offIt_37 : decode cX9_offIt 37 = .ok (.aload_n 0, 1) := by decide +kernel
theorem dX9_offIt_38 : decode cX9_offIt 38 = .ok (.getfield 217, 3) := by decide +kernel
theorem dX9_offIt_41 : decode cX9_offIt 41 = .ok (.iload 4, 2) := by decide +kernel
theorem dX9_offIt_43 : decode cX9_offIt 43 = .ok (.i2l, 1) := by decide +kernel
theorem dX9_offIt_44 : decode cX9_offIt 44 = .ok (.lmul, 1) := by decide +kernel
theorem dX9_offIt_45 : decode cX9_offIt 45 = .ok (.lsub, 1) := by decide +kernel
theorem dX9_offIt_46 : decode cX9_offIt 46 = .ok (.invokestatic 223, 3) := by decide +kernel
theorem dX9_offIt_49 : decode cX9_offIt 49 = .ok (.lstore 5, 2) := by decide +kernel
theorem dX9_offIt_51 : decode cX9_offIt 51 = .ok (.lload 5, 2) := by decide +kernel
theorem dX9_offIt_53 : decode cX9_offIt 53 = .ok (.lload_n 2, 1) := by decide +kernel
theorem dX9_offIt_54 : decode cX9_offIt 54 = .ok (.lcmp, 1) := by decide +kernel
theorem dX9_offIt_55 : decode cX9_offIt 55 = .ok (.ifCond .le 9, 3) := by decide +kernel
theorem dX9_offIt_58 : decode cX9_offIt 58 = .ok (.iload 4, 2) := by decide +kernel
theorem dX9_offIt_60 : decode cX9_offIt 60 = .ok (.istore_n 1, 1) := by decide +kernel
theorem dX9_offIt_61 : decode cX9_offIt 61 = .ok (.lload 5, 2) := by decide +kernel
theorem dX9_offIt_63 : decode cX9_offIt 63 = .ok (.lstore_n 2, 1) := by decide +kernel
theorem dX9_offIt_64 : decode cX9_offIt 64 = .ok (.iinc 4 1, 3) := by decide +kernel
theorem dX9_offIt_67 : decode cX9_offIt 67 = .ok (.goto (-54), 3) := by decide +kernel
theorem dX9_offIt_70 : decode cX9_offIt 70 = .ok (.iload_n 1, 1) := by decide +kernel
theorem dX9_offIt_71 : decode cX9_offIt 71 = .ok (.ireturn, 1) := by decide +kernel
theorem dX9_nearest_0 : decode cX9_nearest 0 = .ok (.iload_n 1, 1) := by decide +kernel
theorem dX9_nearest_1 : decode cX9_nearest 1 = .ok (.ldc 231, 2) := by decide +kernel
theorem dX9_nearest_3 : decode cX9_nearest 3 = .ok (.ldc 91, 2) := by decide +kernel
theorem dX9_nearest_5 : decode cX9_nearest 5 = .ok (.invokestatic 75, 3) := by decide +kernel
theorem dX9_nearest_8 : decode cX9_nearest 8 = .ok (.ifCond .eq 13, 3) := by decide +kernel
theorem dX9_nearest_11 : decode cX9_nearest 11 = .ok (.iload_n 2, 1) := by decide +kernel
theorem dX9_nearest_12 : decode cX9_nearest 12 = .ok (.iconst 0, 1) := by decide +kernel
theorem dX9_nearest_13 : decode cX9_nearest 13 = .ok (.ldc 91, 2) := by decide +kernel
theorem dX9_nearest_15 : decode cX9_nearest 15 = .ok (.invokestatic 75, 3) := by decide +kernel
theorem dX9_nearest_18 : decode cX9_nearest 18 = .ok (.ifCond .ne 10, 3) := by decide +kernel
theorem dX9_nearest_21 : decode cX9_nearest 21 = .ok (.aload_n 0, 1) := by decide +kernel
theorem dX9_nearest_22 : decode cX9_nearest 22 = .ok (.ldc 82, 2) := by decide +kernel
theorem dX9_nearest_24 : decode cX9_nearest 24 = .ok (.invokevirtual 83, 3) := by decide +kernel
theorem dX9_nearest_27 : decode cX9_nearest 27 = .ok (.ireturn, 1) := by decide +kernel
theorem dX9_nearest_28 : decode cX9_nearest 28 = .ok (.aload_n 0, 1) := by decide +kernel
theorem dX9_nearest_29 : decode cX9_nearest 29 = .ok (.invokevirtual 117, 3) := by decide +kernel
theorem dX9_nearest_32 : decode cX9_nearest 32 = .ok (.iconst 0, 1) := by decide +kernel
theorem dX9_nearest_33 : decode cX9_nearest 33 = .ok (.istore_n 3, 1) := by decide +kernel
theorem dX9_nearest_34 : decode cX9_nearest 34 = .ok (.iconst (-1), 1) := by decide +kernel
theorem dX9_nearest_35 : decode cX9_nearest 35 = .ok (.istore 4, 2) := by decide +kernel
theorem dX9_nearest_37 : decode cX9_nearest 37 = .ok (.iconst 0, 1) := by decide +kernel
theorem dX9_nearest_38 : decode cX9_nearest 38 = .ok (.istore 5, 2) := by decide +kernel
theorem dX9_nearest_40 : decode cX9_nearest 40 = .ok (.iload 5, 2) := by decide +kernel
theorem dX9_nearest_42 : decode cX9_nearest 42 = .ok (.aload_n 0, 1) := by decide +kernel
theorem dX9_nearest_43 : decode cX9_nearest 43 = .ok (.getfield 9, 3) := by decide +kernel
theorem dX9_nearest_46 : decode cX9_nearest 46 = .ok (.iconst 0, 1) := by decide +kernel
theorem dX9_nearest_47 : decode cX9_nearest 47 = .ok (.iaload, 1) := by decide +kernel
theorem dX9_nearest_48 : decode cX9_nearest 48 = .ok (.if_icmp .gt 55, 3) := by decide +kernel
theorem dX9_nearest_51 : decode cX9_nearest 51 = .ok (.aload_n 0, 1) := by decide +kernel
theorem dX9_nearest_52 : decode cX9_nearest 52 = .ok (.getfield 19, 3) := by decide +kernel
theorem dX9_nearest_55 : decode cX9_nearest 55 = .ok (.iload 5, 2) := by decide +kernel
theorem dX9_nearest_57 : decode cX9_nearest 57 = .ok (.iaload, 1) := by decide +kernel
theorem dX9_nearest_58 : decode cX9_nearest 58 = .ok (.iload_n 1, 1) := by decide +kernel
theorem dX9_nearest_59 : decode cX9_nearest 59 = .ok (.isub, 1) := by decide +kernel
theorem dX9_nearest_60 : decode cX9_nearest 60 = .ok (.invokestatic 114, 3) := by decide +kernel
theorem dX9_nearest_63 : decode cX9_nearest 63 = .ok (.aload_n 0, 1) := by decide +kernel
theorem dX9_nearest_64 : decode cX9_nearest 64 = .ok (.getfield 22, 3) := by decide +kernel
theorem dX9_nearest_67 : decode cX9_nearest 67 = .ok (.iload 5, 2) := by decide +kernel
theorem dX9_nearest_69 : decode cX9_nearest 69 = .ok (.iaload, 1) := by decide +kernel
theorem dX9_nearest_70 : decode cX9_nearest 70 = .ok (.iload_n 2, 1) := by decide +kernel
theorem dX9_nearest_71 : decode cX9_nearest 71 = .ok (.isub, 1) := by decide +kernel
theorem dX9_nearest_72 : decode cX9_nearest 72 = .ok (.invokestatic 114, 3) := by decide +kernel
theorem dX9_nearest_75 : decode cX9_nearest 75 = .ok (.iadd, 1) := by decide +kernel
theorem dX9_nearest_76 : decode cX9_nearest 76 = .ok (.istore 6, 2) := by decide +kernel
theorem dX9_nearest_78 : decode cX9_nearest 78 = .ok (.iload 4, 2) := by decide +kernel
theorem dX9_nearest_80 : decode cX9_nearest 80 = .ok (.ifCond .lt 10, 3) := by decide +kernel
theorem dX9_nearest_83 : decode cX9_nearest 83 = .ok (.iload 6, 2) := by decide +kernel
theorem dX9_nearest_85 : decode cX9_nearest 85 = .ok (.iload 4, 2) := by decide +kernel
theorem dX9_nearest_87 : decode cX9_nearest 87 = .ok (.if_icmp .ge 10, 3) := by decide +kernel
theorem dX9_nearest_90 : decode cX9_nearest 90 = .ok (.iload 5, 2) := by decide +kernel
theorem dX9_nearest_92 : decode cX9_nearest 92 = .ok (.istore_n 3, 1) := by decide +kernel
theorem dX9_nearest_93 : decode cX9_nearest 93 = .ok (.iload 6, 2) := by decide +kernel
theorem dX9_nearest_95 : decode cX9_nearest 95 = .ok (.istore 4, 2) := by decide +kernel
theorem dX9_nearest_97 : decode cX9_nearest 97 = .ok (.iinc 5 1, 3) := by decide +kernel
theorem dX9_nearest_100 : decode cX9_nearest 100 = .ok (.goto (-60), 3) := by decide +kernel
theorem dX9_nearest_103 : decode cX9_nearest 103 = .ok (.iload_n 3, 1) := by decide +kernel
theorem dX9_nearest_104 : decode cX9_nearest 104 = .ok (.ireturn, 1) := by decide +kernel
theorem dX9_crosses_0 : decode cX9_crosses 0 = .ok (.aload_n 0, 1) := by decide +kernel
theorem dX9_crosses_1 : decode cX9_crosses 1 = .ok (.invokevirtual 117, 3) := by decide +kernel
theorem dX9_crosses_4 : decode cX9_crosses 4 = .ok (.iconst 0, 1) := by decide +kernel
theorem dX9_crosses_5 : decode cX9_crosses 5 = .ok (.istore_n 1, 1) := by decide +kernel
theorem dX9_crosses_6 : decode cX9_crosses 6 = .ok (.iconst 0, 1) := by decide +kernel
theorem dX9_crosses_7 : decode cX9_crosses 7 = .ok (.istore_n 2, 1) := by decide +kernel
theorem dX9_crosses_8 : decode cX9_crosses 8 = .ok (.iload_n 2, 1) := by decide +kernel
theorem dX9_crosses_9 : decode cX9_crosses 9 = .ok (.aload_n 0, 1) := by decide +kernel
theorem dX9_crosses_10 : decode cX9_crosses 10 = .ok (.getfield 9, 3) := by decide +kernel
theorem dX9_crosses_13 : decode cX9_crosses 13 = .ok (.iconst 0, 1) := by decide +kernel
theorem dX9_crosses_14 : decode cX9_crosses 14 = .ok (.iaload, 1) := by decide +kernel
theorem dX9_crosses_15 : decode cX9_crosses 15 = .ok (.if_icmp .ge 57, 3) := by decide +kernel
theorem dX9_crosses_18 : decode cX9_crosses 18 = .ok (.iload_n 1, 1) := by decide +kernel
theorem dX9_crosses_19 : decode cX9_crosses 19 = .ok (.aload_n 0, 1) := by decide +kernel
theorem dX9_crosses_20 : decode cX9_crosses 20 = .ok (.getfield 19, 3) := by decide +kernel
theorem dX9_crosses_23 : decode cX9_crosses 23 = .ok (.iload_n 2, 1) := by decide +kernel
theorem dX9_crosses_24 : decode cX9_crosses 24 = .ok (.iaload, 1) := by decide +kernel
theorem dX9_crosses_25 : decode cX9_crosses 25 = .ok (.ifCond .ge 14, 3) := by decide +kernel
theorem dX9_crosses_28 : decode cX9_crosses 28 = .ok (.aload_n 0, 1) := by decide +kernel
theorem dX9_crosses_29 : decode cX9_crosses 29 = .ok (.getfield 19, 3) := by decide +kernel
theorem dX9_crosses_32 : decode cX9_crosses 32 = .ok (.iload_n 2, 1) := by decide +kernel
theorem dX9_crosses_33 : decode cX9_crosses 33 = .ok (.iconst 1, 1) := by decide +kernel
theorem dX9_crosses_34 : decode cX9_crosses 34 = .ok (.iadd, 1) := by decide +kernel
theorem dX9_crosses_35 : decode cX9_crosses 35 = .ok (.iaload, 1) := by decide +kernel
theorem dX9_crosses_36 : decode cX9_crosses 36 = .ok (.ifCond .gt 23, 3) := by decide +kernel
theorem dX9_crosses_39 : decode cX9_crosses 39 = .ok (.aload_n 0, 1) := by decide +kernel
theorem dX9_crosses_40 : decode cX9_crosses 40 = .ok (.getfield 19, 3) := by decide +kernel
theorem dX9_crosses_43 : decode cX9_crosses 43 = .ok (.iload_n 2, 1) := by decide +kernel
theorem dX9_crosses_44 : decode cX9_crosses 44 = .ok (.iaload, 1) := by decide +kernel
theorem dX9_crosses_45 : decode cX9_crosses 45 = .ok (.ifCond .le 18, 3) := by decide +kernel
theorem dX9_crosses_48 : decode cX9_crosses 48 = .ok (.aload_n 0, 1) := by decide +kernel
theorem dX9_crosses_49 : decode cX9_crosses 49 = .ok (.getfield 19, 3) := by decide +kernel
theorem dX9_crosses_52 : decode cX9_crosses 52 = .ok (.iload_n 2, 1) := by decide +kernel
theorem dX9_crosses_53 : decode cX9_crosses 53 = .ok (.iconst 1, 1) := by decide +kernel
theorem dX9_crosses_54 : decode cX9_crosses 54 = .ok (.iadd, 1) := by decide +kernel
theorem dX9_crosses_55 : decode cX9_crosses 55 = .ok (.iaload, 1) := by decide +kernel
theorem dX9_crosses_56 : decode cX9_crosses 56 = .ok (.ifCond .ge 7, 3) := by decide +kernel
theorem dX9_crosses_59 : decode cX9_crosses 59 = .ok (.iconst 1, 1) := by decide +kernel
theorem dX9_crosses_60 : decode cX9_crosses 60 = .ok (.goto 4, 3) := by decide +kernel
theorem dX9_crosses_63 : decode cX9_crosses 63 = .ok (.iconst 0, 1) := by decide +kernel
theorem dX9_crosses_64 : decode cX9_crosses 64 = .ok (.iadd, 1) := by decide +kernel
theorem dX9_crosses_65 : decode cX9_crosses 65 = .ok (.istore_n 1, 1) := by decide +kernel
theorem dX9_crosses_66 : decode cX9_crosses 66 = .ok (.iinc 2 1, 3) := by decide +kernel
theorem dX9_crosses_69 : decode cX9_crosses 69 = .ok (.goto (-61), 3) := by decide +kernel
theorem dX9_crosses_72 : decode cX9_crosses 72 = .ok (.iload_n 1, 1) := by decide +kernel
theorem dX9_crosses_73 : decode cX9_crosses 73 = .ok (.ireturn, 1) := by decide +kernel
theorem dX9_treeOf_0 : decode cX9_treeOf 0 = .ok (.aload_n 0, 1) := by decide +kernel
theorem dX9_treeOf_1 : decode cX9_treeOf 1 = .ok (.getfield 9, 3) := by decide +kernel
theorem dX9_treeOf_4 : decode cX9_treeOf 4 = .ok (.sipush 168, 3) := by decide +kernel
theorem dX9_treeOf_7 : decode cX9_treeOf 7 = .ok (.iconst 4, 1) := by decide +kernel
theorem dX9_treeOf_8 : decode cX9_treeOf 8 = .ok (.iload_n 1, 1) := by decide +kernel
theorem dX9_treeOf_9 : decode cX9_treeOf 9 = .ok (.imul, 1) := by decide +kernel
theorem dX9_treeOf_10 : decode cX9_treeOf 10 = .ok (.iadd, 1) := by decide +kernel
theorem dX9_treeOf_11 : decode cX9_treeOf 11 = .ok (.iload_n 2, 1) := by decide +kernel
theorem dX9_treeOf_12 : decode cX9_treeOf 12 = .ok (.iadd, 1) := by decide +kernel
theorem dX9_treeOf_13 : decode cX9_treeOf 13 = .ok (.iaload, 1) := by decide +kernel
theorem dX9_treeOf_14 : decode cX9_treeOf 14 = .ok (.ireturn, 1) := by decide +kernel
theorem dX9_tree_0 : decode cX9_tree 0 = .ok (.iload_n 3, 1) := by decide +kernel
theorem dX9_tree_1 : decode cX9_tree 1 = .ok (.sipush 1000, 3) := by decide +kernel
theorem dX9_tree_4 : decode cX9_tree 4 = .ok (.idiv, 1) := by decide +kernel
theorem dX9_tree_5 : decode cX9_tree 5 = .ok (.bipush 100, 2) := by decide +kernel
theorem dX9_tree_7 : decode cX9_tree 7 = .ok (.isub, 1) := by decide +kernel
theorem dX9_tree_8 : decode cX9_tree 8 = .ok (.istore 4, 2) := by decide +kernel
theorem dX9_tree_10 : decode cX9_tree 10 = .ok (.iload_n 3, 1) := by decide +kernel
theorem dX9_tree_11 : decode cX9_tree 11 = .ok (.sipush 1000, 3) := by decide +kernel
theorem dX9_tree_14 : decode cX9_tree 14 = .ok (.irem, 1) := by decide +kernel
theorem dX9_tree_15 : decode cX9_tree 15 = .ok (.bipush 100, 2) := by decide +kernel
theorem dX9_tree_17 : decode cX9_tree 17 = .ok (.isub, 1) := by decide +kernel
theorem dX9_tree_18 : decode cX9_tree 18 = .ok (.istore 5, 2) := by decide +kernel
theorem dX9_tree_20 : decode cX9_tree 20 = .ok (.iload_n 1, 1) := by decide +kernel
theorem dX9_tree_21 : decode cX9_tree 21 = .ok (.iconst 1, 1) := by decide +kernel
theorem dX9_tree_22 : decode cX9_tree 22 = .ok (.bipush 24, 2) := by decide +kernel
theorem dX9_tree_24 : decode cX9_tree 24 = .ok (.invokestatic 75, 3) := by decide +kernel
theorem dX9_tree_27 : decode cX9_tree 27 = .ok (.ifCond .eq 40, 3) := by decide +kernel
theorem dX9_tree_30 : decode cX9_tree 30 = .ok (.iload_n 2, 1) := by decide +kernel
theorem dX9_tree_31 : decode cX9_tree 31 = .ok (.iconst 0, 1) := by decide +kernel
theorem dX9_tree_32 : decode cX9_tree 32 = .ok (.iconst 5, 1) := by decide +kernel
theorem dX9_tree_33 : decode cX9_tree 33 = .ok (.invokestatic 75, 3) := by decide +kernel
theorem dX9_tree_36 : decode cX9_tree 36 = .ok (.ifCond .eq 31, 3) := by decide +kernel
theorem dX9_tree_39 : decode cX9_tree 39 = .ok (.iload_n 3, 1) := by decide +kernel
theorem dX9_tree_40 : decode cX9_tree 40 = .ok (.ifCond .lt 27, 3) := by decide +kernel
theorem dX9_tree_43 : decode cX9_tree 43 = .ok (.iload 4, 2) := by decide +kernel
theorem dX9_tree_45 : decode cX9_tree 45 = .ok (.bipush (-99), 2) := by decide +kernel
theorem dX9_tree_47 : decode cX9_tree 47 = .ok (.bipush 99, 2) := by decide +kernel
theorem dX9_tree_49 : decode cX9_tree 49 = .ok (.invokestatic 75, 3) := by decide +kernel
theorem dX9_tree_52 : decode cX9_tree 52 = .ok (.ifCond .eq 15, 3) := by decide +kernel
theorem dX9_tree_55 : decode cX9_tree 55 = .ok (.iload 5, 2) := by decide +kernel
theorem dX9_tree_57 : decode cX9_tree 57 = .ok (.bipush (-99), 2) := by decide +kernel
theorem dX9_tree_59 : decode cX9_tree 59 = .ok (.bipush 99, 2) := by decide +kernel
theorem dX9_tree_61 : decode cX9_tree 61 = .ok (.invokestatic 75, 3) := by decide +kernel
theorem dX9_tree_64 : decode cX9_tree 64 = .ok (.ifCond .ne 10, 3) := by decide +kernel
theorem dX9_tree_67 : decode cX9_tree 67 = .ok (.aload_n 0, 1) := by decide +kernel
theorem dX9_tree_68 : decode cX9_tree 68 = .ok (.ldc 82, 2) := by decide +kernel
theorem dX9_tree_70 : decode cX9_tree 70 = .ok (.invokevirtual 83, 3) := by decide +kernel
theorem dX9_tree_73 : decode cX9_tree 73 = .ok (.ireturn, 1) := by decide +kernel
theorem dX9_tree_74 : decode cX9_tree 74 = .ok (.aload_n 0, 1) := by decide +kernel
theorem dX9_tree_75 : decode cX9_tree 75 = .ok (.getfield 9, 3) := by decide +kernel
theorem dX9_tree_78 : decode cX9_tree 78 = .ok (.iconst 2, 1) := by decide +kernel
theorem dX9_tree_79 : decode cX9_tree 79 = .ok (.iaload, 1) := by decide +kernel
theorem dX9_tree_80 : decode cX9_tree 80 = .ok (.istore 6, 2) := by decide +kernel
theorem dX9_tree_82 : decode cX9_tree 82 = .ok (.iload 6, 2) := by decide +kernel
theorem dX9_tree_84 : decode cX9_tree 84 = .ok (.bipush 16, 2) := by decide +kernel
theorem dX9_tree_86 : decode cX9_tree 86 = .ok (.if_icmp .ne 10, 3) := by decide +kernel
theorem dX9_tree_89 : decode cX9_tree 89 = .ok (.aload_n 0, 1) := by decide +kernel
theorem dX9_tree_90 : decode cX9_tree 90 = .ok (.ldc 92, 2) := by decide +kernel
theorem dX9_tree_92 : decode cX9_tree 92 = .ok (.invokevirtual 83, 3) := by decide +kernel
theorem dX9_tree_95 : decode cX9_tree 95 = .ok (.ireturn, 1) := by decide +kernel
theorem dX9_tree_96 : decode cX9_tree 96 = .ok (.aload_n 0, 1) := by decide +kernel
theorem dX9_tree_97 : decode cX9_tree 97 = .ok (.getfield 9, 3) := by decide +kernel
theorem dX9_tree_100 : decode cX9_tree 100 = .ok (.sipush 168, 3) := by decide +kernel
theorem dX9_tree_103 : decode cX9_tree 103 = .ok (.iconst 4, 1) := by decide +kernel
theorem dX9_tree_104 : decode cX9_tree 104 = .ok (.iload 6, 2) := by decide +kernel
theorem dX9_tree_106 : decode cX9_tree 106 = .ok (.imul, 1) := by decide +kernel
theorem dX9_tree_107 : decode cX9_tree 107 = .ok (.iadd, 1) := by decide +kernel
theorem dX9_tree_108 : decode cX9_tree 108 = .ok (.iconst 0, 1) := by decide +kernel
theorem dX9_tree_109 : decode cX9_tree 109 = .ok (.iadd, 1) := by decide +kernel
theorem dX9_tree_110 : decode cX9_tree 110 = .ok (.iload_n 1, 1) := by decide +kernel
theorem dX9_tree_111 : decode cX9_tree 111 = .ok (.iastore, 1) := by decide +kernel
theorem dX9_tree_112 : decode cX9_tree 112 = .ok (.aload_n 0, 1) := by decide +kernel
theorem dX9_tree_113 : decode cX9_tree 113 = .ok (.getfield 9, 3) := by decide +kernel
theorem dX9_tree_116 : decode cX9_tree 116 = .ok (.sipush 168, 3) := by decide +kernel
theorem dX9_tree_119 : decode cX9_tree 119 = .ok (.iconst 4, 1) := by decide +kernel
theorem dX9_tree_120 : decode cX9_tree 120 = .ok (.iload 6, 2) := by decide +kernel
theorem dX9_tree_122 : decode cX9_tree 122 = .ok (.imul, 1) := by decide +kernel
theorem dX9_tree_123 : decode cX9_tree 123 = .ok (.iadd, 1) := by decide +kernel
theorem dX9_tree_124 : decode cX9_tree 124 = .ok (.iconst 1, 1) := by decide +kernel
theorem dX9_tree_125 : decode cX9_tree 125 = .ok (.iadd, 1) := by decide +kernel
theorem dX9_tree_126 : decode cX9_tree 126 = .ok (.iload_n 2, 1) := by decide +kernel
theorem dX9_tree_127 : decode cX9_tree 127 = .ok (.iastore, 1) := by decide +kernel
theorem dX9_tree_128 : decode cX9_tree 128 = .ok (.aload_n 0, 1) := by decide +kernel
theorem dX9_tree_129 : decode cX9_tree 129 = .ok (.getfield 9, 3) := by decide +kernel
theorem dX9_tree_132 : decode cX9_tree 132 = .ok (.sipush 168, 3) := by decide +kernel
theorem dX9_tree_135 : decode cX9_tree 135 = .ok (.iconst 4, 1) := by decide +kernel
theorem dX9_tree_136 : decode cX9_tree 136 = .ok (.iload 6, 2) := by decide +kernel
theorem dX9_tree_138 : decode cX9_tree 138 = .ok (.imul, 1) := by decide +kernel
theorem dX9_tree_139 : decode cX9_tree 139 = .ok (.iadd, 1) := by decide +kernel
theorem dX9_tree_140 : decode cX9_tree 140 = .ok (.iconst 2, 1) := by decide +kernel
theorem dX9_tree_141 : decode cX9_tree 141 = .ok (.iadd, 1) := by decide +kernel
theorem dX9_tree_142 : decode cX9_tree 142 = .ok (.iload 4, 2) := by decide +kernel
theorem dX9_tree_144 : decode cX9_tree 144 = .ok (.iastore, 1) := by decide +kernel
theorem dX9_tree_145 : decode cX9_tree 145 = .ok (.aload_n 0, 1) := by decide +kernel
theorem dX9_tree_146 : decode cX9_tree 146 = .ok (.getfield 9, 3) := by decide +kernel
theorem dX9_tree_149 : decode cX9_tree 149 = .ok (.sipush 168, 3) := by decide +kernel
theorem dX9_tree_152 : decode cX9_tree 152 = .ok (.iconst 4, 1) := by decide +kernel
theorem dX9_tree_153 : decode cX9_tree 153 = .ok (.iload 6, 2) := by decide +kernel
theorem dX9_tree_155 : decode cX9_tree 155 = .ok (.imul, 1) := by decide +kernel
theorem dX9_tree_156 : decode cX9_tree 156 = .ok (.iadd, 1) := by decide +kernel
theorem dX9_tree_157 : decode cX9_tree 157 = .ok (.iconst 3, 1) := by decide +kernel
theorem dX9_tree_158 : decode cX9_tree 158 = .ok (.iadd, 1) := by decide +kernel
theorem dX9_tree_159 : decode cX9_tree 159 = .ok (.iload 5, 2) := by decide +kernel
theorem dX9_tree_161 : decode cX9_tree 161 = .ok (.iastore, 1) := by decide +kernel
theorem dX9_tree_162 : decode cX9_tree 162 = .ok (.aload_n 0, 1) := by decide +kernel
theorem dX9_tree_163 : decode cX9_tree 163 = .ok (.getfield 9, 3) := by decide +kernel
theorem dX9_tree_166 : decode cX9_tree 166 = .ok (.iconst 2, 1) := by decide +kernel
theorem dX9_tree_167 : decode cX9_tree 167 = .ok (.dup2, 1) := by decide +kernel
theorem dX9_tree_168 : decode cX9_tree 168 = .ok (.iaload, 1) := by decide +kernel
theorem dX9_tree_169 : decode cX9_tree 169 = .ok (.iconst 1, 1) := by decide +kernel
theorem dX9_tree_170 : decode cX9_tree 170 = .ok (.iadd, 1) := by decide +kernel
theorem dX9_tree_171 : decode cX9_tree 171 = .ok (.iastore, 1) := by decide +kernel
theorem dX9_tree_172 : decode cX9_tree 172 = .ok (.iload 6, 2) := by decide +kernel
theorem dX9_tree_174 : decode cX9_tree 174 = .ok (.ireturn, 1) := by decide +kernel
theorem dX9_treeIs_0 : decode cX9_treeIs 0 = .ok (.aload_n 0, 1) := by decide +kernel
theorem dX9_treeIs_1 : decode cX9_treeIs 1 = .ok (.iload_n 1, 1) := by decide +kernel
theorem dX9_treeIs_2 : decode cX9_treeIs 2 = .ok (.iconst 2, 1) := by decide +kernel
theorem dX9_treeIs_3 : decode cX9_treeIs 3 = .ok (.invokevirtual 93, 3) := by decide +kernel
theorem dX9_treeIs_6 : decode cX9_treeIs 6 = .ok (.ifCond .eq 12, 3) := by decide +kernel
theorem dX9_treeIs_9 : decode cX9_treeIs 9 = .ok (.iload_n 2, 1) := by decide +kernel
theorem dX9_treeIs_10 : decode cX9_treeIs 10 = .ok (.iconst 0, 1) := by decide +kernel
theorem dX9_treeIs_11 : decode cX9_treeIs 11 = .ok (.iconst 5, 1) := by decide +kernel
theorem dX9_treeIs_12 : decode cX9_treeIs 12 = .ok (.invokestatic 75, 3) := by decide +kernel
theorem dX9_treeIs_15 : decode cX9_treeIs 15 = .ok (.ifCond .ne 10, 3) := by decide +kernel
theorem dX9_treeIs_18 : decode cX9_treeIs 18 = .ok (.aload_n 0, 1) := by decide +kernel
theorem dX9_treeIs_19 : decode cX9_treeIs 19 = .ok (.ldc 82, 2) := by decide +kernel
theorem dX9_treeIs_21 : decode cX9_treeIs 21 = .ok (.invokevirtual 83, 3) := by decide +kernel
theorem dX9_treeIs_24 : decode cX9_treeIs 24 = .ok (.ireturn, 1) := by decide +kernel
theorem dX9_treeIs_25 : decode cX9_treeIs 25 = .ok (.iload_n 2, 1) := by decide +kernel
theorem dX9_treeIs_26 : decode cX9_treeIs 26 = .ok (.iconst 4, 1) := by decide +kernel
theorem dX9_treeIs_27 : decode cX9_treeIs 27 = .ok (.if_icmp .ge 10, 3) := by decide +kernel
theorem dX9_treeIs_30 : decode cX9_treeIs 30 = .ok (.aload_n 0, 1) := by decide +kernel
theorem dX9_treeIs_31 : decode cX9_treeIs 31 = .ok (.iload_n 1, 1) := by decide +kernel
theorem dX9_treeIs_32 : decode cX9_treeIs 32 = .ok (.iload_n 2, 1) := by decide +kernel
theorem dX9_treeIs_33 : decode cX9_treeIs 33 = .ok (.invokevirtual 187, 3) := by decide +kernel
theorem dX9_treeIs_36 : decode cX9_treeIs 36 = .ok (.ireturn, 1) := by decide +kernel
theorem dX9_treeIs_37 : decode cX9_treeIs 37 = .ok (.aload_n 0, 1) := by decide +kernel
theorem dX9_treeIs_38 : decode cX9_treeIs 38 = .ok (.iload_n 1, 1) := by decide +kernel
theorem dX9_treeIs_39 : decode cX9_treeIs 39 = .ok (.iconst 0, 1) := by decide +kernel
theorem dX9_treeIs_40 : decode cX9_treeIs 40 = .ok (.invokevirtual 187, 3) := by decide +kernel
theorem dX9_treeIs_43 : decode cX9_treeIs 43 = .ok (.istore_n 3, 1) := by decide +kernel
theorem dX9_treeIs_44 : decode cX9_treeIs 44 = .ok (.iload_n 3, 1) := by decide +kernel
theorem dX9_treeIs_45 : decode cX9_treeIs 45 = .ok (.aload_n 0, 1) := by decide +kernel
theorem dX9_treeIs_46 : decode cX9_treeIs 46 = .ok (.getfield 9, 3) := by decide +kernel
theorem dX9_treeIs_49 : decode cX9_treeIs 49 = .ok (.iconst 0, 1) := by decide +kernel
theorem dX9_treeIs_50 : decode cX9_treeIs 50 = .ok (.iaload, 1) := by decide +kernel
theorem dX9_treeIs_51 : decode cX9_treeIs 51 = .ok (.if_icmp .le 10, 3) := by decide +kernel
theorem dX9_treeIs_54 : decode cX9_treeIs 54 = .ok (.aload_n 0, 1) := by decide +kernel
theorem dX9_treeIs_55 : decode cX9_treeIs 55 = .ok (.ldc 209, 2) := by decide +kernel
theorem dX9_treeIs_57 : decode cX9_treeIs 57 = .ok (.invokevirtual 83, 3) := by decide +kernel
theorem dX9_treeIs_60 : decode cX9_treeIs 60 = .ok (.ireturn, 1) := by decide +kernel
theorem dX9_treeIs_61 : decode cX9_treeIs 61 = .ok (.aload_n 0, 1) := by decide +kernel
theorem dX9_treeIs_62 : decode cX9_treeIs 62 = .ok (.invokevirtual 117, 3) := by decide +kernel
theorem dX9_treeIs_65 : decode cX9_treeIs 65 = .ok (.iload_n 2, 1) := by decide +kernel
theorem dX9_treeIs_66 : decode cX9_treeIs 66 = .ok (.iconst 4, 1) := by decide +kernel
theorem dX9_treeIs_67 : decode cX9_treeIs 67 = .ok (.if_icmp .ne 19, 3) := by decide +kernel
theorem dX9_treeIs_70 : decode cX9_treeIs 70 = .ok (.aload_n 0, 1) := by decide +kernel
theorem dX9_treeIs_71 : decode cX9_treeIs 71 = .ok (.getfield 19, 3) := by decide +kernel
theorem dX9_treeIs_74 : decode cX9_treeIs 74 = .ok (.iload_n 3, 1) := by decide +kernel
theorem dX9_treeIs_75 : decode cX9_treeIs 75 = .ok (.iaload, 1) := by decide +kernel
theorem dX9_treeIs_76 : decode cX9_treeIs 76 = .ok (.aload_n 0, 1) := by decide +kernel
theorem dX9_treeIs_77 : decode cX9_treeIs 77 = .ok (.iload_n 1, 1) := by decide +kernel
theorem dX9_treeIs_78 : decode cX9_treeIs 78 = .ok (.iconst 2, 1) := by decide +kernel
theorem dX9_treeIs_79 : decode cX9_treeIs 79 = .ok (.invokevirtual 187, 3) := by decide +kernel
theorem dX9_treeIs_82 : decode cX9_treeIs 82 = .ok (.iadd, 1) := by decide +kernel
theorem dX9_treeIs_83 : decode cX9_treeIs 83 = .ok (.goto 16, 3) := by decide +kernel
theorem dX9_treeIs_86 : decode cX9_treeIs 86 = .ok (.aload_n 0, 1) := by decide +kernel
theorem dX9_treeIs_87 : decode cX9_treeIs 87 = .ok (.getfield 22, 3) := by decide +kernel
theorem dX9_treeIs_90 : decode cX9_treeIs 90 = .ok (.iload_n 3, 1) := by decide +kernel
theorem dX9_treeIs_91 : decode cX9_treeIs 91 = .ok (.iaload, 1) := by decide +kernel
theorem dX9_treeIs_92 : decode cX9_treeIs 92 = .ok (.aload_n 0, 1) := by decide +kernel
theorem dX9_treeIs_93 : decode cX9_treeIs 93 = .ok (.iload_n 1, 1) := by decide +kernel
theorem dX9_treeIs_94 : decode cX9_treeIs 94 = .ok (.iconst 3, 1) := by decide +kernel
theorem dX9_treeIs_95 : decode cX9_treeIs 95 = .ok (.invokevirtual 187, 3) := by decide +kernel
theorem dX9_treeIs_98 : decode cX9_treeIs 98 = .ok (.iadd, 1) := by decide +kernel
theorem dX9_treeIs_99 : decode cX9_treeIs 99 = .ok (.ireturn, 1) := by decide +kernel
theorem dX9_dig_0 : decode cX9_dig 0 = .ok (.aload_n 0, 1) := by decide +kernel
theorem dX9_dig_1 : decode cX9_dig 1 = .ok (.iload_n 1, 1) := by decide +kernel
theorem dX9_dig_2 : decode cX9_dig 2 = .ok (.iconst 2, 1) := by decide +kernel
theorem dX9_dig_3 : decode cX9_dig 3 = .ok (.invokevirtual 93, 3) := by decide +kernel
theorem dX9_dig_6 : decode cX9_dig 6 = .ok (.ifCond .eq 13, 3) := by decide +kernel
theorem dX9_dig_9 : decode cX9_dig 9 = .ok (.iload 4, 2) := by decide +kernel
theorem dX9_dig_11 : decode cX9_dig 11 = .ok (.iconst 0, 1) := by decide +kernel
theorem dX9_dig_12 : decode cX9_dig 12 = .ok (.iconst 1, 1) := by decide +kernel
theorem dX9_dig_13 : decode cX9_dig 13 = .ok (.invokestatic 75, 3) := by decide +kernel
theorem dX9_dig_16 : decode cX9_dig 16 = .ok (.ifCond .ne 10, 3) := by decide +kernel
theorem dX9_dig_19 : decode cX9_dig 19 = .ok (.aload_n 0, 1) := by decide +kernel
theorem dX9_dig_20 : decode cX9_dig 20 = .ok (.ldc 82, 2) := by decide +kernel
theorem dX9_dig_22 : decode cX9_dig 22 = .ok (.invokevirtual 83, 3) := by decide +kernel
theorem dX9_dig_25 : decode cX9_dig 25 = .ok (.ireturn, 1) := by decide +kernel
theorem dX9_dig_26 : decode cX9_dig 26 = .ok (.iload 4, 2) := by decide +kernel
theorem dX9_dig_28 : decode cX9_dig 28 = .ok (.ifCond .ne 14, 3) := by decide +kernel
theorem dX9_dig_31 : decode cX9_dig 31 = .ok (.iload_n 2, 1) := by decide +kernel
theorem dX9_dig_32 : decode cX9_dig 32 = .ok (.aload_n 0, 1) := by decide +kernel
theorem dX9_dig_33 : decode cX9_dig 33 = .ok (.iload_n 1, 1) := by decide +kernel
theorem dX9_dig_34 : decode cX9_dig 34 = .ok (.iconst 2, 1) := by decide +kernel
theorem dX9_dig_35 : decode cX9_dig 35 = .ok (.invokevirtual 187, 3) := by decide +kernel
theorem dX9_dig_38 : decode cX9_dig 38 = .ok (.isub, 1) := by decide +kernel
theorem dX9_dig_39 : decode cX9_dig 39 = .ok (.goto 11, 3) := by decide +kernel
theorem dX9_dig_42 : decode cX9_dig 42 = .ok (.iload_n 3, 1) := by decide +kernel
theorem dX9_dig_43 : decode cX9_dig 43 = .ok (.aload_n 0, 1) := by decide +kernel
theorem dX9_dig_44 : decode cX9_dig 44 = .ok (.iload_n 1, 1) := by decide +kernel
theorem dX9_dig_45 : decode cX9_dig 45 = .ok (.iconst 3, 1) := by decide +kernel
theorem dX9_dig_46 : decode cX9_dig 46 = .ok (.invokevirtual 187, 3) := by decide +kernel
theorem dX9_dig_49 : decode cX9_dig 49 = .ok (.isub, 1) := by decide +kernel
theorem dX9_dig_50 : decode cX9_dig 50 = .ok (.ireturn, 1) := by decide +kernel
theorem dX9_sorts_0 : decode cX9_sorts 0 = .ok (.iload_n 1, 1) := by decide +kernel
theorem dX9_sorts_1 : decode cX9_sorts 1 = .ok (.iconst 0, 1) := by decide +kernel
theorem dX9_sorts_2 : decode cX9_sorts 2 = .ok (.iconst 5, 1) := by decide +kernel
theorem dX9_sorts_3 : decode cX9_sorts 3 = .ok (.invokestatic 75, 3) := by decide +kernel
theorem dX9_sorts_6 : decode cX9_sorts 6 = .ok (.ifCond .ne 10, 3) := by decide +kernel
theorem dX9_sorts_9 : decode cX9_sorts 9 = .ok (.aload_n 0, 1) := by decide +kernel
theorem dX9_sorts_10 : decode cX9_sorts 10 = .ok (.ldc 82, 2) := by decide +kernel
theorem dX9_sorts_12 : decode cX9_sorts 12 = .ok (.invokevirtual 83, 3) := by decide +kernel
theorem dX9_sorts_15 : decode cX9_sorts 15 = .ok (.ireturn, 1) := by decide +kernel
theorem dX9_sorts_16 : decode cX9_sorts 16 = .ok (.iconst 0, 1) := by decide +kernel
theorem dX9_sorts_17 : decode cX9_sorts 17 = .ok (.istore_n 2, 1) := by decide +kernel
theorem dX9_sorts_18 : decode cX9_sorts 18 = .ok (.iconst 0, 1) := by decide +kernel
theorem dX9_sorts_19 : decode cX9_sorts 19 = .ok (.istore_n 3, 1) := by decide +kernel
theorem dX9_sorts_20 : decode cX9_sorts 20 = .ok (.iload_n 3, 1) := by decide +kernel
theorem dX9_sorts_21 : decode cX9_sorts 21 = .ok (.aload_n 0, 1) := by decide +kernel
theorem dX9_sorts_22 : decode cX9_sorts 22 = .ok (.getfield 9, 3) := by decide +kernel
theorem dX9_sorts_25 : decode cX9_sorts 25 = .ok (.iconst 2, 1) := by decide +kernel
theorem dX9_sorts_26 : decode cX9_sorts 26 = .ok (.iaload, 1) := by decide +kernel
theorem dX9_sorts_27 : decode cX9_sorts 27 = .ok (.if_icmp .ge 27, 3) := by decide +kernel
theorem dX9_sorts_30 : decode cX9_sorts 30 = .ok (.iload_n 2, 1) := by decide +kernel
theorem dX9_sorts_31 : decode cX9_sorts 31 = .ok (.aload_n 0, 1) := by decide +kernel
theorem dX9_sorts_32 : decode cX9_sorts 32 = .ok (.iload_n 3, 1) := by decide +kernel
theorem dX9_sorts_33 : decode cX9_sorts 33 = .ok (.iconst 1, 1) := by decide +kernel
theorem dX9_sorts_34 : decode cX9_sorts 34 = .ok (.invokevirtual 187, 3) := by decide +kernel
theorem dX9_sorts_37 : decode cX9_sorts 37 = .ok (.iload_n 1, 1) := by decide +kernel
theorem dX9_sorts_38 : decode cX9_sorts 38 = .ok (.if_icmp .ne 7, 3) := by decide +kernel
theorem dX9_sorts_41 : decode cX9_sorts 41 = .ok (.iconst 1, 1) := by decide +kernel
theorem dX9_sorts_42 : decode cX9_sorts 42 = .ok (.goto 4, 3) := by decide +kernel
theorem dX9_sorts_45 : decode cX9_sorts 45 = .ok (.iconst 0, 1) := by decide +kernel
theorem dX9_sorts_46 : decode cX9_sorts 46 = .ok (.iadd, 1) := by decide +kernel
theorem dX9_sorts_47 : decode cX9_sorts 47 = .ok (.istore_n 2, 1) := by decide +kernel
theorem dX9_sorts_48 : decode cX9_sorts 48 = .ok (.iinc 3 1, 3) := by decide +kernel
theorem dX9_sorts_51 : decode cX9_sorts 51 = .ok (.goto (-31), 3) := by decide +kernel
theorem dX9_sorts_54 : decode cX9_sorts 54 = .ok (.iload_n 2, 1) := by decide +kernel
theorem dX9_sorts_55 : decode cX9_sorts 55 = .ok (.ireturn, 1) := by decide +kernel
theorem dX9_drawn_0 : decode cX9_drawn 0 = .ok (.aload_n 0, 1) := by decide +kernel
theorem dX9_drawn_1 : decode cX9_drawn 1 = .ok (.getfield 9, 3) := by decide +kernel
theorem dX9_drawn_4 : decode cX9_drawn 4 = .ok (.iconst 5, 1) := by decide +kernel
theorem dX9_drawn_5 : decode cX9_drawn 5 = .ok (.aload_n 0, 1) := by decide +kernel
theorem dX9_drawn_6 : decode cX9_drawn 6 = .ok (.getfield 9, 3) := by decide +kernel
theorem dX9_drawn_9 : decode cX9_drawn 9 = .ok (.iconst 5, 1) := by decide +kernel
theorem dX9_drawn_10 : decode cX9_drawn 10 = .ok (.iaload, 1) := by decide +kernel
theorem dX9_drawn_11 : decode cX9_drawn 11 = .ok (.ldc 232, 2) := by decide +kernel
theorem dX9_drawn_13 : decode cX9_drawn 13 = .ok (.imul, 1) := by decide +kernel
theorem dX9_drawn_14 : decode cX9_drawn 14 = .ok (.sipush 12345, 3) := by decide +kernel
theorem dX9_drawn_17 : decode cX9_drawn 17 = .ok (.iadd, 1) := by decide +kernel
theorem dX9_drawn_18 : decode cX9_drawn 18 = .ok (.iastore, 1) := by decide +kernel
theorem dX9_drawn_19 : decode cX9_drawn 19 = .ok (.aload_n 0, 1) := by decide +kernel
theorem dX9_drawn_20 : decode cX9_drawn 20 = .ok (.getfield 9, 3) := by decide +kernel
theorem dX9_drawn_23 : decode cX9_drawn 23 = .ok (.iconst 5, 1) := by decide +kernel
theorem dX9_drawn_24 : decode cX9_drawn 24 = .ok (.iaload, 1) := by decide +kernel
theorem dX9_drawn_25 : decode cX9_drawn 25 = .ok (.bipush 8, 2) := by decide +kernel
theorem dX9_drawn_27 : decode cX9_drawn 27 = .ok (.iushr, 1) := by decide +kernel
theorem dX9_drawn_28 : decode cX9_drawn 28 = .ok (.iload_n 1, 1) := by decide +kernel
theorem dX9_drawn_29 : decode cX9_drawn 29 = .ok (.irem, 1) := by decide +kernel
theorem dX9_drawn_30 : decode cX9_drawn 30 = .ok (.ireturn, 1) := by decide +kernel
theorem dX9_waver_0 : decode cX9_waver 0 = .ok (.iload_n 1, 1) := by decide +kernel
theorem dX9_waver_1 : decode cX9_waver 1 = .ok (.invokestatic 87, 3) := by decide +kernel
theorem dX9_waver_4 : decode cX9_waver 4 = .ok (.ifCond .eq 23, 3) := by decide +kernel
theorem dX9_waver_7 : decode cX9_waver 7 = .ok (.iload_n 2, 1) := by decide +kernel
theorem dX9_waver_8 : decode cX9_waver 8 = .ok (.iconst 1, 1) := by decide +kernel
theorem dX9_waver_9 : decode cX9_waver 9 = .ok (.bipush 24, 2) := by decide +kernel
theorem dX9_waver_11 : decode cX9_waver 11 = .ok (.invokestatic 75, 3) := by decide +kernel
theorem dX9_waver_14 : decode cX9_waver 14 = .ok (.ifCond .eq 13, 3) := by decide +kernel
theorem dX9_waver_17 : decode cX9_waver 17 = .ok (.iload_n 3, 1) := by decide +kernel
theorem dX9_waver_18 : decode cX9_waver 18 = .ok (.iconst 0, 1) := by decide +kernel
theorem dX9_waver_19 : decode cX9_waver 19 = .ok (.bipush 99, 2) := by decide +kernel
theorem dX9_waver_21 : decode cX9_waver 21 = .ok (.invokestatic 75, 3) := by decide +kernel
theorem dX9_waver_24 : decode cX9_waver 24 = .ok (.ifCond .ne 10, 3) := by decide +kernel
theorem dX9_waver_27 : decode cX9_waver 27 = .ok (.aload_n 0, 1) := by decide +kernel
theorem dX9_waver_28 : decode cX9_waver 28 = .ok (.ldc 82, 2) := by decide +kernel
theorem dX9_waver_30 : decode cX9_waver 30 = .ok (.invokevirtual 83, 3) := by decide +kernel
theorem dX9_waver_33 : decode cX9_waver 33 = .ok (.ireturn, 1) := by decide +kernel
theorem dX9_waver_34 : decode cX9_waver 34 = .ok (.iload_n 1, 1) := by decide +kernel
theorem dX9_waver_35 : decode cX9_waver 35 = .ok (.istore 4, 2) := by decide +kernel
theorem dX9_waver_37 : decode cX9_waver 37 = .ok (.iload 4, 2) := by decide +kernel
theorem dX9_waver_39 : decode cX9_waver 39 = .ok (.iload_n 1, 1) := by decide +kernel
theorem dX9_waver_40 : decode cX9_waver 40 = .ok (.iload_n 2, 1) := by decide +kernel
theorem dX9_waver_41 : decode cX9_waver 41 = .ok (.iadd, 1) := by decide +kernel
theorem dX9_waver_42 : decode cX9_waver 42 = .ok (.if_icmp .ge 41, 3) := by decide +kernel
theorem dX9_waver_45 : decode cX9_waver 45 = .ok (.iload 4, 2) := by decide +kernel
theorem dX9_waver_47 : decode cX9_waver 47 = .ok (.bipush 24, 2) := by decide +kernel
theorem dX9_waver_49 : decode cX9_waver 49 = .ok (.if_icmp .ge 34, 3) := by decide +kernel
theorem dX9_waver_52 : decode cX9_waver 52 = .ok (.aload_n 0, 1) := by decide +kernel
theorem dX9_waver_53 : decode cX9_waver 53 = .ok (.getfield 9, 3) := by decide +kernel
theorem dX9_waver_56 : decode cX9_waver 56 = .ok (.bipush 8, 2) := by decide +kernel
theorem dX9_waver_58 : decode cX9_waver 58 = .ok (.iconst 5, 1) := by decide +kernel
theorem dX9_waver_59 : decode cX9_waver 59 = .ok (.iload 4, 2) := by decide +kernel
theorem dX9_waver_61 : decode cX9_waver 61 = .ok (.imul, 1) := by decide +kernel
theorem dX9_waver_62 : decode cX9_waver 62 = .ok (.iadd, 1) := by decide +kernel
theorem dX9_waver_63 : decode cX9_waver 63 = .ok (.iconst 4, 1) := by decide +kernel
theorem dX9_waver_64 : decode cX9_waver 64 = .ok (.iadd, 1) := by decide +kernel
theorem dX9_waver_65 : decode cX9_waver 65 = .ok (.aload_n 0, 1) := by decide +kernel
theorem dX9_waver_66 : decode cX9_waver 66 = .ok (.iconst 2, 1) := by decide +kernel
theorem dX9_waver_67 : decode cX9_waver 67 = .ok (.iload_n 3, 1) := by decide +kernel
theorem dX9_waver_68 : decode cX9_waver 68 = .ok (.imul, 1) := by decide +kernel
theorem dX9_waver_69 : decode cX9_waver 69 = .ok (.iconst 1, 1) := by decide +kernel
theorem dX9_waver_70 : decode cX9_waver 70 = .ok (.iadd, 1) := by decide +kernel
theorem dX9_waver_71 : decode cX9_waver 71 = .ok (.invokevirtual 233, 3) := by decide +kernel
theorem dX9_waver_74 : decode cX9_waver 74 = .ok (.iload_n 3, 1) := by decide +kernel
theorem dX9_waver_75 : decode cX9_waver 75 = .ok (.isub, 1) := by decide +kernel
theorem dX9_waver_76 : decode cX9_waver 76 = .ok (.iastore, 1) := by decide +kernel
theorem dX9_waver_77 : decode cX9_waver 77 = .ok (.iinc 4 1, 3) := by decide +kernel
theorem dX9_waver_80 : decode cX9_waver 80 = .ok (.goto (-43), 3) := by decide +kernel
theorem dX9_waver_83 : decode cX9_waver 83 = .ok (.aload_n 0, 1) := by decide +kernel
theorem dX9_waver_84 : decode cX9_waver 84 = .ok (.invokevirtual 117, 3) := by decide +kernel
theorem dX9_waver_87 : decode cX9_waver 87 = .ok (.aload_n 0, 1) := by decide +kernel
theorem dX9_waver_88 : decode cX9_waver 88 = .ok (.iconst 0, 1) := by decide +kernel
theorem dX9_waver_89 : decode cX9_waver 89 = .ok (.invokevirtual 193, 3) := by decide +kernel
theorem dX9_waver_92 : decode cX9_waver 92 = .ok (.ireturn, 1) := by decide +kernel
theorem dX9_still_0 : decode cX9_still 0 = .ok (.iconst 0, 1) := by decide +kernel
theorem dX9_still_1 : decode cX9_still 1 = .ok (.istore_n 1, 1) := by decide +kernel
theorem dX9_still_2 : decode cX9_still 2 = .ok (.iconst 0, 1) := by decide +kernel
theorem dX9_still_3 : decode cX9_still 3 = .ok (.istore_n 2, 1) := by decide +kernel
theorem dX9_still_4 : decode cX9_still 4 = .ok (.iload_n 2, 1) := by decide +kernel
theorem dX9_still_5 : decode cX9_still 5 = .ok (.bipush 24, 2) := by decide +kernel
theorem dX9_still_7 : decode cX9_still 7 = .ok (.if_icmp .ge 33, 3) := by decide +kernel
theorem dX9_still_10 : decode cX9_still 10 = .ok (.iload_n 1, 1) := by decide +kernel
theorem dX9_still_11 : decode cX9_still 11 = .ok (.aload_n 0, 1) := by decide +kernel
theorem dX9_still_12 : decode cX9_still 12 = .ok (.bipush 8, 2) := by decide +kernel
theorem dX9_still_14 : decode cX9_still 14 = .ok (.iconst 5, 1) := by decide +kernel
theorem dX9_still_15 : decode cX9_still 15 = .ok (.iload_n 2, 1) := by decide +kernel
theorem dX9_still_16 : decode cX9_still 16 = .ok (.imul, 1) := by decide +kernel
theorem dX9_still_17 : decode cX9_still 17 = .ok (.iadd, 1) := by decide +kernel
theorem dX9_still_18 : decode cX9_still 18 = .ok (.iconst 4, 1) := by decide +kernel
theorem dX9_still_19 : decode cX9_still 19 = .ok (.iadd, 1) := by decide +kernel
theorem dX9_still_20 : decode cX9_still 20 = .ok (.iconst 0, 1) := by decide +kernel
theorem dX9_still_21 : decode cX9_still 21 = .ok (.invokevirtual 79, 3) := by decide +kernel
theorem dX9_still_24 : decode cX9_still 24 = .ok (.ifCond .ne 7, 3) := by decide +kernel
theorem dX9_still_27 : decode cX9_still 27 = .ok (.iconst 0, 1) := by decide +kernel
theorem dX9_still_28 : decode cX9_still 28 = .ok (.goto 4, 3) := by decide +kernel
theorem dX9_still_31 : decode cX9_still 31 = .ok (.iconst 1, 1) := by decide +kernel
theorem dX9_still_32 : decode cX9_still 32 = .ok (.iadd, 1) := by decide +kernel
theorem dX9_still_33 : decode cX9_still 33 = .ok (.istore_n 1, 1) := by decide +kernel
theorem dX9_still_34 : decode cX9_still 34 = .ok (.iinc 2 1, 3) := by decide +kernel
theorem dX9_still_37 : decode cX9_still 37 = .ok (.goto (-33), 3) := by decide +kernel
theorem dX9_still_40 : decode cX9_still 40 = .ok (.iload_n 1, 1) := by decide +kernel
theorem dX9_still_41 : decode cX9_still 41 = .ok (.ireturn, 1) := by decide +kernel
theorem dX9_seed_0 : decode cX9_seed 0 = .ok (.aload_n 0, 1) := by decide +kernel
theorem dX9_seed_1 : decode cX9_seed 1 = .ok (.iconst 5, 1) := by decide +kernel
theorem dX9_seed_2 : decode cX9_seed 2 = .ok (.iload_n 1, 1) := by decide +kernel
theorem dX9_seed_3 : decode cX9_seed 3 = .ok (.invokevirtual 79, 3) := by decide +kernel
theorem dX9_seed_6 : decode cX9_seed 6 = .ok (.ireturn, 1) := by decide +kernel
theorem dX9_began_0 : decode cX9_began 0 = .ok (.aload_n 0, 1) := by decide +kernel
theorem dX9_began_1 : decode cX9_began 1 = .ok (.getfield 236, 3) := by decide +kernel
theorem dX9_began_4 : decode cX9_began 4 = .ok (.bipush 30, 2) := by decide +kernel
theorem dX9_began_6 : decode cX9_began 6 = .ok (.if_icmp .ge 23, 3) := by decide +kernel
theorem dX9_began_9 : decode cX9_began 9 = .ok (.aload_n 0, 1) := by decide +kernel
theorem dX9_began_10 : decode cX9_began 10 = .ok (.getfield 50, 3) := by decide +kernel
theorem dX9_began_13 : decode cX9_began 13 = .ok (.aload_n 0, 1) := by decide +kernel
theorem dX9_began_14 : decode cX9_began 14 = .ok (.getfield 236, 3) := by decide +kernel
theorem dX9_began_17 : decode cX9_began 17 = .ok (.iload_n 1, 1) := by decide +kernel
theorem dX9_began_18 : decode cX9_began 18 = .ok (.iastore, 1) := by decide +kernel
theorem dX9_began_19 : decode cX9_began 19 = .ok (.aload_n 0, 1) := by decide +kernel
theorem dX9_began_20 : decode cX9_began 20 = .ok (.dup, 1) := by decide +kernel
theorem dX9_began_21 : decode cX9_began 21 = .ok (.getfield 236, 3) := by decide +kernel
theorem dX9_began_24 : decode cX9_began 24 = .ok (.iconst 1, 1) := by decide +kernel
theorem dX9_began_25 : decode cX9_began 25 = .ok (.iadd, 1) := by decide +kernel
theorem dX9_began_26 : decode cX9_began 26 = .ok (.putfield 236, 3) := by decide +kernel
theorem dX9_began_29 : decode cX9_began 29 = .ok (.return_, 1) := by decide +kernel
theorem dX9_hasOwn_0 : decode cX9_hasOwn 0 = .ok (.iload_n 0, 1) := by decide +kernel
theorem dX9_hasOwn_1 : decode cX9_hasOwn 1 = .ok (.tableswitch 94 0 5 #[39, 41, 56, 67, 41, 83], 39) := by decide +kernel
theorem dX9_hasOwn_40 : decode cX9_hasOwn 40 = .ok (.iconst 1, 1) := by decide +kernel
theorem dX9_hasOwn_41 : decode cX9_hasOwn 41 = .ok (.ireturn, 1) := by decide +kernel
theorem dX9_hasOwn_42 : decode cX9_hasOwn 42 = .ok (.iload_n 1, 1) := by decide +kernel
theorem dX9_hasOwn_43 : decode cX9_hasOwn 43 = .ok (.ifCond .eq 8, 3) := by decide +kernel
theorem dX9_hasOwn_46 : decode cX9_hasOwn 46 = .ok (.iload_n 1, 1) := by decide +kernel
theorem dX9_hasOwn_47 : decode cX9_hasOwn 47 = .ok (.iconst 3, 1) := by decide +kernel
theorem dX9_hasOwn_48 : decode cX9_hasOwn 48 = .ok (.if_icmp .ne 7, 3) := by decide +kernel
theorem dX9_hasOwn_51 : decode cX9_hasOwn 51 = .ok (.iconst 1, 1) := by decide +kernel
theorem dX9_hasOwn_52 : decode cX9_hasOwn 52 = .ok (.goto 4, 3) := by decide +kernel
theorem dX9_hasOwn_55 : decode cX9_hasOwn 55 = .ok (.iconst 0, 1) := by decide +kernel
theorem dX9_hasOwn_56 : decode cX9_hasOwn 56 = .ok (.ireturn, 1) := by decide +kernel
theorem dX9_hasOwn_57 : decode cX9_hasOwn 57 = .ok (.iload_n 1, 1) := by decide +kernel
theorem dX9_hasOwn_58 : decode cX9_hasOwn 58 = .ok (.iconst 1, 1) := by decide +kernel
theorem dX9_hasOwn_59 : decode cX9_hasOwn 59 = .ok (.if_icmp .ne 7, 3) := by decide +kernel
theorem dX9_hasOwn_62 : decode cX9_hasOwn 62 = .ok (.iconst 1, 1) := by decide +kernel
theorem dX9_hasOwn_63 : decode cX9_hasOwn 63 = .ok (.goto 4, 3) := by decide +kernel
theorem dX9_hasOwn_66 : decode cX9_hasOwn 66 = .ok (.iconst 0, 1) := by decide +kernel
theorem dX9_hasOwn_67 : decode cX9_hasOwn 67 = .ok (.ireturn, 1) := by decide +kernel
theorem dX9_hasOwn_68 : decode cX9_hasOwn 68 = .ok (.iload_n 1, 1) := by decide +kernel
theorem dX9_hasOwn_69 : decode cX9_hasOwn 69 = .ok (.iconst 1, 1) := by decide +kernel
theorem dX9_hasOwn_70 : decode cX9_hasOwn 70 = .ok (.if_icmp .eq 8, 3) := by decide +kernel
theorem dX9_hasOwn_73 : decode cX9_hasOwn 73 = .ok (.iload_n 1, 1) := by decide +kernel
theorem dX9_hasOwn_74 : decode cX9_hasOwn 74 = .ok (.iconst 2, 1) := by decide +kernel
theorem dX9_hasOwn_75 : decode cX9_hasOwn 75 = .ok (.if_icmp .ne 7, 3) := by decide +kernel
theorem dX9_hasOwn_78 : decode cX9_hasOwn 78 = .ok (.iconst 1, 1) := by decide +kernel
theorem dX9_hasOwn_79 : decode cX9_hasOwn 79 = .ok (.goto 4, 3) := by decide +kernel
theorem dX9_hasOwn_82 : decode cX9_hasOwn 82 = .ok (.iconst 0, 1) := by decide +kernel
theorem dX9_hasOwn_83 : decode cX9_hasOwn 83 = .ok (.ireturn, 1) := by decide +kernel
theorem dX9_hasOwn_84 : decode cX9_hasOwn 84 = .ok (.iload_n 1, 1) := by decide +kernel
theorem dX9_hasOwn_85 : decode cX9_hasOwn 85 = .ok (.iconst 2, 1) := by decide +kernel
theorem dX9_hasOwn_86 : decode cX9_hasOwn 86 = .ok (.if_icmp .ne 7, 3) := by decide +kernel
theorem dX9_hasOwn_89 : decode cX9_hasOwn 89 = .ok (.iconst 1, 1) := by decide +kernel
theorem dX9_hasOwn_90 : decode cX9_hasOwn 90 = .ok (.goto 4, 3) := by decide +kernel
theorem dX9_hasOwn_93 : decode cX9_hasOwn 93 = .ok (.iconst 0, 1) := by decide +kernel
theorem dX9_hasOwn_94 : decode cX9_hasOwn 94 = .ok (.ireturn, 1) := by decide +kernel
theorem dX9_hasOwn_95 : decode cX9_hasOwn 95 = .ok (.iload_n 1, 1) := by decide +kernel
theorem dX9_hasOwn_96 : decode cX9_hasOwn 96 = .ok (.ifCond .eq 8, 3) := by decide +kernel
theorem dX9_hasOwn_99 : decode cX9_hasOwn 99 = .ok (.iload_n 1, 1) := by decide +kernel
theorem dX9_hasOwn_100 : decode cX9_hasOwn 100 = .ok (.iconst 2, 1) := by decide +kernel
theorem dX9_hasOwn_101 : decode cX9_hasOwn 101 = .ok (.if_icmp .ne 7, 3) := by decide +kernel
theorem dX9_hasOwn_104 : decode cX9_hasOwn 104 = .ok (.iconst 1, 1) := by decide +kernel
theorem dX9_hasOwn_105 : decode cX9_hasOwn 105 = .ok (.goto 4, 3) := by decide +kernel
theorem dX9_hasOwn_108 : decode cX9_hasOwn 108 = .ok (.iconst 0, 1) := by decide +kernel
theorem dX9_hasOwn_109 : decode cX9_hasOwn 109 = .ok (.ireturn, 1) := by decide +kernel
theorem dX9_voiced_0 : decode cX9_voiced 0 = .ok (.aload_n 0, 1) := by decide +kernel
theorem dX9_voiced_1 : decode cX9_voiced 1 = .ok (.aload_n 0, 1) := by decide +kernel
theorem dX9_voiced_2 : decode cX9_voiced 2 = .ok (.aload_n 0, 1) := by decide +kernel
theorem dX9_voiced_3 : decode cX9_voiced 3 = .ok (.getfield 239, 3) := by decide +kernel
theorem dX9_voiced_6 : decode cX9_voiced 6 = .ok (.iconst 0, 1) := by decide +kernel
theorem dX9_voiced_7 : decode cX9_voiced 7 = .ok (.invokevirtual 97, 3) := by decide +kernel
theorem dX9_voiced_10 : decode cX9_voiced 10 = .ok (.iload_n 1, 1) := by decide +kernel
theorem dX9_voiced_11 : decode cX9_voiced 11 = .ok (.iload_n 2, 1) := by decide +kernel
theorem dX9_voiced_12 : decode cX9_voiced 12 = .ok (.invokevirtual 242, 3) := by decide +kernel
theorem dX9_voiced_15 : decode cX9_voiced 15 = .ok (.ireturn, 1) := by decide +kernel
theorem dX9_bodyFrom_0 : decode cX9_bodyFrom 0 = .ok (.iload_n 1, 1) := by decide +kernel
theorem dX9_bodyFrom_1 : decode cX9_bodyFrom 1 = .ok (.istore 4, 2) := by decide +kernel
theorem dX9_bodyFrom_3 : decode cX9_bodyFrom 3 = .ok (.iload 4, 2) := by decide +kernel
theorem dX9_bodyFrom_5 : decode cX9_bodyFrom 5 = .ok (.iload_n 2, 1) := by decide +kernel
theorem dX9_bodyFrom_6 : decode cX9_bodyFrom 6 = .ok (.invokestatic 245, 3) := by decide +kernel
theorem dX9_bodyFrom_9 : decode cX9_bodyFrom 9 = .ok (.ifCond .ne 13, 3) := by decide +kernel
theorem dX9_bodyFrom_12 : decode cX9_bodyFrom 12 = .ok (.iload 4, 2) := by decide +kernel
theorem dX9_bodyFrom_14 : decode cX9_bodyFrom 14 = .ok (.invokestatic 100, 3) := by decide +kernel
theorem dX9_bodyFrom_17 : decode cX9_bodyFrom 17 = .ok (.istore 4, 2) := by decide +kernel
theorem dX9_bodyFrom_19 : decode cX9_bodyFrom 19 = .ok (.goto (-16), 3) := by decide +kernel
theorem dX9_bodyFrom_22 : decode cX9_bodyFrom 22 = .ok (.aload_n 0, 1) := by decide +kernel
theorem dX9_bodyFrom_23 : decode cX9_bodyFrom 23 = .ok (.getfield 248, 3) := by decide +kernel
theorem dX9_bodyFrom_26 : decode cX9_bodyFrom 26 = .ok (.ifCond .eq 7, 3) := by decide +kernel
theorem dX9_bodyFrom_29 : decode cX9_bodyFrom 29 = .ok (.iconst 0, 1) := by decide +kernel
theorem dX9_bodyFrom_30 : decode cX9_bodyFrom 30 = .ok (.goto 11, 3) := by decide +kernel
theorem dX9_bodyFrom_33 : decode cX9_bodyFrom 33 = .ok (.aload_n 0, 1) := by decide +kernel
theorem dX9_bodyFrom_34 : decode cX9_bodyFrom 34 = .ok (.iload 4, 2) := by decide +kernel
theorem dX9_bodyFrom_36 : decode cX9_bodyFrom 36 = .ok (.iload_n 2, 1) := by decide +kernel
theorem dX9_bodyFrom_37 : decode cX9_bodyFrom 37 = .ok (.iload_n 3, 1) := by decide +kernel
theorem dX9_bodyFrom_38 : decode cX9_bodyFrom 38 = .ok (.invokevirtual 251, 3) := by decide +kernel
theorem dX9_bodyFrom_41 : decode cX9_bodyFrom 41 = .ok (.ireturn, 1) := by decide +kernel
theorem dX9_body_0 : decode cX9_body 0 = .ok (.aload_n 0, 1) := by decide +kernel
theorem dX9_body_1 : decode cX9_body 1 = .ok (.aload_n 0, 1) := by decide +kernel
theorem dX9_body_2 : decode cX9_body 2 = .ok (.getfield 239, 3) := by decide +kernel
theorem dX9_body_5 : decode cX9_body 5 = .ok (.iconst 3, 1) := by decide +kernel
theorem dX9_body_6 : decode cX9_body 6 = .ok (.invokevirtual 97, 3) := by decide +kernel
theorem dX9_body_9 : decode cX9_body 9 = .ok (.istore 4, 2) := by decide +kernel
theorem dX9_body_11 : decode cX9_body 11 = .ok (.iconst 4, 1) := by decide +kernel
theorem dX9_body_12 : decode cX9_body 12 = .ok (.iload_n 1, 1) := by decide +kernel
theorem dX9_body_13 : decode cX9_body 13 = .ok (.imul, 1) := by decide +kernel
theorem dX9_body_14 : decode cX9_body 14 = .ok (.iload_n 2, 1) := by decide +kernel
theorem dX9_body_15 : decode cX9_body 15 = .ok (.iadd, 1) := by decide +kernel
theorem dX9_body_16 : decode cX9_body 16 = .ok (.tableswitch 378 0 26 #[124, 137, 152, 168, 213, 378, 378, 229, 378, 254, 378, 378, 378, 285, 269, 378, 304, 378, 378, 320, 378, 378, 345, 378, 378, 378, 362], 124) := by decide +kernel
theorem dX9_body_140 : decode cX9_body 140 = .ok (.aload_n 0, 1) := by decide +kernel
theorem dX9_body_141 : decode cX9_body 141 = .ok (.bipush 10, 2) := by decide +kernel
theorem dX9_body_143 : decode cX9_body 143 = .ok (.invokevirtual 254, 3) := by decide +kernel
theorem dX9_body_146 : decode cX9_body 146 = .ok (.iload_n 3, 1) := by decide +kernel
theorem dX9_body_147 : decode cX9_body 147 = .ok (.aload_n 0, 1) := by decide +kernel
theorem dX9_body_148 : decode cX9_body 148 = .ok (.getfield 239, 3) := by decide +kernel
theorem dX9_body_151 : decode cX9_body 151 = .ok (.iadd, 1) := by decide +kernel
theorem dX9_body_152 : decode cX9_body 152 = .ok (.ireturn, 1) := by decide +kernel
theorem dX9_body_153 : decode cX9_body 153 = .ok (.aload_n 0, 1) := by decide +kernel
theorem dX9_body_154 : decode cX9_body 154 = .ok (.bipush 11, 2) := by decide +kernel
theorem dX9_body_156 : decode cX9_body 156 = .ok (.invokevirtual 254, 3) := by decide +kernel
theorem dX9_body_159 : decode cX9_body 159 = .ok (.aload_n 0, 1) := by decide +kernel
theorem dX9_body_160 : decode cX9_body 160 = .ok (.iconst 0, 1) := by decide +kernel
theorem dX9_body_161 : decode cX9_body 161 = .ok (.iload_n 3, 1) := by decide +kernel
theorem dX9_body_162 : decode cX9_body 162 = .ok (.invokevirtual 257, 3) := by decide +kernel
theorem dX9_body_165 : decode cX9_body 165 = .ok (.iconst 2, 1) := by decide +kernel
theorem dX9_body_166 : decode cX9_body 166 = .ok (.imul, 1) := by decide +kernel
theorem dX9_body_167 : decode cX9_body 167 = .ok (.ireturn, 1) := by decide +kernel
theorem dX9_body_168 : decode cX9_body 168 = .ok (.aload_n 0, 1) := by decide +kernel
theorem dX9_body_169 : decode cX9_body 169 = .ok (.bipush 12, 2) := by decide +kernel
theorem dX9_body_171 : decode cX9_body 171 = .ok (.invokevirtual 254, 3) := by decide +kernel
theorem dX9_body_174 : decode cX9_body 174 = .ok (.aload_n 0, 1) := by decide +kernel
theorem dX9_body_175 : decode cX9_body 175 = .ok (.iconst 1, 1) := by decide +kernel
theorem dX9_body_176 : decode cX9_body 176 = .ok (.iload_n 3, 1) := by decide +kernel
theorem dX9_body_177 : decode cX9_body 177 = .ok (.invokevirtual 257, 3) := by decide +kernel
theorem dX9_body_180 : decode cX9_body 180 = .ok (.iload 4, 2) := by decide +kernel
theorem dX9_body_182 : decode cX9_body 182 = .ok (.isub, 1) := by decide +kernel
theorem dX9_body_183 : decode cX9_body 183 = .ok (.ireturn, 1) := by decide +kernel
theorem dX9_body_184 : decode cX9_body 184 = .ok (.aload_n 0, 1) := by decide +kernel
theorem dX9_body_185 : decode cX9_body 185 = .ok (.bipush 13, 2) := by decide +kernel
theorem dX9_body_187 : decode cX9_body 187 = .ok (.invokevirtual 254, 3) := by decide +kernel
theorem dX9_body_190 : decode cX9_body 190 = .ok (.aload_n 0, 1) := by decide +kernel
theorem dX9_body_191 : decode cX9_body 191 = .ok (.iload 4, 2) := by decide +kernel
theorem dX9_body_193 : decode cX9_body 193 = .ok (.aload_n 0, 1) := by decide +kernel
theorem dX9_body_194 : decode cX9_body 194 = .ok (.getfield 239, 3) := by decide +kernel
theorem dX9_body_197 : decode cX9_body 197 = .ok (.if_icmp .ne 7, 3) := by decide +kernel
theorem dX9_body_200 : decode cX9_body 200 = .ok (.iconst 1, 1) := by decide +kernel
theorem dX9_body_201 : decode cX9_body 201 = .ok (.goto 4, 3) := by decide +kernel
theorem dX9_body_204 : decode cX9_body 204 = .ok (.iconst 0, 1) := by decide +kernel
theorem dX9_body_205 : decode cX9_body 205 = .ok (.putfield 248, 3) := by decide +kernel
theorem dX9_body_208 : decode cX9_body 208 = .ok (.aload_n 0, 1) := by decide +kernel
theorem dX9_body_209 : decode cX9_body 209 = .ok (.getfield 248, 3) := by decide +kernel
theorem dX9_body_212 : decode cX9_body 212 = .ok (.ifCond .eq 7, 3) := by decide +kernel
theorem dX9_body_215 : decode cX9_body 215 = .ok (.iconst 0, 1) := by decide +kernel
theorem dX9_body_216 : decode cX9_body 216 = .ok (.goto 12, 3) := by decide +kernel
theorem dX9_body_219 : decode cX9_body 219 = .ok (.iload_n 3, 1) := by decide +kernel
theorem dX9_body_220 : decode cX9_body 220 = .ok (.iload 4, 2) := by decide +kernel
theorem dX9_body_222 : decode cX9_body 222 = .ok (.aload_n 0, 1) := by decide +kernel
theorem dX9_body_223 : decode cX9_body 223 = .ok (.getfield 239, 3) := by decide +kernel
theorem dX9_body_226 : decode cX9_body 226 = .ok (.isub, 1) := by decide +kernel
theorem dX9_body_227 : decode cX9_body 227 = .ok (.idiv, 1) := by decide +kernel
theorem dX9_body_228 : decode cX9_body 228 = .ok (.ireturn, 1) := by decide +kernel
theorem dX9_body_229 : decode cX9_body 229 = .ok (.aload_n 0, 1) := by decide +kernel
theorem dX9_body_230 : decode cX9_body 230 = .ok (.bipush 20, 2) := by decide +kernel
theorem dX9_body_232 : decode cX9_body 232 = .ok (.invokevirtual 254, 3) := by decide +kernel
theorem dX9_body_235 : decode cX9_body 235 = .ok (.aload_n 0, 1) := by decide +kernel
theorem dX9_body_236 : decode cX9_body 236 = .ok (.iconst 0, 1) := by decide +kernel
theorem dX9_body_237 : decode cX9_body 237 = .ok (.iconst 0, 1) := by decide +kernel
theorem dX9_body_238 : decode cX9_body 238 = .ok (.iload_n 3, 1) := by decide +kernel
theorem dX9_body_239 : decode cX9_body 239 = .ok (.invokevirtual 242, 3) := by decide +kernel
theorem dX9_body_242 : decode cX9_body 242 = .ok (.iconst 4, 1) := by decide +kernel
theorem dX9_body_243 : decode cX9_body 243 = .ok (.isub, 1) := by decide +kernel
theorem dX9_body_244 : decode cX9_body 244 = .ok (.ireturn, 1) := by decide +kernel
theorem dX9_body_245 : decode cX9_body 245 = .ok (.aload_n 0, 1) := by decide +kernel
theorem dX9_body_246 : decode cX9_body 246 = .ok (.bipush 21, 2) := by decide +kernel
theorem dX9_body_248 : decode cX9_body 248 = .ok (.invokevirtual 254, 3) := by decide +kernel
theorem dX9_body_251 : decode cX9_body 251 = .ok (.aload_n 0, 1) := by decide +kernel
theorem dX9_body_252 : decode cX9_body 252 = .ok (.iconst 0, 1) := by decide +kernel
theorem dX9_body_253 : decode cX9_body 253 = .ok (.iconst 3, 1) := by decide +kernel
theorem dX9_body_254 : decode cX9_body 254 = .ok (.iload_n 3, 1) := by decide +kernel
theorem dX9_body_255 : decode cX9_body 255 = .ok (.invokevirtual 242, 3) := by decide +kernel
theorem dX9_body_258 : decode cX9_body 258 = .ok (.istore 5, 2) := by decide +kernel
theorem dX9_body_260 : decode cX9_body 260 = .ok (.iload 5, 2) := by decide +kernel
theorem dX9_body_262 : decode cX9_body 262 = .ok (.aload_n 0, 1) := by decide +kernel
theorem dX9_body_263 : decode cX9_body 263 = .ok (.iconst 1, 1) := by decide +kernel
theorem dX9_body_264 : decode cX9_body 264 = .ok (.iconst 1, 1) := by decide +kernel
theorem dX9_body_265 : decode cX9_body 265 = .ok (.invokevirtual 257, 3) := by decide +kernel
theorem dX9_body_268 : decode cX9_body 268 = .ok (.iadd, 1) := by decide +kernel
theorem dX9_body_269 : decode cX9_body 269 = .ok (.ireturn, 1) := by decide +kernel
theorem dX9_body_270 : decode cX9_body 270 = .ok (.aload_n 0, 1) := by decide +kernel
theorem dX9_body_271 : decode cX9_body 271 = .ok (.bipush 30, 2) := by decide +kernel
theorem dX9_body_273 : decode cX9_body 273 = .ok (.invokevirtual 254, 3) := by decide +kernel
theorem dX9_body_276 : decode cX9_body 276 = .ok (.aload_n 0, 1) := by decide +kernel
theorem dX9_body_277 : decode cX9_body 277 = .ok (.iconst 0, 1) := by decide +kernel
theorem dX9_body_278 : decode cX9_body 278 = .ok (.iconst 1, 1) := by decide +kernel
theorem dX9_body_279 : decode cX9_body 279 = .ok (.iload_n 3, 1) := by decide +kernel
theorem dX9_body_280 : decode cX9_body 280 = .ok (.invokevirtual 242, 3) := by decide +kernel
theorem dX9_body_283 : decode cX9_body 283 = .ok (.ineg, 1) := by decide +kernel
theorem dX9_body_284 : decode cX9_body 284 = .ok (.ireturn, 1) := by decide +kernel
theorem dX9_body_285 : decode cX9_body 285 = .ok (.aload_n 0, 1) := by decide +kernel
theorem dX9_body_286 : decode cX9_body 286 = .ok (.bipush 40, 2) := by decide +kernel
theorem dX9_body_288 : decode cX9_body 288 = .ok (.invokevirtual 254, 3) := by decide +kernel
theorem dX9_body_291 : decode cX9_body 291 = .ok (.aload_n 0, 1) := by decide +kernel
theorem dX9_body_292 : decode cX9_body 292 = .ok (.iconst 2, 1) := by decide +kernel
theorem dX9_body_293 : decode cX9_body 293 = .ok (.iconst 2, 1) := by decide +kernel
theorem dX9_body_294 : decode cX9_body 294 = .ok (.iload_n 3, 1) := by decide +kernel
theorem dX9_body_295 : decode cX9_body 295 = .ok (.iconst 2, 1) := by decide +kernel
theorem dX9_body_296 : decode cX9_body 296 = .ok (.idiv, 1) := by decide +kernel
theorem dX9_body_297 : decode cX9_body 297 = .ok (.invokevirtual 242, 3) := by decide +kernel
theorem dX9_body_300 : decode cX9_body 300 = .ok (.ireturn, 1) := by decide +kernel
theorem dX9_body_301 : decode cX9_body 301 = .ok (.aload_n 0, 1) := by decide +kernel
theorem dX9_body_302 : decode cX9_body 302 = .ok (.bipush 41, 2) := by decide +kernel
theorem dX9_body_304 : decode cX9_body 304 = .ok (.invokevirtual 254, 3) := by decide +kernel
theorem dX9_body_307 : decode cX9_body 307 = .ok (.aload_n 0, 1) := by decide +kernel
theorem dX9_body_308 : decode cX9_body 308 = .ok (.iconst 2, 1) := by decide +kernel
theorem dX9_body_309 : decode cX9_body 309 = .ok (.iconst 1, 1) := by decide +kernel
theorem dX9_body_310 : decode cX9_body 310 = .ok (.iload_n 3, 1) := by decide +kernel
theorem dX9_body_311 : decode cX9_body 311 = .ok (.invokevirtual 242, 3) := by decide +kernel
theorem dX9_body_314 : decode cX9_body 314 = .ok (.aload_n 0, 1) := by decide +kernel
theorem dX9_body_315 : decode cX9_body 315 = .ok (.getfield 239, 3) := by decide +kernel
theorem dX9_body_318 : decode cX9_body 318 = .ok (.iadd, 1) := by decide +kernel
theorem dX9_body_319 : decode cX9_body 319 = .ok (.ireturn, 1) := by decide +kernel
theorem dX9_body_320 : decode cX9_body 320 = .ok (.aload_n 0, 1) := by decide +kernel
theorem dX9_body_321 : decode cX9_body 321 = .ok (.bipush 50, 2) := by decide +kernel
theorem dX9_body_323 : decode cX9_body 323 = .ok (.invokevirtual 254, 3) := by decide +kernel
theorem dX9_body_326 : decode cX9_body 326 = .ok (.aload_n 0, 1) := by decide +kernel
theorem dX9_body_327 : decode cX9_body 327 = .ok (.iconst 1, 1) := by decide +kernel
theorem dX9_body_328 : decode cX9_body 328 = .ok (.iconst 0, 1) := by decide +kernel
theorem dX9_body_329 : decode cX9_body 329 = .ok (.iload_n 3, 1) := by decide +kernel
theorem dX9_body_330 : decode cX9_body 330 = .ok (.invokevirtual 242, 3) := by decide +kernel
theorem dX9_body_333 : decode cX9_body 333 = .ok (.iconst 3, 1) := by decide +kernel
theorem dX9_body_334 : decode cX9_body 334 = .ok (.imul, 1) := by decide +kernel
theorem dX9_body_335 : decode cX9_body 335 = .ok (.ireturn, 1) := by decide +kernel
theorem dX9_body_336 : decode cX9_body 336 = .ok (.aload_n 0, 1) := by decide +kernel
theorem dX9_body_337 : decode cX9_body 337 = .ok (.bipush 51, 2) := by decide +kernel
theorem dX9_body_339 : decode cX9_body 339 = .ok (.invokevirtual 254, 3) := by decide +kernel
theorem dX9_body_342 : decode cX9_body 342 = .ok (.aload_n 0, 1) := by decide +kernel
theorem dX9_body_343 : decode cX9_body 343 = .ok (.iconst 1, 1) := by decide +kernel
theorem dX9_body_344 : decode cX9_body 344 = .ok (.iconst 3, 1) := by decide +kernel
theorem dX9_body_345 : decode cX9_body 345 = .ok (.iload_n 3, 1) := by decide +kernel
theorem dX9_body_346 : decode cX9_body 346 = .ok (.invokevirtual 242, 3) := by decide +kernel
theorem dX9_body_349 : decode cX9_body 349 = .ok (.istore 5, 2) := by decide +kernel
theorem dX9_body_351 : decode cX9_body 351 = .ok (.iload 5, 2) := by decide +kernel
theorem dX9_body_353 : decode cX9_body 353 = .ok (.aload_n 0, 1) := by decide +kernel
theorem dX9_body_354 : decode cX9_body 354 = .ok (.iconst 2, 1) := by decide +kernel
theorem dX9_body_355 : decode cX9_body 355 = .ok (.iconst 0, 1) := by decide +kernel
theorem dX9_body_356 : decode cX9_body 356 = .ok (.invokevirtual 257, 3) := by decide +kernel
theorem dX9_body_359 : decode cX9_body 359 = .ok (.isub, 1) := by decide +kernel
theorem dX9_body_360 : decode cX9_body 360 = .ok (.ireturn, 1) := by decide +kernel
theorem dX9_body_361 : decode cX9_body 361 = .ok (.aload_n 0, 1) := by decide +kernel
theorem dX9_body_362 : decode cX9_body 362 = .ok (.bipush 60, 2) := by decide +kernel
theorem dX9_body_364 : decode cX9_body 364 = .ok (.invokevirtual 254, 3) := by decide +kernel
theorem dX9_body_367 : decode cX9_body 367 = .ok (.aload_n 0, 1) := by decide +kernel
theorem dX9_body_368 : decode cX9_body 368 = .ok (.iconst 0, 1) := by decide +kernel
theorem dX9_body_369 : decode cX9_body 369 = .ok (.iconst 2, 1) := by decide +kernel
theorem dX9_body_370 : decode cX9_body 370 = .ok (.iload_n 3, 1) := by decide +kernel
theorem dX9_body_371 : decode cX9_body 371 = .ok (.invokevirtual 242, 3) := by decide +kernel
theorem dX9_body_374 : decode cX9_body 374 = .ok (.iload 4, 2) := by decide +kernel
theorem dX9_body_376 : decode cX9_body 376 = .ok (.ixor, 1) := by decide +kernel
theorem dX9_body_377 : decode cX9_body 377 = .ok (.ireturn, 1) := by decide +kernel
theorem dX9_body_378 : decode cX9_body 378 = .ok (.aload_n 0, 1) := by decide +kernel
theorem dX9_body_379 : decode cX9_body 379 = .ok (.bipush 70, 2) := by decide +kernel
theorem dX9_body_381 : decode cX9_body 381 = .ok (.invokevirtual 254, 3) := by decide +kernel
theorem dX9_body_384 : decode cX9_body 384 = .ok (.aload_n 0, 1) := by decide +kernel
theorem dX9_body_385 : decode cX9_body 385 = .ok (.iconst 5, 1) := by decide +kernel
theorem dX9_body_386 : decode cX9_body 386 = .ok (.iconst 2, 1) := by decide +kernel
theorem dX9_body_387 : decode cX9_body 387 = .ok (.iload_n 3, 1) := by decide +kernel
theorem dX9_body_388 : decode cX9_body 388 = .ok (.iconst 1, 1) := by decide +kernel
theorem dX9_body_389 : decode cX9_body 389 = .ok (.iadd, 1) := by decide +kernel
theorem dX9_body_390 : decode cX9_body 390 = .ok (.invokevirtual 242, 3) := by decide +kernel
theorem dX9_body_393 : decode cX9_body 393 = .ok (.ireturn, 1) := by decide +kernel
theorem dX9_body_394 : decode cX9_body 394 = .ok (.aload_n 0, 1) := by decide +kernel
theorem dX9_body_395 : decode cX9_body 395 = .ok (.bipush 71, 2) := by decide +kernel
theorem dX9_body_397 : decode cX9_body 397 = .ok (.invokevirtual 254, 3) := by decide +kernel
theorem dX9_body_400 : decode cX9_body 400 = .ok (.bipush 6, 2) := by decide +kernel
theorem dX9_body_402 : decode cX9_body 402 = .ok (.ireturn, 1) := by decide +kernel
theorem dX9_voice_0 : decode cX9_voice 0 = .ok (.aload_n 0, 1) := by decide +kernel
theorem dX9_voice_1 : decode cX9_voice 1 = .ok (.iload_n 1, 1) := by decide +kernel
theorem dX9_voice_2 : decode cX9_voice 2 = .ok (.iconst 1, 1) := by decide +kernel
theorem dX9_voice_3 : decode cX9_voice 3 = .ok (.invokevirtual 93, 3) := by decide +kernel
theorem dX9_voice_6 : decode cX9_voice 6 = .ok (.ifCond .eq 12, 3) := by decide +kernel
theorem dX9_voice_9 : decode cX9_voice 9 = .ok (.iload_n 2, 1) := by decide +kernel
theorem dX9_voice_10 : decode cX9_voice 10 = .ok (.iconst 0, 1) := by decide +kernel
theorem dX9_voice_11 : decode cX9_voice 11 = .ok (.iconst 3, 1) := by decide +kernel
theorem dX9_voice_12 : decode cX9_voice 12 = .ok (.invokestatic 75, 3) := by decide +kernel
theorem dX9_voice_15 : decode cX9_voice 15 = .ok (.ifCond .ne 10, 3) := by decide +kernel
theorem dX9_voice_18 : decode cX9_voice 18 = .ok (.aload_n 0, 1) := by decide +kernel
theorem dX9_voice_19 : decode cX9_voice 19 = .ok (.ldc 82, 2) := by decide +kernel
theorem dX9_voice_21 : decode cX9_voice 21 = .ok (.invokevirtual 83, 3) := by decide +kernel
theorem dX9_voice_24 : decode cX9_voice 24 = .ok (.ireturn, 1) := by decide +kernel
theorem dX9_voice_25 : decode cX9_voice 25 = .ok (.aload_n 0, 1) := by decide +kernel
theorem dX9_voice_26 : decode cX9_voice 26 = .ok (.iconst 0, 1) := by decide +kernel
theorem dX9_voice_27 : decode cX9_voice 27 = .ok (.putfield 236, 3) := by decide +kernel
theorem dX9_voice_30 : decode cX9_voice 30 = .ok (.aload_n 0, 1) := by decide +kernel
theorem dX9_voice_31 : decode cX9_voice 31 = .ok (.iload_n 1, 1) := by decide +kernel
theorem dX9_voice_32 : decode cX9_voice 32 = .ok (.putfield 239, 3) := by decide +kernel
theorem dX9_voice_35 : decode cX9_voice 35 = .ok (.aload_n 0, 1) := by decide +kernel
theorem dX9_voice_36 : decode cX9_voice 36 = .ok (.iconst 0, 1) := by decide +kernel
theorem dX9_voice_37 : decode cX9_voice 37 = .ok (.putfield 248, 3) := by decide +kernel
theorem dX9_voice_40 : decode cX9_voice 40 = .ok (.aload_n 0, 1) := by decide +kernel
theorem dX9_voice_41 : decode cX9_voice 41 = .ok (.iload_n 2, 1) := by decide +kernel
theorem dX9_voice_42 : decode cX9_voice 42 = .ok (.iload_n 3, 1) := by decide +kernel
theorem dX9_voice_43 : decode cX9_voice 43 = .ok (.invokevirtual 257, 3) := by decide +kernel
theorem dX9_voice_46 : decode cX9_voice 46 = .ok (.istore 4, 2) := by decide +kernel
theorem dX9_voice_48 : decode cX9_voice 48 = .ok (.aload_n 0, 1) := by decide +kernel
theorem dX9_voice_49 : decode cX9_voice 49 = .ok (.getfield 248, 3) := by decide +kernel
theorem dX9_voice_52 : decode cX9_voice 52 = .ok (.ifCond .eq 13, 3) := by decide +kernel
theorem dX9_voice_55 : decode cX9_voice 55 = .ok (.aload_n 0, 1) := by decide +kernel
theorem dX9_voice_56 : decode cX9_voice 56 = .ok (.ldc_w 260, 3) := by decide +kernel
theorem dX9_voice_59 : decode cX9_voice 59 = .ok (.invokevirtual 83, 3) := by decide +kernel
theorem dX9_voice_62 : decode cX9_voice 62 = .ok (.goto 5, 3) := by decide +kernel
theorem dX9_voice_65 : decode cX9_voice 65 = .ok (.iload 4, 2) := by decide +kernel
theorem dX9_voice_67 : decode cX9_voice 67 = .ok (.ireturn, 1) := by decide +kernel
theorem dX9_body__0 : decode cX9_body_ 0 = .ok (.iload_n 1, 1) := by decide +kernel
theorem dX9_body__1 : decode cX9_body_ 1 = .ok (.iconst 0, 1) := by decide +kernel
theorem dX9_body__2 : decode cX9_body_ 2 = .ok (.aload_n 0, 1) := by decide +kernel
theorem dX9_body__3 : decode cX9_body_ 3 = .ok (.getfield 236, 3) := by decide +kernel
theorem dX9_body__6 : decode cX9_body_ 6 = .ok (.iconst 1, 1) := by decide +kernel
theorem dX9_body__7 : decode cX9_body_ 7 = .ok (.isub, 1) := by decide +kernel
theorem dX9_body__8 : decode cX9_body_ 8 = .ok (.invokestatic 75, 3) := by decide +kernel
theorem dX9_body__11 : decode cX9_body_ 11 = .ok (.ifCond .eq 12, 3) := by decide +kernel
theorem dX9_body__14 : decode cX9_body_ 14 = .ok (.aload_n 0, 1) := by decide +kernel
theorem dX9_body__15 : decode cX9_body_ 15 = .ok (.getfield 50, 3) := by decide +kernel
theorem dX9_body__18 : decode cX9_body_ 18 = .ok (.iload_n 1, 1) := by decide +kernel
theorem dX9_body__19 : decode cX9_body_ 19 = .ok (.iaload, 1) := by decide +kernel
theorem dX9_body__20 : decode cX9_body_ 20 = .ok (.goto 9, 3) := by decide +kernel
theorem dX9_body__23 : decode cX9_body_ 23 = .ok (.aload_n 0, 1) := by decide +kernel
theorem dX9_body__24 : decode cX9_body_ 24 = .ok (.ldc 209, 2) := by decide +kernel
theorem dX9_body__26 : decode cX9_body_ 26 = .ok (.invokevirtual 83, 3) := by decide +kernel
theorem dX9_body__29 : decode cX9_body_ 29 = .ok (.ireturn, 1) := by decide +kernel
theorem dX9_isSheet_0 : decode cX9_isSheet 0 = .ok (.iload_n 0, 1) := by decide +kernel
theorem dX9_isSheet_1 : decode cX9_isSheet 1 = .ok (.iconst 0, 1) := by decide +kernel
theorem dX9_isSheet_2 : decode cX9_isSheet 2 = .ok (.iconst 3, 1) := by decide +kernel
theorem dX9_isSheet_3 : decode cX9_isSheet 3 = .ok (.invokestatic 75, 3) := by decide +kernel
theorem dX9_isSheet_6 : decode cX9_isSheet 6 = .ok (.ireturn, 1) := by decide +kernel
theorem dX9_sheet_0 : decode cX9_sheet 0 = .ok (.iload_n 1, 1) := by decide +kernel
theorem dX9_sheet_1 : decode cX9_sheet 1 = .ok (.invokestatic 261, 3) := by decide +kernel
theorem dX9_sheet_4 : decode cX9_sheet 4 = .ok (.ifCond .eq 25, 3) := by decide +kernel
theorem dX9_sheet_7 : decode cX9_sheet 7 = .ok (.iload_n 2, 1) := by decide +kernel
theorem dX9_sheet_8 : decode cX9_sheet 8 = .ok (.ifCond .eq 28, 3) := by decide +kernel
theorem dX9_sheet_11 : decode cX9_sheet 11 = .ok (.iload_n 2, 1) := by decide +kernel
theorem dX9_sheet_12 : decode cX9_sheet 12 = .ok (.bipush 8, 2) := by decide +kernel
theorem dX9_sheet_14 : decode cX9_sheet 14 = .ok (.if_icmp .eq 22, 3) := by decide +kernel
theorem dX9_sheet_17 : decode cX9_sheet 17 = .ok (.iload_n 2, 1) := by decide +kernel
theorem dX9_sheet_18 : decode cX9_sheet 18 = .ok (.bipush 16, 2) := by decide +kernel
theorem dX9_sheet_20 : decode cX9_sheet 20 = .ok (.if_icmp .eq 16, 3) := by decide +kernel
theorem dX9_sheet_23 : decode cX9_sheet 23 = .ok (.iload_n 2, 1) := by decide +kernel
theorem dX9_sheet_24 : decode cX9_sheet 24 = .ok (.bipush 32, 2) := by decide +kernel
theorem dX9_sheet_26 : decode cX9_sheet 26 = .ok (.if_icmp .eq 10, 3) := by decide +kernel
theorem dX9_sheet_29 : decode cX9_sheet 29 = .ok (.aload_n 0, 1) := by decide +kernel
theorem dX9_sheet_30 : decode cX9_sheet 30 = .ok (.ldc 82, 2) := by decide +kernel
theorem dX9_sheet_32 : decode cX9_sheet 32 = .ok (.invokevirtual 83, 3) := by decide +kernel
theorem dX9_sheet_35 : decode cX9_sheet 35 = .ok (.ireturn, 1) := by decide +kernel
theorem dX9_sheet_36 : decode cX9_sheet 36 = .ok (.iload_n 2, 1) := by decide +kernel
theorem dX9_sheet_37 : decode cX9_sheet 37 = .ok (.ifCond .eq 15, 3) := by decide +kernel
theorem dX9_sheet_40 : decode cX9_sheet 40 = .ok (.iload_n 3, 1) := by decide +kernel
theorem dX9_sheet_41 : decode cX9_sheet 41 = .ok (.ifCond .ge 11, 3) := by decide +kernel
theorem dX9_sheet_44 : decode cX9_sheet 44 = .ok (.aload_n 0, 1) := by decide +kernel
theorem dX9_sheet_45 : decode cX9_sheet 45 = .ok (.ldc_w 264, 3) := by decide +kernel
theorem dX9_sheet_48 : decode cX9_sheet 48 = .ok (.invokevirtual 83, 3) := by decide +kernel
theorem dX9_sheet_51 : decode cX9_sheet 51 = .ok (.ireturn, 1) := by decide +kernel
theorem dX9_sheet_52 : decode cX9_sheet 52 = .ok (.iload_n 2, 1) := by decide +kernel
theorem dX9_sheet_53 : decode cX9_sheet 53 = .ok (.ifCond .eq 16, 3) := by decide +kernel
theorem dX9_sheet_56 : decode cX9_sheet 56 = .ok (.iload_n 3, 1) := by decide +kernel
theorem dX9_sheet_57 : decode cX9_sheet 57 = .ok (.bipush 24, 2) := by decide +kernel
theorem dX9_sheet_59 : decode cX9_sheet 59 = .ok (.if_icmp .le 10, 3) := by decide +kernel
theorem dX9_sheet_62 : decode cX9_sheet 62 = .ok (.aload_n 0, 1) := by decide +kernel
theorem dX9_sheet_63 : decode cX9_sheet 63 = .ok (.ldc 82, 2) := by decide +kernel
theorem dX9_sheet_65 : decode cX9_sheet 65 = .ok (.invokevirtual 83, 3) := by decide +kernel
theorem dX9_sheet_68 : decode cX9_sheet 68 = .ok (.ireturn, 1) := by decide +kernel
theorem dX9_sheet_69 : decode cX9_sheet 69 = .ok (.aload_n 0, 1) := by decide +kernel
theorem dX9_sheet_70 : decode cX9_sheet 70 = .ok (.getfield 53, 3) := by decide +kernel
theorem dX9_sheet_73 : decode cX9_sheet 73 = .ok (.iload_n 1, 1) := by decide +kernel
theorem dX9_sheet_74 : decode cX9_sheet 74 = .ok (.iload_n 2, 1) := by decide +kernel
theorem dX9_sheet_75 : decode cX9_sheet 75 = .ok (.iastore, 1) := by decide +kernel
theorem dX9_sheet_76 : decode cX9_sheet 76 = .ok (.aload_n 0, 1) := by decide +kernel
theorem dX9_sheet_77 : decode cX9_sheet 77 = .ok (.getfield 56, 3) := by decide +kernel
theorem dX9_sheet_80 : decode cX9_sheet 80 = .ok (.iload_n 1, 1) := by decide +kernel
theorem dX9_sheet_81 : decode cX9_sheet 81 = .ok (.iload_n 2, 1) := by decide +kernel
theorem dX9_sheet_82 : decode cX9_sheet 82 = .ok (.ifCond .ne 7, 3) := by decide +kernel
theorem dX9_sheet_85 : decode cX9_sheet 85 = .ok (.iconst 0, 1) := by decide +kernel
theorem dX9_sheet_86 : decode cX9_sheet 86 = .ok (.goto 4, 3) := by decide +kernel
theorem dX9_sheet_89 : decode cX9_sheet 89 = .ok (.iload_n 3, 1) := by decide +kernel
theorem dX9_sheet_90 : decode cX9_sheet 90 = .ok (.iastore, 1) := by decide +kernel
theorem dX9_sheet_91 : decode cX9_sheet 91 = .ok (.iconst 0, 1) := by decide +kernel
theorem dX9_sheet_92 : decode cX9_sheet 92 = .ok (.istore 4, 2) := by decide +kernel
theorem dX9_sheet_94 : decode cX9_sheet 94 = .ok (.iload 4, 2) := by decide +kernel
theorem dX9_sheet_96 : decode cX9_sheet 96 = .ok (.bipush 24, 2) := by decide +kernel
theorem dX9_sheet_98 : decode cX9_sheet 98 = .ok (.if_icmp .ge 22, 3) := by decide +kernel
theorem dX9_sheet_101 : decode cX9_sheet 101 = .ok (.aload_n 0, 1) := by decide +kernel
theorem dX9_sheet_102 : decode cX9_sheet 102 = .ok (.getfield 59, 3) := by decide +kernel
theorem dX9_sheet_105 : decode cX9_sheet 105 = .ok (.bipush 24, 2) := by decide +kernel
theorem dX9_sheet_107 : decode cX9_sheet 107 = .ok (.iload_n 1, 1) := by decide +kernel
theorem dX9_sheet_108 : decode cX9_sheet 108 = .ok (.imul, 1) := by decide +kernel
theorem dX9_sheet_109 : decode cX9_sheet 109 = .ok (.iload 4, 2) := by decide +kernel
theorem dX9_sheet_111 : decode cX9_sheet 111 = .ok (.iadd, 1) := by decide +kernel
theorem dX9_sheet_112 : decode cX9_sheet 112 = .ok (.iconst 0, 1) := by decide +kernel
theorem dX9_sheet_113 : decode cX9_sheet 113 = .ok (.iastore, 1) := by decide +kernel
theorem dX9_sheet_114 : decode cX9_sheet 114 = .ok (.iinc 4 1, 3) := by decide +kernel
theorem dX9_sheet_117 : decode cX9_sheet 117 = .ok (.goto (-23), 3) := by decide +kernel
theorem dX9_sheet_120 : decode cX9_sheet 120 = .ok (.iconst 1, 1) := by decide +kernel
theorem dX9_sheet_121 : decode cX9_sheet 121 = .ok (.ireturn, 1) := by decide +kernel
theorem dX9_put_0 : decode cX9_put 0 = .ok (.iload_n 1, 1) := by decide +kernel
theorem dX9_put_1 : decode cX9_put 1 = .ok (.invokestatic 261, 3) := by decide +kernel
theorem dX9_put_4 : decode cX9_put 4 = .ok (.ifCond .ne 10, 3) := by decide +kernel
theorem dX9_put_7 : decode cX9_put 7 = .ok (.aload_n 0, 1) := by decide +kernel
