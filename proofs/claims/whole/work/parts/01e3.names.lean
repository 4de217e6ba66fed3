theorem dX4_bestSet_66 : decode cX4_bestSet 66 = .ok (.ifCond .eq 56, 3) := by decide +kernel
theorem dX4_bestSet_69 : decode cX4_bestSet 69 = .ok (.iload 7, 2) := by decide +kernel
theorem dX4_bestSet_71 : decode cX4_bestSet 71 = .ok (.ifCond .ne 51, 3) := by decide +kernel
theorem dX4_bestSet_74 : decode cX4_bestSet 74 = .ok (.aload_n 0, 1) := by decide +kernel
theorem dX4_bestSet_75 : decode cX4_bestSet 75 = .ok (.getfield 22, 3) := by decide +kernel
theorem dX4_bestSet_78 : decode cX4_bestSet 78 = .ok (.aload_n 0, 1) := by decide +kernel
theorem dX4_bestSet_79 : decode cX4_bestSet 79 = .ok (.getfield 29, 3) := by decide +kernel
theorem dX4_bestSet_82 : decode cX4_bestSet 82 = .ok (.invokevirtual 215, 3) := by decide +kernel
theorem dX4_bestSet_85 : decode cX4_bestSet 85 = .ok (.ifCond .ne 6, 3) := by decide +kernel
theorem dX4_bestSet_88 : decode cX4_bestSet 88 = .ok (.goto 34, 3) := by decide +kernel
theorem dX4_bestSet_91 : decode cX4_bestSet 91 = .ok (.aload_n 0, 1) := by decide +kernel
theorem dX4_bestSet_92 : decode cX4_bestSet 92 = .ok (.getfield 22, 3) := by decide +kernel
theorem dX4_bestSet_95 : decode cX4_bestSet 95 = .ok (.aload_n 0, 1) := by decide +kernel
theorem dX4_bestSet_96 : decode cX4_bestSet 96 = .ok (.getfield 29, 3) := by decide +kernel
theorem dX4_bestSet_99 : decode cX4_bestSet 99 = .ok (.invokevirtual 137, 3) := by decide +kernel
theorem dX4_bestSet_102 : decode cX4_bestSet 102 = .ok (.ifCond .eq 17, 3) := by decide +kernel
theorem dX4_bestSet_105 : decode cX4_bestSet 105 = .ok (.iload 5, 2) := by decide +kernel
theorem dX4_bestSet_107 : decode cX4_bestSet 107 = .ok (.istore_n 1, 1) := by decide +kernel
theorem dX4_bestSet_108 : decode cX4_bestSet 108 = .ok (.aload_n 0, 1) := by decide +kernel
theorem dX4_bestSet_109 : decode cX4_bestSet 109 = .ok (.getfield 29, 3) := by decide +kernel
theorem dX4_bestSet_112 : decode cX4_bestSet 112 = .ok (.getfield 135, 3) := by decide +kernel
theorem dX4_bestSet_115 : decode cX4_bestSet 115 = .ok (.istore_n 2, 1) := by decide +kernel
theorem dX4_bestSet_116 : decode cX4_bestSet 116 = .ok (.goto 6, 3) := by decide +kernel
theorem dX4_bestSet_119 : decode cX4_bestSet 119 = .ok (.iconst 1, 1) := by decide +kernel
theorem dX4_bestSet_120 : decode cX4_bestSet 120 = .ok (.istore 4, 2) := by decide +kernel
theorem dX4_bestSet_122 : decode cX4_bestSet 122 = .ok (.iload 5, 2) := by decide +kernel
theorem dX4_bestSet_124 : decode cX4_bestSet 124 = .ok (.iload 4, 2) := by decide +kernel
theorem dX4_bestSet_126 : decode cX4_bestSet 126 = .ok (.iadd, 1) := by decide +kernel
theorem dX4_bestSet_127 : decode cX4_bestSet 127 = .ok (.istore 5, 2) := by decide +kernel
theorem dX4_bestSet_129 : decode cX4_bestSet 129 = .ok (.goto (-111), 3) := by decide +kernel
theorem dX4_bestSet_132 : decode cX4_bestSet 132 = .ok (.iload_n 1, 1) := by decide +kernel
theorem dX4_bestSet_133 : decode cX4_bestSet 133 = .ok (.ireturn, 1) := by decide +kernel
theorem dX4_takeAhead_0 : decode cX4_takeAhead 0 = .ok (.iload_n 1, 1) := by decide +kernel
theorem dX4_takeAhead_1 : decode cX4_takeAhead 1 = .ok (.istore 4, 2) := by decide +kernel
theorem dX4_takeAhead_3 : decode cX4_takeAhead 3 = .ok (.iconst 0, 1) := by decide +kernel
theorem dX4_takeAhead_4 : decode cX4_takeAhead 4 = .ok (.istore 5, 2) := by decide +kernel
theorem dX4_takeAhead_6 : decode cX4_takeAhead 6 = .ok (.iload 5, 2) := by decide +kernel
theorem dX4_takeAhead_8 : decode cX4_takeAhead 8 = .ok (.aload_n 0, 1) := by decide +kernel
theorem dX4_takeAhead_9 : decode cX4_takeAhead 9 = .ok (.getfield 40, 3) := by decide +kernel
theorem dX4_takeAhead_12 : decode cX4_takeAhead 12 = .ok (.if_icmp .ge 57, 3) := by decide +kernel
theorem dX4_takeAhead_15 : decode cX4_takeAhead 15 = .ok (.aload_n 0, 1) := by decide +kernel
theorem dX4_takeAhead_16 : decode cX4_takeAhead 16 = .ok (.getfield 11, 3) := by decide +kernel
theorem dX4_takeAhead_19 : decode cX4_takeAhead 19 = .ok (.iload 5, 2) := by decide +kernel
theorem dX4_takeAhead_21 : decode cX4_takeAhead 21 = .ok (.aaload, 1) := by decide +kernel
theorem dX4_takeAhead_22 : decode cX4_takeAhead 22 = .ok (.iload_n 3, 1) := by decide +kernel
theorem dX4_takeAhead_23 : decode cX4_takeAhead 23 = .ok (.invokevirtual 86, 3) := by decide +kernel
theorem dX4_takeAhead_26 : decode cX4_takeAhead 26 = .ok (.iload_n 2, 1) := by decide +kernel
theorem dX4_takeAhead_27 : decode cX4_takeAhead 27 = .ok (.if_icmp .lt 36, 3) := by decide +kernel
theorem dX4_takeAhead_30 : decode cX4_takeAhead 30 = .ok (.iload 4, 2) := by decide +kernel
theorem dX4_takeAhead_32 : decode cX4_takeAhead 32 = .ok (.aload_n 0, 1) := by decide +kernel
theorem dX4_takeAhead_33 : decode cX4_takeAhead 33 = .ok (.getfield 15, 3) := by decide +kernel
theorem dX4_takeAhead_36 : decode cX4_takeAhead 36 = .ok (.iload 5, 2) := by decide +kernel
theorem dX4_takeAhead_38 : decode cX4_takeAhead 38 = .ok (.iaload, 1) := by decide +kernel
theorem dX4_takeAhead_39 : decode cX4_takeAhead 39 = .ok (.invokestatic 218, 3) := by decide +kernel
theorem dX4_takeAhead_42 : decode cX4_takeAhead 42 = .ok (.istore 6, 2) := by decide +kernel
theorem dX4_takeAhead_44 : decode cX4_takeAhead 44 = .ok (.aload_n 0, 1) := by decide +kernel
theorem dX4_takeAhead_45 : decode cX4_takeAhead 45 = .ok (.getfield 15, 3) := by decide +kernel
theorem dX4_takeAhead_48 : decode cX4_takeAhead 48 = .ok (.iload 5, 2) := by decide +kernel
theorem dX4_takeAhead_50 : decode cX4_takeAhead 50 = .ok (.dup2, 1) := by decide +kernel
theorem dX4_takeAhead_51 : decode cX4_takeAhead 51 = .ok (.iaload, 1) := by decide +kernel
theorem dX4_takeAhead_52 : decode cX4_takeAhead 52 = .ok (.iload 6, 2) := by decide +kernel
theorem dX4_takeAhead_54 : decode cX4_takeAhead 54 = .ok (.isub, 1) := by decide +kernel
theorem dX4_takeAhead_55 : decode cX4_takeAhead 55 = .ok (.iastore, 1) := by decide +kernel
theorem dX4_takeAhead_56 : decode cX4_takeAhead 56 = .ok (.iload 4, 2) := by decide +kernel
theorem dX4_takeAhead_58 : decode cX4_takeAhead 58 = .ok (.iload 6, 2) := by decide +kernel
theorem dX4_takeAhead_60 : decode cX4_takeAhead 60 = .ok (.isub, 1) := by decide +kernel
theorem dX4_takeAhead_61 : decode cX4_takeAhead 61 = .ok (.istore 4, 2) := by decide +kernel
theorem dX4_takeAhead_63 : decode cX4_takeAhead 63 = .ok (.iinc 5 1, 3) := by decide +kernel
theorem dX4_takeAhead_66 : decode cX4_takeAhead 66 = .ok (.goto (-60), 3) := by decide +kernel
theorem dX4_takeAhead_69 : decode cX4_takeAhead 69 = .ok (.iload 4, 2) := by decide +kernel
theorem dX4_takeAhead_71 : decode cX4_takeAhead 71 = .ok (.ifCond .ne 7, 3) := by decide +kernel
theorem dX4_takeAhead_74 : decode cX4_takeAhead 74 = .ok (.iconst 1, 1) := by decide +kernel
theorem dX4_takeAhead_75 : decode cX4_takeAhead 75 = .ok (.goto 4, 3) := by decide +kernel
theorem dX4_takeAhead_78 : decode cX4_takeAhead 78 = .ok (.iconst 0, 1) := by decide +kernel
theorem dX4_takeAhead_79 : decode cX4_takeAhead 79 = .ok (.ireturn, 1) := by decide +kernel
theorem dX4_passYearAhead_0 : decode cX4_passYearAhead 0 = .ok (.iconst 0, 1) := by decide +kernel
theorem dX4_passYearAhead_1 : decode cX4_passYearAhead 1 = .ok (.istore_n 2, 1) := by decide +kernel
theorem dX4_passYearAhead_2 : decode cX4_passYearAhead 2 = .ok (.iload_n 2, 1) := by decide +kernel
theorem dX4_passYearAhead_3 : decode cX4_passYearAhead 3 = .ok (.aload_n 0, 1) := by decide +kernel
theorem dX4_passYearAhead_4 : decode cX4_passYearAhead 4 = .ok (.getfield 40, 3) := by decide +kernel
theorem dX4_passYearAhead_7 : decode cX4_passYearAhead 7 = .ok (.if_icmp .ge 37, 3) := by decide +kernel
theorem dX4_passYearAhead_10 : decode cX4_passYearAhead 10 = .ok (.aload_n 0, 1) := by decide +kernel
theorem dX4_passYearAhead_11 : decode cX4_passYearAhead 11 = .ok (.getfield 15, 3) := by decide +kernel
theorem dX4_passYearAhead_14 : decode cX4_passYearAhead 14 = .ok (.iload_n 2, 1) := by decide +kernel
theorem dX4_passYearAhead_15 : decode cX4_passYearAhead 15 = .ok (.dup2, 1) := by decide +kernel
theorem dX4_passYearAhead_16 : decode cX4_passYearAhead 16 = .ok (.iaload, 1) := by decide +kernel
theorem dX4_passYearAhead_17 : decode cX4_passYearAhead 17 = .ok (.aload_n 0, 1) := by decide +kernel
theorem dX4_passYearAhead_18 : decode cX4_passYearAhead 18 = .ok (.getfield 15, 3) := by decide +kernel
theorem dX4_passYearAhead_21 : decode cX4_passYearAhead 21 = .ok (.iload_n 2, 1) := by decide +kernel
theorem dX4_passYearAhead_22 : decode cX4_passYearAhead 22 = .ok (.iaload, 1) := by decide +kernel
theorem dX4_passYearAhead_23 : decode cX4_passYearAhead 23 = .ok (.aload_n 0, 1) := by decide +kernel
theorem dX4_passYearAhead_24 : decode cX4_passYearAhead 24 = .ok (.getfield 11, 3) := by decide +kernel
theorem dX4_passYearAhead_27 : decode cX4_passYearAhead 27 = .ok (.iload_n 2, 1) := by decide +kernel
theorem dX4_passYearAhead_28 : decode cX4_passYearAhead 28 = .ok (.aaload, 1) := by decide +kernel
theorem dX4_passYearAhead_29 : decode cX4_passYearAhead 29 = .ok (.iload_n 1, 1) := by decide +kernel
theorem dX4_passYearAhead_30 : decode cX4_passYearAhead 30 = .ok (.invokevirtual 221, 3) := by decide +kernel
theorem dX4_passYearAhead_33 : decode cX4_passYearAhead 33 = .ok (.invokestatic 224, 3) := by decide +kernel
theorem dX4_passYearAhead_36 : decode cX4_passYearAhead 36 = .ok (.isub, 1) := by decide +kernel
theorem dX4_passYearAhead_37 : decode cX4_passYearAhead 37 = .ok (.iastore, 1) := by decide +kernel
theorem dX4_passYearAhead_38 : decode cX4_passYearAhead 38 = .ok (.iinc 2 1, 3) := by decide +kernel
theorem dX4_passYearAhead_41 : decode cX4_passYearAhead 41 = .ok (.goto (-39), 3) := by decide +kernel
theorem dX4_passYearAhead_44 : decode cX4_passYearAhead 44 = .ok (.return_, 1) := by decide +kernel
theorem dX4_ways_0 : decode cX4_ways 0 = .ok (.lconst 1, 1) := by decide +kernel
theorem dX4_ways_1 : decode cX4_ways 1 = .ok (.lstore_n 2, 1) := by decide +kernel
theorem dX4_ways_2 : decode cX4_ways 2 = .ok (.lconst 1, 1) := by decide +kernel
theorem dX4_ways_3 : decode cX4_ways 3 = .ok (.lstore 4, 2) := by decide +kernel
theorem dX4_ways_5 : decode cX4_ways 5 = .ok (.iload_n 0, 1) := by decide +kernel
theorem dX4_ways_6 : decode cX4_ways 6 = .ok (.istore 6, 2) := by decide +kernel
theorem dX4_ways_8 : decode cX4_ways 8 = .ok (.iload 6, 2) := by decide +kernel
theorem dX4_ways_10 : decode cX4_ways 10 = .ok (.iload_n 1, 1) := by decide +kernel
theorem dX4_ways_11 : decode cX4_ways 11 = .ok (.if_icmp .le 42, 3) := by decide +kernel
theorem dX4_ways_14 : decode cX4_ways 14 = .ok (.iload_n 0, 1) := by decide +kernel
theorem dX4_ways_15 : decode cX4_ways 15 = .ok (.iload 6, 2) := by decide +kernel
theorem dX4_ways_17 : decode cX4_ways 17 = .ok (.isub, 1) := by decide +kernel
theorem dX4_ways_18 : decode cX4_ways 18 = .ok (.iconst 1, 1) := by decide +kernel
theorem dX4_ways_19 : decode cX4_ways 19 = .ok (.iadd, 1) := by decide +kernel
theorem dX4_ways_20 : decode cX4_ways 20 = .ok (.istore 7, 2) := by decide +kernel
theorem dX4_ways_22 : decode cX4_ways 22 = .ok (.iload 7, 2) := by decide +kernel
theorem dX4_ways_24 : decode cX4_ways 24 = .ok (.ifCond .le 17, 3) := by decide +kernel
theorem dX4_ways_27 : decode cX4_ways 27 = .ok (.lload_n 2, 1) := by decide +kernel
theorem dX4_ways_28 : decode cX4_ways 28 = .ok (.ldc2_w 227, 3) := by decide +kernel
theorem dX4_ways_31 : decode cX4_ways 31 = .ok (.lmul, 1) := by decide +kernel
theorem dX4_ways_32 : decode cX4_ways 32 = .ok (.iload 6, 2) := by decide +kernel
theorem dX4_ways_34 : decode cX4_ways 34 = .ok (.i2l, 1) := by decide +kernel
theorem dX4_ways_35 : decode cX4_ways 35 = .ok (.lmul, 1) := by decide +kernel
theorem dX4_ways_36 : decode cX4_ways 36 = .ok (.iload 7, 2) := by decide +kernel
theorem dX4_ways_38 : decode cX4_ways 38 = .ok (.i2l, 1) := by decide +kernel
theorem dX4_ways_39 : decode cX4_ways 39 = .ok (.ldiv, 1) := by decide +kernel
theorem dX4_ways_40 : decode cX4_ways 40 = .ok (.lstore_n 2, 1) := by decide +kernel
theorem dX4_ways_41 : decode cX4_ways 41 = .ok (.lload 4, 2) := by decide +kernel
theorem dX4_ways_43 : decode cX4_ways 43 = .ok (.lload_n 2, 1) := by decide +kernel
theorem dX4_ways_44 : decode cX4_ways 44 = .ok (.ladd, 1) := by decide +kernel
theorem dX4_ways_45 : decode cX4_ways 45 = .ok (.lstore 4, 2) := by decide +kernel
theorem dX4_ways_47 : decode cX4_ways 47 = .ok (.iinc 6 (-1), 3) := by decide +kernel
theorem dX4_ways_50 : decode cX4_ways 50 = .ok (.goto (-42), 3) := by decide +kernel
theorem dX4_ways_53 : decode cX4_ways 53 = .ok (.lload 4, 2) := by decide +kernel
theorem dX4_ways_55 : decode cX4_ways 55 = .ok (.lreturn, 1) := by decide +kernel
theorem dX5_init_0 : decode cX5_init 0 = .ok (.aload_n 0, 1) := by decide +kernel
theorem dX5_init_1 : decode cX5_init 1 = .ok (.invokespecial 1, 3) := by decide +kernel
theorem dX5_init_4 : decode cX5_init 4 = .ok (.aload_n 0, 1) := by decide +kernel
theorem dX5_init_5 : decode cX5_init 5 = .ok (.bipush 12, 2) := by decide +kernel
theorem dX5_init_7 : decode cX5_init 7 = .ok (.newarray .int, 2) := by decide +kernel
theorem dX5_init_9 : decode cX5_init 9 = .ok (.putfield 7, 3) := by decide +kernel
theorem dX5_init_12 : decode cX5_init 12 = .ok (.aload_n 0, 1) := by decide +kernel
theorem dX5_init_13 : decode cX5_init 13 = .ok (.bipush 12, 2) := by decide +kernel
theorem dX5_init_15 : decode cX5_init 15 = .ok (.newarray .int, 2) := by decide +kernel
theorem dX5_init_17 : decode cX5_init 17 = .ok (.putfield 13, 3) := by decide +kernel
theorem dX5_init_20 : decode cX5_init 20 = .ok (.aload_n 0, 1) := by decide +kernel
theorem dX5_init_21 : decode cX5_init 21 = .ok (.bipush 12, 2) := by decide +kernel
theorem dX5_init_23 : decode cX5_init 23 = .ok (.newarray .int, 2) := by decide +kernel
theorem dX5_init_25 : decode cX5_init 25 = .ok (.putfield 16, 3) := by decide +kernel
theorem dX5_init_28 : decode cX5_init 28 = .ok (.aload_n 0, 1) := by decide +kernel
theorem dX5_init_29 : decode cX5_init 29 = .ok (.bipush 12, 2) := by decide +kernel
theorem dX5_init_31 : decode cX5_init 31 = .ok (.newarray .int, 2) := by decide +kernel
theorem dX5_init_33 : decode cX5_init 33 = .ok (.putfield 19, 3) := by decide +kernel
theorem dX5_init_36 : decode cX5_init 36 = .ok (.aload_n 0, 1) := by decide +kernel
theorem dX5_init_37 : decode cX5_init 37 = .ok (.bipush 12, 2) := by decide +kernel
theorem dX5_init_39 : decode cX5_init 39 = .ok (.newarray .int, 2) := by decide +kernel
theorem dX5_init_41 : decode cX5_init 41 = .ok (.putfield 22, 3) := by decide +kernel
theorem dX5_init_44 : decode cX5_init 44 = .ok (.aload_n 0, 1) := by decide +kernel
theorem dX5_init_45 : decode cX5_init 45 = .ok (.bipush 12, 2) := by decide +kernel
theorem dX5_init_47 : decode cX5_init 47 = .ok (.newarray .int, 2) := by decide +kernel
theorem dX5_init_49 : decode cX5_init 49 = .ok (.putfield 25, 3) := by decide +kernel
theorem dX5_init_52 : decode cX5_init 52 = .ok (.aload_n 0, 1) := by decide +kernel
theorem dX5_init_53 : decode cX5_init 53 = .ok (.bipush 12, 2) := by decide +kernel
theorem dX5_init_55 : decode cX5_init 55 = .ok (.newarray .int, 2) := by decide +kernel
theorem dX5_init_57 : decode cX5_init 57 = .ok (.putfield 28, 3) := by decide +kernel
theorem dX5_init_60 : decode cX5_init 60 = .ok (.aload_n 0, 1) := by decide +kernel
theorem dX5_init_61 : decode cX5_init 61 = .ok (.bipush 12, 2) := by decide +kernel
theorem dX5_init_63 : decode cX5_init 63 = .ok (.newarray .int, 2) := by decide +kernel
theorem dX5_init_65 : decode cX5_init 65 = .ok (.putfield 31, 3) := by decide +kernel
theorem dX5_init_68 : decode cX5_init 68 = .ok (.aload_n 0, 1) := by decide +kernel
theorem dX5_init_69 : decode cX5_init 69 = .ok (.bipush 8, 2) := by decide +kernel
theorem dX5_init_71 : decode cX5_init 71 = .ok (.newarray .int, 2) := by decide +kernel
theorem dX5_init_73 : decode cX5_init 73 = .ok (.dup, 1) := by decide +kernel
theorem dX5_init_74 : decode cX5_init 74 = .ok (.iconst 0, 1) := by decide +kernel
theorem dX5_init_75 : decode cX5_init 75 = .ok (.iconst 0, 1) := by decide +kernel
theorem dX5_init_76 : decode cX5_init 76 = .ok (.iastore, 1) := by decide +kernel
theorem dX5_init_77 : decode cX5_init 77 = .ok (.dup, 1) := by decide +kernel
theorem dX5_init_78 : decode cX5_init 78 = .ok (.iconst 1, 1) := by decide +kernel
theorem dX5_init_79 : decode cX5_init 79 = .ok (.iconst 0, 1) := by decide +kernel
theorem dX5_init_80 : decode cX5_init 80 = .ok (.iastore, 1) := by decide +kernel
theorem dX5_init_81 : decode cX5_init 81 = .ok (.dup, 1) := by decide +kernel
theorem dX5_init_82 : decode cX5_init 82 = .ok (.iconst 2, 1) := by decide +kernel
theorem dX5_init_83 : decode cX5_init 83 = .ok (.iconst 0, 1) := by decide +kernel
theorem dX5_init_84 : decode cX5_init 84 = .ok (.iastore, 1) := by decide +kernel
theorem dX5_init_85 : decode cX5_init 85 = .ok (.dup, 1) := by decide +kernel
theorem dX5_init_86 : decode cX5_init 86 = .ok (.iconst 3, 1) := by decide +kernel
theorem dX5_init_87 : decode cX5_init 87 = .ok (.sipush 9999, 3) := by decide +kernel
theorem dX5_init_90 : decode cX5_init 90 = .ok (.iastore, 1) := by decide +kernel
theorem dX5_init_91 : decode cX5_init 91 = .ok (.dup, 1) := by decide +kernel
theorem dX5_init_92 : decode cX5_init 92 = .ok (.iconst 4, 1) := by decide +kernel
theorem dX5_init_93 : decode cX5_init 93 = .ok (.iconst 0, 1) := by decide +kernel
theorem dX5_init_94 : decode cX5_init 94 = .ok (.iastore, 1) := by decide +kernel
theorem dX5_init_95 : decode cX5_init 95 = .ok (.dup, 1) := by decide +kernel
theorem dX5_init_96 : decode cX5_init 96 = .ok (.iconst 5, 1) := by decide +kernel
theorem dX5_init_97 : decode cX5_init 97 = .ok (.sipush 9999, 3) := by decide +kernel
theorem dX5_init_100 : decode cX5_init 100 = .ok (.iastore, 1) := by decide +kernel
theorem dX5_init_101 : decode cX5_init 101 = .ok (.dup, 1) := by decide +kernel
theorem dX5_init_102 : decode cX5_init 102 = .ok (.bipush 6, 2) := by decide +kernel
theorem dX5_init_104 : decode cX5_init 104 = .ok (.iconst 0, 1) := by decide +kernel
theorem dX5_init_105 : decode cX5_init 105 = .ok (.iastore, 1) := by decide +kernel
theorem dX5_init_106 : decode cX5_init 106 = .ok (.dup, 1) := by decide +kernel
theorem dX5_init_107 : decode cX5_init 107 = .ok (.bipush 7, 2) := by decide +kernel
theorem dX5_init_109 : decode cX5_init 109 = .ok (.sipush 9999, 3) := by decide +kernel
theorem dX5_init_112 : decode cX5_init 112 = .ok (.iastore, 1) := by decide +kernel
theorem dX5_init_113 : decode cX5_init 113 = .ok (.putfield 34, 3) := by decide +kernel
theorem dX5_init_116 : decode cX5_init 116 = .ok (.aload_n 0, 1) := by decide +kernel
theorem dX5_init_117 : decode cX5_init 117 = .ok (.bipush 28, 2) := by decide +kernel
theorem dX5_init_119 : decode cX5_init 119 = .ok (.putfield 37, 3) := by decide +kernel
theorem dX5_init_122 : decode cX5_init 122 = .ok (.aload_n 0, 1) := by decide +kernel
theorem dX5_init_123 : decode cX5_init 123 = .ok (.bipush 30, 2) := by decide +kernel
theorem dX5_init_125 : decode cX5_init 125 = .ok (.newarray .int, 2) := by decide +kernel
theorem dX5_init_127 : decode cX5_init 127 = .ok (.putfield 41, 3) := by decide +kernel
theorem dX5_init_130 : decode cX5_init 130 = .ok (.aload_n 0, 1) := by decide +kernel
theorem dX5_init_131 : decode cX5_init 131 = .ok (.bipush 30, 2) := by decide +kernel
theorem dX5_init_133 : decode cX5_init 133 = .ok (.newarray .int, 2) := by decide +kernel
theorem dX5_init_135 : decode cX5_init 135 = .ok (.putfield 44, 3) := by decide +kernel
theorem dX5_init_138 : decode cX5_init 138 = .ok (.aload_n 0, 1) := by decide +kernel
theorem dX5_init_139 : decode cX5_init 139 = .ok (.bipush 30, 2) := by decide +kernel
theorem dX5_init_141 : decode cX5_init 141 = .ok (.newarray .int, 2) := by decide +kernel
theorem dX5_init_143 : decode cX5_init 143 = .ok (.putfield 47, 3) := by decide +kernel
theorem dX5_init_146 : decode cX5_init 146 = .ok (.aload_n 0, 1) := by decide +kernel
theorem dX5_init_147 : decode cX5_init 147 = .ok (.bipush 12, 2) := by decide +kernel
theorem dX5_init_149 : decode cX5_init 149 = .ok (.newarray .int, 2) := by decide +kernel
theorem dX5_init_151 : decode cX5_init 151 = .ok (.putfield 50, 3) := by decide +kernel
theorem dX5_init_154 : decode cX5_init 154 = .ok (.aload_n 0, 1) := by decide +kernel
theorem dX5_init_155 : decode cX5_init 155 = .ok (.bipush 16, 2) := by decide +kernel
theorem dX5_init_157 : decode cX5_init 157 = .ok (.newarray .boolean, 2) := by decide +kernel
theorem dX5_init_159 : decode cX5_init 159 = .ok (.putfield 53, 3) := by decide +kernel
theorem dX5_init_162 : decode cX5_init 162 = .ok (.aload_n 0, 1) := by decide +kernel
theorem dX5_init_163 : decode cX5_init 163 = .ok (.bipush 16, 2) := by decide +kernel
theorem dX5_init_165 : decode cX5_init 165 = .ok (.newarray .int, 2) := by decide +kernel
theorem dX5_init_167 : decode cX5_init 167 = .ok (.putfield 57, 3) := by decide +kernel
theorem dX5_init_170 : decode cX5_init 170 = .ok (.aload_n 0, 1) := by decide +kernel
theorem dX5_init_171 : decode cX5_init 171 = .ok (.iconst 0, 1) := by decide +kernel
theorem dX5_init_172 : decode cX5_init 172 = .ok (.putfield 60, 3) := by decide +kernel
theorem dX5_init_175 : decode cX5_init 175 = .ok (.return_, 1) := by decide +kernel
theorem dX5_in_0 : decode cX5_in 0 = .ok (.iload_n 0, 1) := by decide +kernel
theorem dX5_in_1 : decode cX5_in 1 = .ok (.iload_n 1, 1) := by decide +kernel
theorem dX5_in_2 : decode cX5_in 2 = .ok (.if_icmp .lt 12, 3) := by decide +kernel
theorem dX5_in_5 : decode cX5_in 5 = .ok (.iload_n 0, 1) := by decide +kernel
theorem dX5_in_6 : decode cX5_in 6 = .ok (.iload_n 2, 1) := by decide +kernel
theorem dX5_in_7 : decode cX5_in 7 = .ok (.if_icmp .gt 7, 3) := by decide +kernel
theorem dX5_in_10 : decode cX5_in 10 = .ok (.iconst 1, 1) := by decide +kernel
theorem dX5_in_11 : decode cX5_in 11 = .ok (.goto 4, 3) := by decide +kernel
theorem dX5_in_14 : decode cX5_in 14 = .ok (.iconst 0, 1) := by decide +kernel
theorem dX5_in_15 : decode cX5_in 15 = .ok (.ireturn, 1) := by decide +kernel
theorem dX5_isCask_0 : decode cX5_isCask 0 = .ok (.iload_n 1, 1) := by decide +kernel
theorem dX5_isCask_1 : decode cX5_isCask 1 = .ok (.iconst 0, 1) := by decide +kernel
theorem dX5_isCask_2 : decode cX5_isCask 2 = .ok (.aload_n 0, 1) := by decide +kernel
theorem dX5_isCask_3 : decode cX5_isCask 3 = .ok (.getfield 63, 3) := by decide +kernel
theorem dX5_isCask_6 : decode cX5_isCask 6 = .ok (.iconst 1, 1) := by decide +kernel
theorem dX5_isCask_7 : decode cX5_isCask 7 = .ok (.isub, 1) := by decide +kernel
theorem dX5_isCask_8 : decode cX5_isCask 8 = .ok (.invokestatic 66, 3) := by decide +kernel
theorem dX5_isCask_11 : decode cX5_isCask 11 = .ok (.ireturn, 1) := by decide +kernel
theorem dX5_lay_0 : decode cX5_lay 0 = .ok (.iload_n 1, 1) := by decide +kernel
theorem dX5_lay_1 : decode cX5_lay 1 = .ok (.iconst 0, 1) := by decide +kernel
theorem dX5_lay_2 : decode cX5_lay 2 = .ok (.iconst 2, 1) := by decide +kernel
theorem dX5_lay_3 : decode cX5_lay 3 = .ok (.invokestatic 66, 3) := by decide +kernel
theorem dX5_lay_6 : decode cX5_lay 6 = .ok (.ifCond .eq 49, 3) := by decide +kernel
theorem dX5_lay_9 : decode cX5_lay 9 = .ok (.iload_n 2, 1) := by decide +kernel
theorem dX5_lay_10 : decode cX5_lay 10 = .ok (.iconst 1, 1) := by decide +kernel
theorem dX5_lay_11 : decode cX5_lay 11 = .ok (.sipush 9000, 3) := by decide +kernel
theorem dX5_lay_14 : decode cX5_lay 14 = .ok (.invokestatic 66, 3) := by decide +kernel
theorem dX5_lay_17 : decode cX5_lay 17 = .ok (.ifCond .eq 38, 3) := by decide +kernel
theorem dX5_lay_20 : decode cX5_lay 20 = .ok (.iload_n 3, 1) := by decide +kernel
theorem dX5_lay_21 : decode cX5_lay 21 = .ok (.sipush 400, 3) := by decide +kernel
theorem dX5_lay_24 : decode cX5_lay 24 = .ok (.sipush 700, 3) := by decide +kernel
theorem dX5_lay_27 : decode cX5_lay 27 = .ok (.invokestatic 66, 3) := by decide +kernel
theorem dX5_lay_30 : decode cX5_lay 30 = .ok (.ifCond .eq 25, 3) := by decide +kernel
theorem dX5_lay_33 : decode cX5_lay 33 = .ok (.iload 4, 2) := by decide +kernel
theorem dX5_lay_35 : decode cX5_lay 35 = .ok (.iconst 0, 1) := by decide +kernel
theorem dX5_lay_36 : decode cX5_lay 36 = .ok (.iconst 3, 1) := by decide +kernel
theorem dX5_lay_37 : decode cX5_lay 37 = .ok (.invokestatic 66, 3) := by decide +kernel
theorem dX5_lay_40 : decode cX5_lay 40 = .ok (.ifCond .eq 15, 3) := by decide +kernel
theorem dX5_lay_43 : decode cX5_lay 43 = .ok (.iload 5, 2) := by decide +kernel
theorem dX5_lay_45 : decode cX5_lay 45 = .ok (.iconst 0, 1) := by decide +kernel
theorem dX5_lay_46 : decode cX5_lay 46 = .ok (.sipush 500, 3) := by decide +kernel
theorem dX5_lay_49 : decode cX5_lay 49 = .ok (.invokestatic 66, 3) := by decide +kernel
theorem dX5_lay_52 : decode cX5_lay 52 = .ok (.ifCond .ne 5, 3) := by decide +kernel
theorem dX5_lay_55 : decode cX5_lay 55 = .ok (.iconst (-1), 1) := by decide +kernel
theorem dX5_lay_56 : decode cX5_lay 56 = .ok (.ireturn, 1) := by decide +kernel
theorem dX5_lay_57 : decode cX5_lay 57 = .ok (.aload_n 0, 1) := by decide +kernel
theorem dX5_lay_58 : decode cX5_lay 58 = .ok (.getfield 63, 3) := by decide +kernel
theorem dX5_lay_61 : decode cX5_lay 61 = .ok (.bipush 12, 2) := by decide +kernel
theorem dX5_lay_63 : decode cX5_lay 63 = .ok (.if_icmp .ne 6, 3) := by decide +kernel
theorem dX5_lay_66 : decode cX5_lay 66 = .ok (.bipush (-3), 2) := by decide +kernel
theorem dX5_lay_68 : decode cX5_lay 68 = .ok (.ireturn, 1) := by decide +kernel
theorem dX5_lay_69 : decode cX5_lay 69 = .ok (.aload_n 0, 1) := by decide +kernel
theorem dX5_lay_70 : decode cX5_lay 70 = .ok (.getfield 7, 3) := by decide +kernel
theorem dX5_lay_73 : decode cX5_lay 73 = .ok (.aload_n 0, 1) := by decide +kernel
theorem dX5_lay_74 : decode cX5_lay 74 = .ok (.getfield 63, 3) := by decide +kernel
theorem dX5_lay_77 : decode cX5_lay 77 = .ok (.iload_n 1, 1) := by decide +kernel
theorem dX5_lay_78 : decode cX5_lay 78 = .ok (.iastore, 1) := by decide +kernel
theorem dX5_lay_79 : decode cX5_lay 79 = .ok (.aload_n 0, 1) := by decide +kernel
theorem dX5_lay_80 : decode cX5_lay 80 = .ok (.getfield 13, 3) := by decide +kernel
theorem dX5_lay_83 : decode cX5_lay 83 = .ok (.aload_n 0, 1) := by decide +kernel
theorem dX5_lay_84 : decode cX5_lay 84 = .ok (.getfield 63, 3) := by decide +kernel
theorem dX5_lay_87 : decode cX5_lay 87 = .ok (.iload_n 2, 1) := by decide +kernel
theorem dX5_lay_88 : decode cX5_lay 88 = .ok (.iastore, 1) := by decide +kernel
theorem dX5_lay_89 : decode cX5_lay 89 = .ok (.aload_n 0, 1) := by decide +kernel
theorem dX5_lay_90 : decode cX5_lay 90 = .ok (.getfield 16, 3) := by decide +kernel
theorem dX5_lay_93 : decode cX5_lay 93 = .ok (.aload_n 0, 1) := by decide +kernel
theorem dX5_lay_94 : decode cX5_lay 94 = .ok (.getfield 63, 3) := by decide +kernel
theorem dX5_lay_97 : decode cX5_lay 97 = .ok (.iload_n 3, 1) := by decide +kernel
theorem dX5_lay_98 : decode cX5_lay 98 = .ok (.iastore, 1) := by decide +kernel
theorem dX5_lay_99 : decode cX5_lay 99 = .ok (.aload_n 0, 1) := by decide +kernel
theorem dX5_lay_100 : decode cX5_lay 100 = .ok (.getfield 19, 3) := by decide +kernel
theorem dX5_lay_103 : decode cX5_lay 103 = .ok (.aload_n 0, 1) := by decide +kernel
theorem dX5_lay_104 : decode cX5_lay 104 = .ok (.getfield 63, 3) := by decide +kernel
theorem dX5_lay_107 : decode cX5_lay 107 = .ok (.iload 4, 2) := by decide +kernel
theorem dX5_lay_109 : decode cX5_lay 109 = .ok (.iastore, 1) := by decide +kernel
theorem dX5_lay_110 : decode cX5_lay 110 = .ok (.aload_n 0, 1) := by decide +kernel
theorem dX5_lay_111 : decode cX5_lay 111 = .ok (.getfield 22, 3) := by decide +kernel
theorem dX5_lay_114 : decode cX5_lay 114 = .ok (.aload_n 0, 1) := by decide +kernel
theorem dX5_lay_115 : decode cX5_lay 115 = .ok (.getfield 63, 3) := by decide +kernel
theorem dX5_lay_118 : decode cX5_lay 118 = .ok (.aload_n 0, 1) := by decide +kernel
theorem dX5_lay_119 : decode cX5_lay 119 = .ok (.getfield 60, 3) := by decide +kernel
theorem dX5_lay_122 : decode cX5_lay 122 = .ok (.iastore, 1) := by decide +kernel
theorem dX5_lay_123 : decode cX5_lay 123 = .ok (.aload_n 0, 1) := by decide +kernel
theorem dX5_lay_124 : decode cX5_lay 124 = .ok (.getfield 25, 3) := by decide +kernel
theorem dX5_lay_127 : decode cX5_lay 127 = .ok (.aload_n 0, 1) := by decide +kernel
theorem dX5_lay_128 : decode cX5_lay 128 = .ok (.getfield 63, 3) := by decide +kernel
theorem dX5_lay_131 : decode cX5_lay 131 = .ok (.iconst 0, 1) := by decide +kernel
theorem dX5_lay_132 : decode cX5_lay 132 = .ok (.iastore, 1) := by decide +kernel
theorem dX5_lay_133 : decode cX5_lay 133 = .ok (.aload_n 0, 1) := by decide +kernel
theorem dX5_lay_134 : decode cX5_lay 134 = .ok (.getfield 28, 3) := by decide +kernel
theorem dX5_lay_137 : decode cX5_lay 137 = .ok (.aload_n 0, 1) := by decide +kernel
theorem dX5_lay_138 : decode cX5_lay 138 = .ok (.getfield 63, 3) := by decide +kernel
theorem dX5_lay_141 : decode cX5_lay 141 = .ok (.iload 5, 2) := by decide +kernel
theorem dX5_lay_143 : decode cX5_lay 143 = .ok (.iastore, 1) := by decide +kernel
theorem dX5_lay_144 : decode cX5_lay 144 = .ok (.aload_n 0, 1) := by decide +kernel
theorem dX5_lay_145 : decode cX5_lay 145 = .ok (.getfield 31, 3) := by decide +kernel
theorem dX5_lay_148 : decode cX5_lay 148 = .ok (.aload_n 0, 1) := by decide +kernel
theorem dX5_lay_149 : decode cX5_lay 149 = .ok (.getfield 63, 3) := by decide +kernel
theorem dX5_lay_152 : decode cX5_lay 152 = .ok (.iconst 0, 1) := by decide +kernel
theorem dX5_lay_153 : decode cX5_lay 153 = .ok (.iastore, 1) := by decide +kernel
theorem dX5_lay_154 : decode cX5_lay 154 = .ok (.aload_n 0, 1) := by decide +kernel
theorem dX5_lay_155 : decode cX5_lay 155 = .ok (.dup, 1) := by decide +kernel
theorem dX5_lay_156 : decode cX5_lay 156 = .ok (.getfield 63, 3) := by decide +kernel
theorem dX5_lay_159 : decode cX5_lay 159 = .ok (.iconst 1, 1) := by decide +kernel
theorem dX5_lay_160 : decode cX5_lay 160 = .ok (.iadd, 1) := by decide +kernel
theorem dX5_lay_161 : decode cX5_lay 161 = .ok (.putfield 63, 3) := by decide +kernel
theorem dX5_lay_164 : decode cX5_lay 164 = .ok (.aload_n 0, 1) := by decide +kernel
theorem dX5_lay_165 : decode cX5_lay 165 = .ok (.getfield 63, 3) := by decide +kernel
theorem dX5_lay_168 : decode cX5_lay 168 = .ok (.iconst 1, 1) := by decide +kernel
theorem dX5_lay_169 : decode cX5_lay 169 = .ok (.isub, 1) := by decide +kernel
theorem dX5_lay_170 : decode cX5_lay 170 = .ok (.ireturn, 1) := by decide +kernel
theorem dX5_lossOf_0 : decode cX5_lossOf 0 = .ok (.bipush 15, 2) := by decide +kernel
theorem dX5_lossOf_2 : decode cX5_lossOf 2 = .ok (.iconst 5, 1) := by decide +kernel
theorem dX5_lossOf_3 : decode cX5_lossOf 3 = .ok (.aload_n 0, 1) := by decide +kernel
theorem dX5_lossOf_4 : decode cX5_lossOf 4 = .ok (.getfield 19, 3) := by decide +kernel
theorem dX5_lossOf_7 : decode cX5_lossOf 7 = .ok (.iload_n 1, 1) := by decide +kernel
theorem dX5_lossOf_8 : decode cX5_lossOf 8 = .ok (.iaload, 1) := by decide +kernel
theorem dX5_lossOf_9 : decode cX5_lossOf 9 = .ok (.imul, 1) := by decide +kernel
theorem dX5_lossOf_10 : decode cX5_lossOf 10 = .ok (.iadd, 1) := by decide +kernel
theorem dX5_lossOf_11 : decode cX5_lossOf 11 = .ok (.iload_n 3, 1) := by decide +kernel
theorem dX5_lossOf_12 : decode cX5_lossOf 12 = .ok (.bipush 10, 2) := by decide +kernel
theorem dX5_lossOf_14 : decode cX5_lossOf 14 = .ok (.if_icmp .ge 12, 3) := by decide +kernel
theorem dX5_lossOf_17 : decode cX5_lossOf 17 = .ok (.bipush 20, 2) := by decide +kernel
theorem dX5_lossOf_19 : decode cX5_lossOf 19 = .ok (.iconst 2, 1) := by decide +kernel
theorem dX5_lossOf_20 : decode cX5_lossOf 20 = .ok (.iload_n 3, 1) := by decide +kernel
theorem dX5_lossOf_21 : decode cX5_lossOf 21 = .ok (.imul, 1) := by decide +kernel
theorem dX5_lossOf_22 : decode cX5_lossOf 22 = .ok (.isub, 1) := by decide +kernel
theorem dX5_lossOf_23 : decode cX5_lossOf 23 = .ok (.goto 4, 3) := by decide +kernel
theorem dX5_lossOf_26 : decode cX5_lossOf 26 = .ok (.iconst 0, 1) := by decide +kernel
theorem dX5_lossOf_27 : decode cX5_lossOf 27 = .ok (.iadd, 1) := by decide +kernel
theorem dX5_lossOf_28 : decode cX5_lossOf 28 = .ok (.istore 4, 2) := by decide +kernel
theorem dX5_lossOf_30 : decode cX5_lossOf 30 = .ok (.iload_n 2, 1) := by decide +kernel
theorem dX5_lossOf_31 : decode cX5_lossOf 31 = .ok (.ifCond .le 12, 3) := by decide +kernel
theorem dX5_lossOf_34 : decode cX5_lossOf 34 = .ok (.iconst 3, 1) := by decide +kernel
theorem dX5_lossOf_35 : decode cX5_lossOf 35 = .ok (.iload 4, 2) := by decide +kernel
theorem dX5_lossOf_37 : decode cX5_lossOf 37 = .ok (.imul, 1) := by decide +kernel
theorem dX5_lossOf_38 : decode cX5_lossOf 38 = .ok (.iconst 4, 1) := by decide +kernel
theorem dX5_lossOf_39 : decode cX5_lossOf 39 = .ok (.idiv, 1) := by decide +kernel
theorem dX5_lossOf_40 : decode cX5_lossOf 40 = .ok (.goto 5, 3) := by decide +kernel
theorem dX5_lossOf_43 : decode cX5_lossOf 43 = .ok (.iload 4, 2) := by decide +kernel
theorem dX5_lossOf_45 : decode cX5_lossOf 45 = .ok (.istore 4, 2) := by decide +kernel
theorem dX5_lossOf_47 : decode cX5_lossOf 47 = .ok (.iload_n 2, 1) := by decide +kernel
theorem dX5_lossOf_48 : decode cX5_lossOf 48 = .ok (.iconst 2, 1) := by decide +kernel
theorem dX5_lossOf_49 : decode cX5_lossOf 49 = .ok (.if_icmp .ge 8, 3) := by decide +kernel
theorem dX5_lossOf_52 : decode cX5_lossOf 52 = .ok (.iload 4, 2) := by decide +kernel
theorem dX5_lossOf_54 : decode cX5_lossOf 54 = .ok (.goto 17, 3) := by decide +kernel
theorem dX5_lossOf_57 : decode cX5_lossOf 57 = .ok (.iload 4, 2) := by decide +kernel
theorem dX5_lossOf_59 : decode cX5_lossOf 59 = .ok (.iconst 5, 1) := by decide +kernel
theorem dX5_lossOf_60 : decode cX5_lossOf 60 = .ok (.if_icmp .le 10, 3) := by decide +kernel
theorem dX5_lossOf_63 : decode cX5_lossOf 63 = .ok (.iload 4, 2) := by decide +kernel
theorem dX5_lossOf_65 : decode cX5_lossOf 65 = .ok (.iconst 4, 1) := by decide +kernel
theorem dX5_lossOf_66 : decode cX5_lossOf 66 = .ok (.isub, 1) := by decide +kernel
theorem dX5_lossOf_67 : decode cX5_lossOf 67 = .ok (.goto 4, 3) := by decide +kernel
theorem dX5_lossOf_70 : decode cX5_lossOf 70 = .ok (.iconst 1, 1) := by decide +kernel
theorem dX5_lossOf_71 : decode cX5_lossOf 71 = .ok (.ireturn, 1) := by decide +kernel
theorem dX5_lostOf_0 : decode cX5_lostOf 0 = .ok (.iload_n 0, 1) := by decide +kernel
theorem dX5_lostOf_1 : decode cX5_lostOf 1 = .ok (.iload_n 1, 1) := by decide +kernel
theorem dX5_lostOf_2 : decode cX5_lostOf 2 = .ok (.imul, 1) := by decide +kernel
theorem dX5_lostOf_3 : decode cX5_lostOf 3 = .ok (.sipush 999, 3) := by decide +kernel
theorem dX5_lostOf_6 : decode cX5_lostOf 6 = .ok (.iadd, 1) := by decide +kernel
theorem dX5_lostOf_7 : decode cX5_lostOf 7 = .ok (.sipush 1000, 3) := by decide +kernel
theorem dX5_lostOf_10 : decode cX5_lostOf 10 = .ok (.idiv, 1) := by decide +kernel
theorem dX5_lostOf_11 : decode cX5_lostOf 11 = .ok (.ireturn, 1) := by decide +kernel
theorem dX5_oneYear_0 : decode cX5_oneYear 0 = .ok (.iconst 0, 1) := by decide +kernel
theorem dX5_oneYear_1 : decode cX5_oneYear 1 = .ok (.istore_n 1, 1) := by decide +kernel
theorem dX5_oneYear_2 : decode cX5_oneYear 2 = .ok (.iload_n 1, 1) := by decide +kernel
theorem dX5_oneYear_3 : decode cX5_oneYear 3 = .ok (.aload_n 0, 1) := by decide +kernel
theorem dX5_oneYear_4 : decode cX5_oneYear 4 = .ok (.getfield 63, 3) := by decide +kernel
theorem dX5_oneYear_7 : decode cX5_oneYear 7 = .ok (.if_icmp .ge 156, 3) := by decide +kernel
theorem dX5_oneYear_10 : decode cX5_oneYear 10 = .ok (.aload_n 0, 1) := by decide +kernel
theorem dX5_oneYear_11 : decode cX5_oneYear 11 = .ok (.getfield 13, 3) := by decide +kernel
theorem dX5_oneYear_14 : decode cX5_oneYear 14 = .ok (.iload_n 1, 1) := by decide +kernel
theorem dX5_oneYear_15 : decode cX5_oneYear 15 = .ok (.iaload, 1) := by decide +kernel
theorem dX5_oneYear_16 : decode cX5_oneYear 16 = .ok (.ifCond .le 141, 3) := by decide +kernel
theorem dX5_oneYear_19 : decode cX5_oneYear 19 = .ok (.aload_n 0, 1) := by decide +kernel
theorem dX5_oneYear_20 : decode cX5_oneYear 20 = .ok (.iload_n 1, 1) := by decide +kernel
theorem dX5_oneYear_21 : decode cX5_oneYear 21 = .ok (.aload_n 0, 1) := by decide +kernel
theorem dX5_oneYear_22 : decode cX5_oneYear 22 = .ok (.getfield 7, 3) := by decide +kernel
theorem dX5_oneYear_25 : decode cX5_oneYear 25 = .ok (.iload_n 1, 1) := by decide +kernel
theorem dX5_oneYear_26 : decode cX5_oneYear 26 = .ok (.iaload, 1) := by decide +kernel
theorem dX5_oneYear_27 : decode cX5_oneYear 27 = .ok (.aload_n 0, 1) := by decide +kernel
theorem dX5_oneYear_28 : decode cX5_oneYear 28 = .ok (.getfield 60, 3) := by decide +kernel
theorem dX5_oneYear_31 : decode cX5_oneYear 31 = .ok (.aload_n 0, 1) := by decide +kernel
theorem dX5_oneYear_32 : decode cX5_oneYear 32 = .ok (.getfield 22, 3) := by decide +kernel
theorem dX5_oneYear_35 : decode cX5_oneYear 35 = .ok (.iload_n 1, 1) := by decide +kernel
theorem dX5_oneYear_36 : decode cX5_oneYear 36 = .ok (.iaload, 1) := by decide +kernel
theorem dX5_oneYear_37 : decode cX5_oneYear 37 = .ok (.isub, 1) := by decide +kernel
theorem dX5_oneYear_38 : decode cX5_oneYear 38 = .ok (.invokevirtual 70, 3) := by decide +kernel
theorem dX5_oneYear_41 : decode cX5_oneYear 41 = .ok (.istore_n 2, 1) := by decide +kernel
theorem dX5_oneYear_42 : decode cX5_oneYear 42 = .ok (.aload_n 0, 1) := by decide +kernel
theorem dX5_oneYear_43 : decode cX5_oneYear 43 = .ok (.getfield 13, 3) := by decide +kernel
theorem dX5_oneYear_46 : decode cX5_oneYear 46 = .ok (.iload_n 1, 1) := by decide +kernel
theorem dX5_oneYear_47 : decode cX5_oneYear 47 = .ok (.dup2, 1) := by decide +kernel
theorem dX5_oneYear_48 : decode cX5_oneYear 48 = .ok (.iaload, 1) := by decide +kernel
theorem dX5_oneYear_49 : decode cX5_oneYear 49 = .ok (.aload_n 0, 1) := by decide +kernel
theorem dX5_oneYear_50 : decode cX5_oneYear 50 = .ok (.getfield 13, 3) := by decide +kernel
theorem dX5_oneYear_53 : decode cX5_oneYear 53 = .ok (.iload_n 1, 1) := by decide +kernel
theorem dX5_oneYear_54 : decode cX5_oneYear 54 = .ok (.iaload, 1) := by decide +kernel
theorem dX5_oneYear_55 : decode cX5_oneYear 55 = .ok (.iload_n 2, 1) := by decide +kernel
theorem dX5_oneYear_56 : decode cX5_oneYear 56 = .ok (.invokestatic 74, 3) := by decide +kernel
theorem dX5_oneYear_59 : decode cX5_oneYear 59 = .ok (.isub, 1) := by decide +kernel
theorem dX5_oneYear_60 : decode cX5_oneYear 60 = .ok (.iastore, 1) := by decide +kernel
theorem dX5_oneYear_61 : decode cX5_oneYear 61 = .ok (.aload_n 0, 1) := by decide +kernel
theorem dX5_oneYear_62 : decode cX5_oneYear 62 = .ok (.getfield 25, 3) := by decide +kernel
theorem dX5_oneYear_65 : decode cX5_oneYear 65 = .ok (.iload_n 1, 1) := by decide +kernel
theorem dX5_oneYear_66 : decode cX5_oneYear 66 = .ok (.dup2, 1) := by decide +kernel
theorem dX5_oneYear_67 : decode cX5_oneYear 67 = .ok (.iaload, 1) := by decide +kernel
theorem dX5_oneYear_68 : decode cX5_oneYear 68 = .ok (.iload_n 2, 1) := by decide +kernel
theorem dX5_oneYear_69 : decode cX5_oneYear 69 = .ok (.bipush 10, 2) := by decide +kernel
theorem dX5_oneYear_71 : decode cX5_oneYear 71 = .ok (.if_icmp .le 10, 3) := by decide +kernel
theorem dX5_oneYear_74 : decode cX5_oneYear 74 = .ok (.iload_n 2, 1) := by decide +kernel
theorem dX5_oneYear_75 : decode cX5_oneYear 75 = .ok (.bipush 10, 2) := by decide +kernel
theorem dX5_oneYear_77 : decode cX5_oneYear 77 = .ok (.isub, 1) := by decide +kernel
theorem dX5_oneYear_78 : decode cX5_oneYear 78 = .ok (.goto 4, 3) := by decide +kernel
theorem dX5_oneYear_81 : decode cX5_oneYear 81 = .ok (.iconst 0, 1) := by decide +kernel
theorem dX5_oneYear_82 : decode cX5_oneYear 82 = .ok (.iadd, 1) := by decide +kernel
theorem dX5_oneYear_83 : decode cX5_oneYear 83 = .ok (.iastore, 1) := by decide +kernel
theorem dX5_oneYear_84 : decode cX5_oneYear 84 = .ok (.aload_n 0, 1) := by decide +kernel
theorem dX5_oneYear_85 : decode cX5_oneYear 85 = .ok (.getfield 28, 3) := by decide +kernel
theorem dX5_oneYear_88 : decode cX5_oneYear 88 = .ok (.iload_n 1, 1) := by decide +kernel
theorem dX5_oneYear_89 : decode cX5_oneYear 89 = .ok (.dup2, 1) := by decide +kernel
theorem dX5_oneYear_90 : decode cX5_oneYear 90 = .ok (.iaload, 1) := by decide +kernel
theorem dX5_oneYear_91 : decode cX5_oneYear 91 = .ok (.aload_n 0, 1) := by decide +kernel
