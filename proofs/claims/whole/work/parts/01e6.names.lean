theorem dX5_odds_10 : decode cX5_odds 10 = .ok (.iload_n 2, 1) := by decide +kernel
theorem dX5_odds_11 : decode cX5_odds 11 = .ok (.iconst 0, 1) := by decide +kernel
theorem dX5_odds_12 : decode cX5_odds 12 = .ok (.iload_n 1, 1) := by decide +kernel
theorem dX5_odds_13 : decode cX5_odds 13 = .ok (.invokestatic 66, 3) := by decide +kernel
theorem dX5_odds_16 : decode cX5_odds 16 = .ok (.ifCond .eq 11, 3) := by decide +kernel
theorem dX5_odds_19 : decode cX5_odds 19 = .ok (.iload_n 1, 1) := by decide +kernel
theorem dX5_odds_20 : decode cX5_odds 20 = .ok (.iload_n 2, 1) := by decide +kernel
theorem dX5_odds_21 : decode cX5_odds 21 = .ok (.invokestatic 123, 3) := by decide +kernel
theorem dX5_odds_24 : decode cX5_odds 24 = .ok (.goto 6, 3) := by decide +kernel
theorem dX5_odds_27 : decode cX5_odds 27 = .ok (.ldc2_w 127, 3) := by decide +kernel
theorem dX5_odds_30 : decode cX5_odds 30 = .ok (.lreturn, 1) := by decide +kernel
theorem dX5_apart_0 : decode cX5_apart 0 = .ok (.iload_n 1, 1) := by decide +kernel
theorem dX5_apart_1 : decode cX5_apart 1 = .ok (.iconst 1, 1) := by decide +kernel
theorem dX5_apart_2 : decode cX5_apart 2 = .ok (.bipush 20, 2) := by decide +kernel
theorem dX5_apart_4 : decode cX5_apart 4 = .ok (.invokestatic 66, 3) := by decide +kernel
theorem dX5_apart_7 : decode cX5_apart 7 = .ok (.ifCond .eq 12, 3) := by decide +kernel
theorem dX5_apart_10 : decode cX5_apart 10 = .ok (.iload_n 2, 1) := by decide +kernel
theorem dX5_apart_11 : decode cX5_apart 11 = .ok (.iconst 0, 1) := by decide +kernel
theorem dX5_apart_12 : decode cX5_apart 12 = .ok (.iload_n 1, 1) := by decide +kernel
theorem dX5_apart_13 : decode cX5_apart 13 = .ok (.invokestatic 66, 3) := by decide +kernel
theorem dX5_apart_16 : decode cX5_apart 16 = .ok (.ifCond .ne 7, 3) := by decide +kernel
theorem dX5_apart_19 : decode cX5_apart 19 = .ok (.iconst (-1), 1) := by decide +kernel
theorem dX5_apart_20 : decode cX5_apart 20 = .ok (.goto 26, 3) := by decide +kernel
theorem dX5_apart_23 : decode cX5_apart 23 = .ok (.ldc2_w 129, 3) := by decide +kernel
theorem dX5_apart_26 : decode cX5_apart 26 = .ok (.iload_n 1, 1) := by decide +kernel
theorem dX5_apart_27 : decode cX5_apart 27 = .ok (.iload_n 2, 1) := by decide +kernel
theorem dX5_apart_28 : decode cX5_apart 28 = .ok (.invokestatic 123, 3) := by decide +kernel
theorem dX5_apart_31 : decode cX5_apart 31 = .ok (.lmul, 1) := by decide +kernel
theorem dX5_apart_32 : decode cX5_apart 32 = .ok (.iload_n 1, 1) := by decide +kernel
theorem dX5_apart_33 : decode cX5_apart 33 = .ok (.iconst 0, 1) := by decide +kernel
theorem dX5_apart_34 : decode cX5_apart 34 = .ok (.invokestatic 123, 3) := by decide +kernel
theorem dX5_apart_37 : decode cX5_apart 37 = .ok (.lcmp, 1) := by decide +kernel
theorem dX5_apart_38 : decode cX5_apart 38 = .ok (.ifCond .gt 7, 3) := by decide +kernel
theorem dX5_apart_41 : decode cX5_apart 41 = .ok (.iconst 1, 1) := by decide +kernel
theorem dX5_apart_42 : decode cX5_apart 42 = .ok (.goto 4, 3) := by decide +kernel
theorem dX5_apart_45 : decode cX5_apart 45 = .ok (.iconst 0, 1) := by decide +kernel
theorem dX5_apart_46 : decode cX5_apart 46 = .ok (.ireturn, 1) := by decide +kernel
theorem dX5_read_0 : decode cX5_read 0 = .ok (.iload_n 1, 1) := by decide +kernel
theorem dX5_read_1 : decode cX5_read 1 = .ok (.iconst 0, 1) := by decide +kernel
theorem dX5_read_2 : decode cX5_read 2 = .ok (.iconst 5, 1) := by decide +kernel
theorem dX5_read_3 : decode cX5_read 3 = .ok (.invokestatic 66, 3) := by decide +kernel
theorem dX5_read_6 : decode cX5_read 6 = .ok (.ifCond .eq 23, 3) := by decide +kernel
theorem dX5_read_9 : decode cX5_read 9 = .ok (.iload_n 2, 1) := by decide +kernel
theorem dX5_read_10 : decode cX5_read 10 = .ok (.iconst 0, 1) := by decide +kernel
theorem dX5_read_11 : decode cX5_read 11 = .ok (.bipush 9, 2) := by decide +kernel
theorem dX5_read_13 : decode cX5_read 13 = .ok (.invokestatic 66, 3) := by decide +kernel
theorem dX5_read_16 : decode cX5_read 16 = .ok (.ifCond .eq 13, 3) := by decide +kernel
theorem dX5_read_19 : decode cX5_read 19 = .ok (.iload_n 3, 1) := by decide +kernel
theorem dX5_read_20 : decode cX5_read 20 = .ok (.iconst 0, 1) := by decide +kernel
theorem dX5_read_21 : decode cX5_read 21 = .ok (.bipush 99, 2) := by decide +kernel
theorem dX5_read_23 : decode cX5_read 23 = .ok (.invokestatic 66, 3) := by decide +kernel
theorem dX5_read_26 : decode cX5_read 26 = .ok (.ifCond .ne 5, 3) := by decide +kernel
theorem dX5_read_29 : decode cX5_read 29 = .ok (.iconst (-1), 1) := by decide +kernel
theorem dX5_read_30 : decode cX5_read 30 = .ok (.ireturn, 1) := by decide +kernel
theorem dX5_read_31 : decode cX5_read 31 = .ok (.aload_n 0, 1) := by decide +kernel
theorem dX5_read_32 : decode cX5_read 32 = .ok (.getfield 131, 3) := by decide +kernel
theorem dX5_read_35 : decode cX5_read 35 = .ok (.bipush 30, 2) := by decide +kernel
theorem dX5_read_37 : decode cX5_read 37 = .ok (.if_icmp .ne 6, 3) := by decide +kernel
theorem dX5_read_40 : decode cX5_read 40 = .ok (.bipush (-3), 2) := by decide +kernel
theorem dX5_read_42 : decode cX5_read 42 = .ok (.ireturn, 1) := by decide +kernel
theorem dX5_read_43 : decode cX5_read 43 = .ok (.aload_n 0, 1) := by decide +kernel
theorem dX5_read_44 : decode cX5_read 44 = .ok (.getfield 41, 3) := by decide +kernel
theorem dX5_read_47 : decode cX5_read 47 = .ok (.aload_n 0, 1) := by decide +kernel
theorem dX5_read_48 : decode cX5_read 48 = .ok (.getfield 131, 3) := by decide +kernel
theorem dX5_read_51 : decode cX5_read 51 = .ok (.iload_n 1, 1) := by decide +kernel
theorem dX5_read_52 : decode cX5_read 52 = .ok (.iastore, 1) := by decide +kernel
theorem dX5_read_53 : decode cX5_read 53 = .ok (.aload_n 0, 1) := by decide +kernel
theorem dX5_read_54 : decode cX5_read 54 = .ok (.getfield 44, 3) := by decide +kernel
theorem dX5_read_57 : decode cX5_read 57 = .ok (.aload_n 0, 1) := by decide +kernel
theorem dX5_read_58 : decode cX5_read 58 = .ok (.getfield 131, 3) := by decide +kernel
theorem dX5_read_61 : decode cX5_read 61 = .ok (.iload_n 2, 1) := by decide +kernel
theorem dX5_read_62 : decode cX5_read 62 = .ok (.iastore, 1) := by decide +kernel
theorem dX5_read_63 : decode cX5_read 63 = .ok (.aload_n 0, 1) := by decide +kernel
theorem dX5_read_64 : decode cX5_read 64 = .ok (.getfield 47, 3) := by decide +kernel
theorem dX5_read_67 : decode cX5_read 67 = .ok (.aload_n 0, 1) := by decide +kernel
theorem dX5_read_68 : decode cX5_read 68 = .ok (.getfield 131, 3) := by decide +kernel
theorem dX5_read_71 : decode cX5_read 71 = .ok (.iload_n 3, 1) := by decide +kernel
theorem dX5_read_72 : decode cX5_read 72 = .ok (.iastore, 1) := by decide +kernel
theorem dX5_read_73 : decode cX5_read 73 = .ok (.aload_n 0, 1) := by decide +kernel
theorem dX5_read_74 : decode cX5_read 74 = .ok (.dup, 1) := by decide +kernel
theorem dX5_read_75 : decode cX5_read 75 = .ok (.getfield 131, 3) := by decide +kernel
theorem dX5_read_78 : decode cX5_read 78 = .ok (.iconst 1, 1) := by decide +kernel
theorem dX5_read_79 : decode cX5_read 79 = .ok (.iadd, 1) := by decide +kernel
theorem dX5_read_80 : decode cX5_read 80 = .ok (.putfield 131, 3) := by decide +kernel
theorem dX5_read_83 : decode cX5_read 83 = .ok (.aload_n 0, 1) := by decide +kernel
theorem dX5_read_84 : decode cX5_read 84 = .ok (.getfield 131, 3) := by decide +kernel
theorem dX5_read_87 : decode cX5_read 87 = .ok (.ireturn, 1) := by decide +kernel
theorem dX5_clear_0 : decode cX5_clear 0 = .ok (.aload_n 0, 1) := by decide +kernel
theorem dX5_clear_1 : decode cX5_clear 1 = .ok (.getfield 131, 3) := by decide +kernel
theorem dX5_clear_4 : decode cX5_clear 4 = .ok (.istore_n 1, 1) := by decide +kernel
theorem dX5_clear_5 : decode cX5_clear 5 = .ok (.aload_n 0, 1) := by decide +kernel
theorem dX5_clear_6 : decode cX5_clear 6 = .ok (.iconst 0, 1) := by decide +kernel
theorem dX5_clear_7 : decode cX5_clear 7 = .ok (.putfield 131, 3) := by decide +kernel
theorem dX5_clear_10 : decode cX5_clear 10 = .ok (.iload_n 1, 1) := by decide +kernel
theorem dX5_clear_11 : decode cX5_clear 11 = .ok (.ireturn, 1) := by decide +kernel
theorem dX5_lead_0 : decode cX5_lead 0 = .ok (.iconst 0, 1) := by decide +kernel
theorem dX5_lead_1 : decode cX5_lead 1 = .ok (.istore_n 3, 1) := by decide +kernel
theorem dX5_lead_2 : decode cX5_lead 2 = .ok (.iload_n 3, 1) := by decide +kernel
theorem dX5_lead_3 : decode cX5_lead 3 = .ok (.bipush 16, 2) := by decide +kernel
theorem dX5_lead_5 : decode cX5_lead 5 = .ok (.if_icmp .ge 32, 3) := by decide +kernel
theorem dX5_lead_8 : decode cX5_lead 8 = .ok (.aload_n 0, 1) := by decide +kernel
theorem dX5_lead_9 : decode cX5_lead 9 = .ok (.getfield 53, 3) := by decide +kernel
theorem dX5_lead_12 : decode cX5_lead 12 = .ok (.iload_n 3, 1) := by decide +kernel
theorem dX5_lead_13 : decode cX5_lead 13 = .ok (.iload_n 3, 1) := by decide +kernel
theorem dX5_lead_14 : decode cX5_lead 14 = .ok (.iload_n 1, 1) := by decide +kernel
theorem dX5_lead_15 : decode cX5_lead 15 = .ok (.if_icmp .ne 7, 3) := by decide +kernel
theorem dX5_lead_18 : decode cX5_lead 18 = .ok (.iconst 1, 1) := by decide +kernel
theorem dX5_lead_19 : decode cX5_lead 19 = .ok (.goto 4, 3) := by decide +kernel
theorem dX5_lead_22 : decode cX5_lead 22 = .ok (.iconst 0, 1) := by decide +kernel
theorem dX5_lead_23 : decode cX5_lead 23 = .ok (.bastore, 1) := by decide +kernel
theorem dX5_lead_24 : decode cX5_lead 24 = .ok (.aload_n 0, 1) := by decide +kernel
theorem dX5_lead_25 : decode cX5_lead 25 = .ok (.getfield 57, 3) := by decide +kernel
theorem dX5_lead_28 : decode cX5_lead 28 = .ok (.iload_n 3, 1) := by decide +kernel
theorem dX5_lead_29 : decode cX5_lead 29 = .ok (.iconst 0, 1) := by decide +kernel
theorem dX5_lead_30 : decode cX5_lead 30 = .ok (.iastore, 1) := by decide +kernel
theorem dX5_lead_31 : decode cX5_lead 31 = .ok (.iinc 3 1, 3) := by decide +kernel
theorem dX5_lead_34 : decode cX5_lead 34 = .ok (.goto (-32), 3) := by decide +kernel
theorem dX5_lead_37 : decode cX5_lead 37 = .ok (.iconst 1, 1) := by decide +kernel
theorem dX5_lead_38 : decode cX5_lead 38 = .ok (.istore_n 3, 1) := by decide +kernel
theorem dX5_lead_39 : decode cX5_lead 39 = .ok (.iload_n 3, 1) := by decide +kernel
theorem dX5_lead_40 : decode cX5_lead 40 = .ok (.ifCond .eq 148, 3) := by decide +kernel
theorem dX5_lead_43 : decode cX5_lead 43 = .ok (.iconst 0, 1) := by decide +kernel
theorem dX5_lead_44 : decode cX5_lead 44 = .ok (.istore_n 3, 1) := by decide +kernel
theorem dX5_lead_45 : decode cX5_lead 45 = .ok (.iconst 0, 1) := by decide +kernel
theorem dX5_lead_46 : decode cX5_lead 46 = .ok (.istore 4, 2) := by decide +kernel
theorem dX5_lead_48 : decode cX5_lead 48 = .ok (.iload 4, 2) := by decide +kernel
theorem dX5_lead_50 : decode cX5_lead 50 = .ok (.iload_n 2, 1) := by decide +kernel
theorem dX5_lead_51 : decode cX5_lead 51 = .ok (.if_icmp .ge 134, 3) := by decide +kernel
theorem dX5_lead_54 : decode cX5_lead 54 = .ok (.aload_n 0, 1) := by decide +kernel
theorem dX5_lead_55 : decode cX5_lead 55 = .ok (.getfield 41, 3) := by decide +kernel
theorem dX5_lead_58 : decode cX5_lead 58 = .ok (.iload 4, 2) := by decide +kernel
theorem dX5_lead_60 : decode cX5_lead 60 = .ok (.iaload, 1) := by decide +kernel
theorem dX5_lead_61 : decode cX5_lead 61 = .ok (.istore 5, 2) := by decide +kernel
theorem dX5_lead_63 : decode cX5_lead 63 = .ok (.bipush 6, 2) := by decide +kernel
theorem dX5_lead_65 : decode cX5_lead 65 = .ok (.aload_n 0, 1) := by decide +kernel
theorem dX5_lead_66 : decode cX5_lead 66 = .ok (.getfield 44, 3) := by decide +kernel
theorem dX5_lead_69 : decode cX5_lead 69 = .ok (.iload 4, 2) := by decide +kernel
theorem dX5_lead_71 : decode cX5_lead 71 = .ok (.iaload, 1) := by decide +kernel
theorem dX5_lead_72 : decode cX5_lead 72 = .ok (.iadd, 1) := by decide +kernel
theorem dX5_lead_73 : decode cX5_lead 73 = .ok (.istore 6, 2) := by decide +kernel
theorem dX5_lead_75 : decode cX5_lead 75 = .ok (.aload_n 0, 1) := by decide +kernel
theorem dX5_lead_76 : decode cX5_lead 76 = .ok (.getfield 53, 3) := by decide +kernel
theorem dX5_lead_79 : decode cX5_lead 79 = .ok (.iload 5, 2) := by decide +kernel
theorem dX5_lead_81 : decode cX5_lead 81 = .ok (.baload, 1) := by decide +kernel
theorem dX5_lead_82 : decode cX5_lead 82 = .ok (.ifCond .eq 45, 3) := by decide +kernel
theorem dX5_lead_85 : decode cX5_lead 85 = .ok (.aload_n 0, 1) := by decide +kernel
theorem dX5_lead_86 : decode cX5_lead 86 = .ok (.getfield 53, 3) := by decide +kernel
theorem dX5_lead_89 : decode cX5_lead 89 = .ok (.iload 6, 2) := by decide +kernel
theorem dX5_lead_91 : decode cX5_lead 91 = .ok (.baload, 1) := by decide +kernel
theorem dX5_lead_92 : decode cX5_lead 92 = .ok (.ifCond .ne 35, 3) := by decide +kernel
theorem dX5_lead_95 : decode cX5_lead 95 = .ok (.aload_n 0, 1) := by decide +kernel
theorem dX5_lead_96 : decode cX5_lead 96 = .ok (.getfield 53, 3) := by decide +kernel
theorem dX5_lead_99 : decode cX5_lead 99 = .ok (.iload 6, 2) := by decide +kernel
theorem dX5_lead_101 : decode cX5_lead 101 = .ok (.iconst 1, 1) := by decide +kernel
theorem dX5_lead_102 : decode cX5_lead 102 = .ok (.bastore, 1) := by decide +kernel
theorem dX5_lead_103 : decode cX5_lead 103 = .ok (.aload_n 0, 1) := by decide +kernel
theorem dX5_lead_104 : decode cX5_lead 104 = .ok (.getfield 57, 3) := by decide +kernel
theorem dX5_lead_107 : decode cX5_lead 107 = .ok (.iload 6, 2) := by decide +kernel
theorem dX5_lead_109 : decode cX5_lead 109 = .ok (.aload_n 0, 1) := by decide +kernel
theorem dX5_lead_110 : decode cX5_lead 110 = .ok (.getfield 47, 3) := by decide +kernel
theorem dX5_lead_113 : decode cX5_lead 113 = .ok (.iload 4, 2) := by decide +kernel
theorem dX5_lead_115 : decode cX5_lead 115 = .ok (.iaload, 1) := by decide +kernel
theorem dX5_lead_116 : decode cX5_lead 116 = .ok (.aload_n 0, 1) := by decide +kernel
theorem dX5_lead_117 : decode cX5_lead 117 = .ok (.getfield 57, 3) := by decide +kernel
theorem dX5_lead_120 : decode cX5_lead 120 = .ok (.iload 5, 2) := by decide +kernel
theorem dX5_lead_122 : decode cX5_lead 122 = .ok (.iaload, 1) := by decide +kernel
theorem dX5_lead_123 : decode cX5_lead 123 = .ok (.isub, 1) := by decide +kernel
theorem dX5_lead_124 : decode cX5_lead 124 = .ok (.iastore, 1) := by decide +kernel
theorem dX5_lead_125 : decode cX5_lead 125 = .ok (.iconst 1, 1) := by decide +kernel
theorem dX5_lead_126 : decode cX5_lead 126 = .ok (.istore_n 3, 1) := by decide +kernel
theorem dX5_lead_127 : decode cX5_lead 127 = .ok (.aload_n 0, 1) := by decide +kernel
theorem dX5_lead_128 : decode cX5_lead 128 = .ok (.getfield 53, 3) := by decide +kernel
theorem dX5_lead_131 : decode cX5_lead 131 = .ok (.iload 6, 2) := by decide +kernel
theorem dX5_lead_133 : decode cX5_lead 133 = .ok (.baload, 1) := by decide +kernel
theorem dX5_lead_134 : decode cX5_lead 134 = .ok (.ifCond .eq 45, 3) := by decide +kernel
theorem dX5_lead_137 : decode cX5_lead 137 = .ok (.aload_n 0, 1) := by decide +kernel
theorem dX5_lead_138 : decode cX5_lead 138 = .ok (.getfield 53, 3) := by decide +kernel
theorem dX5_lead_141 : decode cX5_lead 141 = .ok (.iload 5, 2) := by decide +kernel
theorem dX5_lead_143 : decode cX5_lead 143 = .ok (.baload, 1) := by decide +kernel
theorem dX5_lead_144 : decode cX5_lead 144 = .ok (.ifCond .ne 35, 3) := by decide +kernel
theorem dX5_lead_147 : decode cX5_lead 147 = .ok (.aload_n 0, 1) := by decide +kernel
theorem dX5_lead_148 : decode cX5_lead 148 = .ok (.getfield 53, 3) := by decide +kernel
theorem dX5_lead_151 : decode cX5_lead 151 = .ok (.iload 5, 2) := by decide +kernel
theorem dX5_lead_153 : decode cX5_lead 153 = .ok (.iconst 1, 1) := by decide +kernel
theorem dX5_lead_154 : decode cX5_lead 154 = .ok (.bastore, 1) := by decide +kernel
theorem dX5_lead_155 : decode cX5_lead 155 = .ok (.aload_n 0, 1) := by decide +kernel
theorem dX5_lead_156 : decode cX5_lead 156 = .ok (.getfield 57, 3) := by decide +kernel
theorem dX5_lead_159 : decode cX5_lead 159 = .ok (.iload 5, 2) := by decide +kernel
theorem dX5_lead_161 : decode cX5_lead 161 = .ok (.aload_n 0, 1) := by decide +kernel
theorem dX5_lead_162 : decode cX5_lead 162 = .ok (.getfield 47, 3) := by decide +kernel
theorem dX5_lead_165 : decode cX5_lead 165 = .ok (.iload 4, 2) := by decide +kernel
theorem dX5_lead_167 : decode cX5_lead 167 = .ok (.iaload, 1) := by decide +kernel
theorem dX5_lead_168 : decode cX5_lead 168 = .ok (.aload_n 0, 1) := by decide +kernel
theorem dX5_lead_169 : decode cX5_lead 169 = .ok (.getfield 57, 3) := by decide +kernel
theorem dX5_lead_172 : decode cX5_lead 172 = .ok (.iload 6, 2) := by decide +kernel
theorem dX5_lead_174 : decode cX5_lead 174 = .ok (.iaload, 1) := by decide +kernel
theorem dX5_lead_175 : decode cX5_lead 175 = .ok (.isub, 1) := by decide +kernel
theorem dX5_lead_176 : decode cX5_lead 176 = .ok (.iastore, 1) := by decide +kernel
theorem dX5_lead_177 : decode cX5_lead 177 = .ok (.iconst 1, 1) := by decide +kernel
theorem dX5_lead_178 : decode cX5_lead 178 = .ok (.istore_n 3, 1) := by decide +kernel
theorem dX5_lead_179 : decode cX5_lead 179 = .ok (.iinc 4 1, 3) := by decide +kernel
theorem dX5_lead_182 : decode cX5_lead 182 = .ok (.goto (-134), 3) := by decide +kernel
theorem dX5_lead_185 : decode cX5_lead 185 = .ok (.goto (-146), 3) := by decide +kernel
theorem dX5_lead_188 : decode cX5_lead 188 = .ok (.return_, 1) := by decide +kernel
theorem dX5_firstWrong_0 : decode cX5_firstWrong 0 = .ok (.iconst 0, 1) := by decide +kernel
theorem dX5_firstWrong_1 : decode cX5_firstWrong 1 = .ok (.istore_n 1, 1) := by decide +kernel
theorem dX5_firstWrong_2 : decode cX5_firstWrong 2 = .ok (.iload_n 1, 1) := by decide +kernel
theorem dX5_firstWrong_3 : decode cX5_firstWrong 3 = .ok (.aload_n 0, 1) := by decide +kernel
theorem dX5_firstWrong_4 : decode cX5_firstWrong 4 = .ok (.getfield 131, 3) := by decide +kernel
theorem dX5_firstWrong_7 : decode cX5_firstWrong 7 = .ok (.if_icmp .ge 56, 3) := by decide +kernel
theorem dX5_firstWrong_10 : decode cX5_firstWrong 10 = .ok (.aload_n 0, 1) := by decide +kernel
theorem dX5_firstWrong_11 : decode cX5_firstWrong 11 = .ok (.aload_n 0, 1) := by decide +kernel
theorem dX5_firstWrong_12 : decode cX5_firstWrong 12 = .ok (.getfield 41, 3) := by decide +kernel
theorem dX5_firstWrong_15 : decode cX5_firstWrong 15 = .ok (.iload_n 1, 1) := by decide +kernel
theorem dX5_firstWrong_16 : decode cX5_firstWrong 16 = .ok (.iaload, 1) := by decide +kernel
theorem dX5_firstWrong_17 : decode cX5_firstWrong 17 = .ok (.iload_n 1, 1) := by decide +kernel
theorem dX5_firstWrong_18 : decode cX5_firstWrong 18 = .ok (.invokevirtual 134, 3) := by decide +kernel
theorem dX5_firstWrong_21 : decode cX5_firstWrong 21 = .ok (.bipush 6, 2) := by decide +kernel
theorem dX5_firstWrong_23 : decode cX5_firstWrong 23 = .ok (.aload_n 0, 1) := by decide +kernel
theorem dX5_firstWrong_24 : decode cX5_firstWrong 24 = .ok (.getfield 44, 3) := by decide +kernel
theorem dX5_firstWrong_27 : decode cX5_firstWrong 27 = .ok (.iload_n 1, 1) := by decide +kernel
theorem dX5_firstWrong_28 : decode cX5_firstWrong 28 = .ok (.iaload, 1) := by decide +kernel
theorem dX5_firstWrong_29 : decode cX5_firstWrong 29 = .ok (.iadd, 1) := by decide +kernel
theorem dX5_firstWrong_30 : decode cX5_firstWrong 30 = .ok (.istore_n 2, 1) := by decide +kernel
theorem dX5_firstWrong_31 : decode cX5_firstWrong 31 = .ok (.aload_n 0, 1) := by decide +kernel
theorem dX5_firstWrong_32 : decode cX5_firstWrong 32 = .ok (.getfield 53, 3) := by decide +kernel
theorem dX5_firstWrong_35 : decode cX5_firstWrong 35 = .ok (.iload_n 2, 1) := by decide +kernel
theorem dX5_firstWrong_36 : decode cX5_firstWrong 36 = .ok (.baload, 1) := by decide +kernel
theorem dX5_firstWrong_37 : decode cX5_firstWrong 37 = .ok (.ifCond .eq 20, 3) := by decide +kernel
theorem dX5_firstWrong_40 : decode cX5_firstWrong 40 = .ok (.aload_n 0, 1) := by decide +kernel
theorem dX5_firstWrong_41 : decode cX5_firstWrong 41 = .ok (.getfield 57, 3) := by decide +kernel
theorem dX5_firstWrong_44 : decode cX5_firstWrong 44 = .ok (.iload_n 2, 1) := by decide +kernel
theorem dX5_firstWrong_45 : decode cX5_firstWrong 45 = .ok (.iaload, 1) := by decide +kernel
theorem dX5_firstWrong_46 : decode cX5_firstWrong 46 = .ok (.aload_n 0, 1) := by decide +kernel
theorem dX5_firstWrong_47 : decode cX5_firstWrong 47 = .ok (.getfield 47, 3) := by decide +kernel
theorem dX5_firstWrong_50 : decode cX5_firstWrong 50 = .ok (.iload_n 1, 1) := by decide +kernel
theorem dX5_firstWrong_51 : decode cX5_firstWrong 51 = .ok (.iaload, 1) := by decide +kernel
theorem dX5_firstWrong_52 : decode cX5_firstWrong 52 = .ok (.if_icmp .eq 5, 3) := by decide +kernel
theorem dX5_firstWrong_55 : decode cX5_firstWrong 55 = .ok (.iload_n 1, 1) := by decide +kernel
theorem dX5_firstWrong_56 : decode cX5_firstWrong 56 = .ok (.ireturn, 1) := by decide +kernel
theorem dX5_firstWrong_57 : decode cX5_firstWrong 57 = .ok (.iinc 1 1, 3) := by decide +kernel
theorem dX5_firstWrong_60 : decode cX5_firstWrong 60 = .ok (.goto (-58), 3) := by decide +kernel
theorem dX5_firstWrong_63 : decode cX5_firstWrong 63 = .ok (.bipush (-9), 2) := by decide +kernel
theorem dX5_firstWrong_65 : decode cX5_firstWrong 65 = .ok (.ireturn, 1) := by decide +kernel
theorem dX5_contradicts_0 : decode cX5_contradicts 0 = .ok (.aload_n 0, 1) := by decide +kernel
theorem dX5_contradicts_1 : decode cX5_contradicts 1 = .ok (.invokevirtual 138, 3) := by decide +kernel
theorem dX5_contradicts_4 : decode cX5_contradicts 4 = .ok (.ireturn, 1) := by decide +kernel
theorem dX5_hang_0 : decode cX5_hang 0 = .ok (.iload_n 1, 1) := by decide +kernel
theorem dX5_hang_1 : decode cX5_hang 1 = .ok (.iconst 0, 1) := by decide +kernel
theorem dX5_hang_2 : decode cX5_hang 2 = .ok (.iconst 5, 1) := by decide +kernel
theorem dX5_hang_3 : decode cX5_hang 3 = .ok (.invokestatic 66, 3) := by decide +kernel
theorem dX5_hang_6 : decode cX5_hang 6 = .ok (.ifCond .eq 21, 3) := by decide +kernel
theorem dX5_hang_9 : decode cX5_hang 9 = .ok (.iload_n 2, 1) := by decide +kernel
theorem dX5_hang_10 : decode cX5_hang 10 = .ok (.iconst 0, 1) := by decide +kernel
theorem dX5_hang_11 : decode cX5_hang 11 = .ok (.iconst 5, 1) := by decide +kernel
theorem dX5_hang_12 : decode cX5_hang 12 = .ok (.invokestatic 66, 3) := by decide +kernel
theorem dX5_hang_15 : decode cX5_hang 15 = .ok (.ifCond .eq 12, 3) := by decide +kernel
theorem dX5_hang_18 : decode cX5_hang 18 = .ok (.iload_n 3, 1) := by decide +kernel
theorem dX5_hang_19 : decode cX5_hang 19 = .ok (.iconst 0, 1) := by decide +kernel
theorem dX5_hang_20 : decode cX5_hang 20 = .ok (.iconst 1, 1) := by decide +kernel
theorem dX5_hang_21 : decode cX5_hang 21 = .ok (.invokestatic 66, 3) := by decide +kernel
theorem dX5_hang_24 : decode cX5_hang 24 = .ok (.ifCond .ne 6, 3) := by decide +kernel
theorem dX5_hang_27 : decode cX5_hang 27 = .ok (.ldc 142, 2) := by decide +kernel
theorem dX5_hang_29 : decode cX5_hang 29 = .ok (.ireturn, 1) := by decide +kernel
theorem dX5_hang_30 : decode cX5_hang 30 = .ok (.aload_n 0, 1) := by decide +kernel
theorem dX5_hang_31 : decode cX5_hang 31 = .ok (.invokevirtual 138, 3) := by decide +kernel
theorem dX5_hang_34 : decode cX5_hang 34 = .ok (.istore 4, 2) := by decide +kernel
theorem dX5_hang_36 : decode cX5_hang 36 = .ok (.aload_n 0, 1) := by decide +kernel
theorem dX5_hang_37 : decode cX5_hang 37 = .ok (.iload_n 2, 1) := by decide +kernel
theorem dX5_hang_38 : decode cX5_hang 38 = .ok (.iload 4, 2) := by decide +kernel
theorem dX5_hang_40 : decode cX5_hang 40 = .ok (.bipush (-9), 2) := by decide +kernel
theorem dX5_hang_42 : decode cX5_hang 42 = .ok (.if_icmp .ne 10, 3) := by decide +kernel
theorem dX5_hang_45 : decode cX5_hang 45 = .ok (.aload_n 0, 1) := by decide +kernel
theorem dX5_hang_46 : decode cX5_hang 46 = .ok (.getfield 131, 3) := by decide +kernel
theorem dX5_hang_49 : decode cX5_hang 49 = .ok (.goto 5, 3) := by decide +kernel
theorem dX5_hang_52 : decode cX5_hang 52 = .ok (.iload 4, 2) := by decide +kernel
theorem dX5_hang_54 : decode cX5_hang 54 = .ok (.invokevirtual 134, 3) := by decide +kernel
theorem dX5_hang_57 : decode cX5_hang 57 = .ok (.iload_n 3, 1) := by decide +kernel
theorem dX5_hang_58 : decode cX5_hang 58 = .ok (.ifCond .ne 20, 3) := by decide +kernel
theorem dX5_hang_61 : decode cX5_hang 61 = .ok (.aload_n 0, 1) := by decide +kernel
theorem dX5_hang_62 : decode cX5_hang 62 = .ok (.getfield 53, 3) := by decide +kernel
theorem dX5_hang_65 : decode cX5_hang 65 = .ok (.iload_n 1, 1) := by decide +kernel
theorem dX5_hang_66 : decode cX5_hang 66 = .ok (.baload, 1) := by decide +kernel
theorem dX5_hang_67 : decode cX5_hang 67 = .ok (.ifCond .eq 7, 3) := by decide +kernel
theorem dX5_hang_70 : decode cX5_hang 70 = .ok (.iconst 1, 1) := by decide +kernel
theorem dX5_hang_71 : decode cX5_hang 71 = .ok (.goto 27, 3) := by decide +kernel
theorem dX5_hang_74 : decode cX5_hang 74 = .ok (.iconst 0, 1) := by decide +kernel
theorem dX5_hang_75 : decode cX5_hang 75 = .ok (.goto 23, 3) := by decide +kernel
theorem dX5_hang_78 : decode cX5_hang 78 = .ok (.aload_n 0, 1) := by decide +kernel
theorem dX5_hang_79 : decode cX5_hang 79 = .ok (.getfield 53, 3) := by decide +kernel
theorem dX5_hang_82 : decode cX5_hang 82 = .ok (.iload_n 1, 1) := by decide +kernel
theorem dX5_hang_83 : decode cX5_hang 83 = .ok (.baload, 1) := by decide +kernel
theorem dX5_hang_84 : decode cX5_hang 84 = .ok (.ifCond .eq 12, 3) := by decide +kernel
theorem dX5_hang_87 : decode cX5_hang 87 = .ok (.aload_n 0, 1) := by decide +kernel
theorem dX5_hang_88 : decode cX5_hang 88 = .ok (.getfield 57, 3) := by decide +kernel
theorem dX5_hang_91 : decode cX5_hang 91 = .ok (.iload_n 1, 1) := by decide +kernel
theorem dX5_hang_92 : decode cX5_hang 92 = .ok (.iaload, 1) := by decide +kernel
theorem dX5_hang_93 : decode cX5_hang 93 = .ok (.goto 5, 3) := by decide +kernel
theorem dX5_hang_96 : decode cX5_hang 96 = .ok (.ldc 143, 2) := by decide +kernel
theorem dX5_hang_98 : decode cX5_hang 98 = .ok (.ireturn, 1) := by decide +kernel
theorem dX5_count_0 : decode cX5_count 0 = .ok (.iconst 0, 1) := by decide +kernel
theorem dX5_count_1 : decode cX5_count 1 = .ok (.istore_n 2, 1) := by decide +kernel
theorem dX5_count_2 : decode cX5_count 2 = .ok (.iload_n 1, 1) := by decide +kernel
theorem dX5_count_3 : decode cX5_count 3 = .ok (.tableswitch 119 0 5 #[37, 42, 47, 82, 87, 92], 37) := by decide +kernel
theorem dX5_count_40 : decode cX5_count 40 = .ok (.aload_n 0, 1) := by decide +kernel
theorem dX5_count_41 : decode cX5_count 41 = .ok (.getfield 60, 3) := by decide +kernel
theorem dX5_count_44 : decode cX5_count 44 = .ok (.ireturn, 1) := by decide +kernel
theorem dX5_count_45 : decode cX5_count 45 = .ok (.aload_n 0, 1) := by decide +kernel
theorem dX5_count_46 : decode cX5_count 46 = .ok (.getfield 63, 3) := by decide +kernel
theorem dX5_count_49 : decode cX5_count 49 = .ok (.ireturn, 1) := by decide +kernel
theorem dX5_count_50 : decode cX5_count 50 = .ok (.iconst 0, 1) := by decide +kernel
theorem dX5_count_51 : decode cX5_count 51 = .ok (.istore_n 3, 1) := by decide +kernel
theorem dX5_count_52 : decode cX5_count 52 = .ok (.iload_n 3, 1) := by decide +kernel
theorem dX5_count_53 : decode cX5_count 53 = .ok (.aload_n 0, 1) := by decide +kernel
theorem dX5_count_54 : decode cX5_count 54 = .ok (.getfield 63, 3) := by decide +kernel
theorem dX5_count_57 : decode cX5_count 57 = .ok (.if_icmp .ge 26, 3) := by decide +kernel
theorem dX5_count_60 : decode cX5_count 60 = .ok (.iload_n 2, 1) := by decide +kernel
theorem dX5_count_61 : decode cX5_count 61 = .ok (.aload_n 0, 1) := by decide +kernel
theorem dX5_count_62 : decode cX5_count 62 = .ok (.getfield 13, 3) := by decide +kernel
theorem dX5_count_65 : decode cX5_count 65 = .ok (.iload_n 3, 1) := by decide +kernel
theorem dX5_count_66 : decode cX5_count 66 = .ok (.iaload, 1) := by decide +kernel
theorem dX5_count_67 : decode cX5_count 67 = .ok (.ifCond .le 7, 3) := by decide +kernel
theorem dX5_count_70 : decode cX5_count 70 = .ok (.iconst 1, 1) := by decide +kernel
theorem dX5_count_71 : decode cX5_count 71 = .ok (.goto 4, 3) := by decide +kernel
theorem dX5_count_74 : decode cX5_count 74 = .ok (.iconst 0, 1) := by decide +kernel
theorem dX5_count_75 : decode cX5_count 75 = .ok (.iadd, 1) := by decide +kernel
theorem dX5_count_76 : decode cX5_count 76 = .ok (.istore_n 2, 1) := by decide +kernel
theorem dX5_count_77 : decode cX5_count 77 = .ok (.iinc 3 1, 3) := by decide +kernel
theorem dX5_count_80 : decode cX5_count 80 = .ok (.goto (-28), 3) := by decide +kernel
theorem dX5_count_83 : decode cX5_count 83 = .ok (.iload_n 2, 1) := by decide +kernel
theorem dX5_count_84 : decode cX5_count 84 = .ok (.ireturn, 1) := by decide +kernel
theorem dX5_count_85 : decode cX5_count 85 = .ok (.aload_n 0, 1) := by decide +kernel
theorem dX5_count_86 : decode cX5_count 86 = .ok (.getfield 131, 3) := by decide +kernel
theorem dX5_count_89 : decode cX5_count 89 = .ok (.ireturn, 1) := by decide +kernel
theorem dX5_count_90 : decode cX5_count 90 = .ok (.aload_n 0, 1) := by decide +kernel
theorem dX5_count_91 : decode cX5_count 91 = .ok (.getfield 37, 3) := by decide +kernel
theorem dX5_count_94 : decode cX5_count 94 = .ok (.ireturn, 1) := by decide +kernel
theorem dX5_count_95 : decode cX5_count 95 = .ok (.iconst 0, 1) := by decide +kernel
theorem dX5_count_96 : decode cX5_count 96 = .ok (.istore_n 3, 1) := by decide +kernel
theorem dX5_count_97 : decode cX5_count 97 = .ok (.iload_n 3, 1) := by decide +kernel
theorem dX5_count_98 : decode cX5_count 98 = .ok (.aload_n 0, 1) := by decide +kernel
theorem dX5_count_99 : decode cX5_count 99 = .ok (.getfield 63, 3) := by decide +kernel
theorem dX5_count_102 : decode cX5_count 102 = .ok (.if_icmp .ge 18, 3) := by decide +kernel
theorem dX5_count_105 : decode cX5_count 105 = .ok (.iload_n 2, 1) := by decide +kernel
theorem dX5_count_106 : decode cX5_count 106 = .ok (.aload_n 0, 1) := by decide +kernel
theorem dX5_count_107 : decode cX5_count 107 = .ok (.getfield 13, 3) := by decide +kernel
theorem dX5_count_110 : decode cX5_count 110 = .ok (.iload_n 3, 1) := by decide +kernel
theorem dX5_count_111 : decode cX5_count 111 = .ok (.iaload, 1) := by decide +kernel
theorem dX5_count_112 : decode cX5_count 112 = .ok (.iadd, 1) := by decide +kernel
theorem dX5_count_113 : decode cX5_count 113 = .ok (.istore_n 2, 1) := by decide +kernel
theorem dX5_count_114 : decode cX5_count 114 = .ok (.iinc 3 1, 3) := by decide +kernel
theorem dX5_count_117 : decode cX5_count 117 = .ok (.goto (-20), 3) := by decide +kernel
theorem dX5_count_120 : decode cX5_count 120 = .ok (.iload_n 2, 1) := by decide +kernel
theorem dX5_count_121 : decode cX5_count 121 = .ok (.ireturn, 1) := by decide +kernel
theorem dX5_count_122 : decode cX5_count 122 = .ok (.iconst (-1), 1) := by decide +kernel
theorem dX5_count_123 : decode cX5_count 123 = .ok (.ireturn, 1) := by decide +kernel
theorem dX5_trace_0 : decode cX5_trace 0 = .ok (.aload_n 0, 1) := by decide +kernel
theorem dX5_trace_1 : decode cX5_trace 1 = .ok (.getfield 85, 3) := by decide +kernel
theorem dX5_trace_4 : decode cX5_trace 4 = .ok (.lreturn, 1) := by decide +kernel
theorem dJ9_max_7cf53_0 : decode cJ9_max_7cf53 0 = .ok (.iload_n 0, 1) := by decide +kernel
theorem dJ9_max_7cf53_1 : decode cJ9_max_7cf53 1 = .ok (.iload_n 1, 1) := by decide +kernel
theorem dJ9_max_7cf53_2 : decode cJ9_max_7cf53 2 = .ok (.if_icmp .lt 7, 3) := by decide +kernel
theorem dJ9_max_7cf53_5 : decode cJ9_max_7cf53 5 = .ok (.iload_n 0, 1) := by decide +kernel
theorem dJ9_max_7cf53_6 : decode cJ9_max_7cf53 6 = .ok (.goto 4, 3) := by decide +kernel
theorem dJ9_max_7cf53_9 : decode cJ9_max_7cf53 9 = .ok (.iload_n 1, 1) := by decide +kernel
theorem dJ9_max_7cf53_10 : decode cJ9_max_7cf53 10 = .ok (.ireturn, 1) := by decide +kernel
theorem dJ9_min_7cf53_0 : decode cJ9_min_7cf53 0 = .ok (.iload_n 0, 1) := by decide +kernel
theorem dJ9_min_7cf53_1 : decode cJ9_min_7cf53 1 = .ok (.iload_n 1, 1) := by decide +kernel
theorem dJ9_min_7cf53_2 : decode cJ9_min_7cf53 2 = .ok (.if_icmp .gt 7, 3) := by decide +kernel
theorem dJ9_min_7cf53_5 : decode cJ9_min_7cf53 5 = .ok (.iload_n 0, 1) := by decide +kernel
theorem dJ9_min_7cf53_6 : decode cJ9_min_7cf53 6 = .ok (.goto 4, 3) := by decide +kernel
theorem dJ9_min_7cf53_9 : decode cJ9_min_7cf53 9 = .ok (.iload_n 1, 1) := by decide +kernel
theorem dJ9_min_7cf53_10 : decode cJ9_min_7cf53 10 = .ok (.ireturn, 1) := by decide +kernel
theorem dL_law_0 : decode cL_law 0 = .ok (.new 7, 3) := by decide +kernel
theorem dL_law_3 : decode cL_law 3 = .ok (.dup, 1) := by decide +kernel
theorem dL_law_4 : decode cL_law 4 = .ok (.invokespecial 9, 3) := by decide +kernel
theorem dL_law_7 : decode cL_law 7 = .ok (.astore_n 1, 1) := by decide +kernel
theorem dL_law_8 : decode cL_law 8 = .ok (.new 10, 3) := by decide +kernel
theorem dL_law_11 : decode cL_law 11 = .ok (.dup, 1) := by decide +kernel
theorem dL_law_12 : decode cL_law 12 = .ok (.invokespecial 12, 3) := by decide +kernel
theorem dL_law_15 : decode cL_law 15 = .ok (.astore_n 2, 1) := by decide +kernel
theorem dL_law_16 : decode cL_law 16 = .ok (.iconst 0, 1) := by decide +kernel
theorem dL_law_17 : decode cL_law 17 = .ok (.istore_n 3, 1) := by decide +kernel
theorem dL_law_18 : decode cL_law 18 = .ok (.iload_n 3, 1) := by decide +kernel
theorem dL_law_19 : decode cL_law 19 = .ok (.aload_n 0, 1) := by decide +kernel
theorem dL_law_20 : decode cL_law 20 = .ok (.arraylength, 1) := by decide +kernel
theorem dL_law_21 : decode cL_law 21 = .ok (.bipush 6, 2) := by decide +kernel
theorem dL_law_23 : decode cL_law 23 = .ok (.isub, 1) := by decide +kernel
theorem dL_law_24 : decode cL_law 24 = .ok (.if_icmp .gt 759, 3) := by decide +kernel
theorem dL_law_27 : decode cL_law 27 = .ok (.aload_n 0, 1) := by decide +kernel
theorem dL_law_28 : decode cL_law 28 = .ok (.iload_n 3, 1) := by decide +kernel
theorem dL_law_29 : decode cL_law 29 = .ok (.iaload, 1) := by decide +kernel
theorem dL_law_30 : decode cL_law 30 = .ok (.bipush 31, 2) := by decide +kernel
theorem dL_law_32 : decode cL_law 32 = .ok (.iand, 1) := by decide +kernel
theorem dL_law_33 : decode cL_law 33 = .ok (.tableswitch 744 0 20 #[99, 162, 185, 228, 261, 294, 327, 360, 393, 416, 449, 482, 505, 528, 562, 595, 638, 651, 664, 707, 730], 99) := by decide +kernel
theorem dL_law_132 : decode cL_law 132 = .ok (.aload_n 1, 1) := by decide +kernel
theorem dL_law_133 : decode cL_law 133 = .ok (.aload_n 0, 1) := by decide +kernel
theorem dL_law_134 : decode cL_law 134 = .ok (.iload_n 3, 1) := by decide +kernel
theorem dL_law_135 : decode cL_law 135 = .ok (.iconst 1, 1) := by decide +kernel
theorem dL_law_136 : decode cL_law 136 = .ok (.iadd, 1) := by decide +kernel
theorem dL_law_137 : decode cL_law 137 = .ok (.iaload, 1) := by decide +kernel
theorem dL_law_138 : decode cL_law 138 = .ok (.aload_n 0, 1) := by decide +kernel
theorem dL_law_139 : decode cL_law 139 = .ok (.iload_n 3, 1) := by decide +kernel
theorem dL_law_140 : decode cL_law 140 = .ok (.iconst 2, 1) := by decide +kernel
theorem dL_law_141 : decode cL_law 141 = .ok (.iadd, 1) := by decide +kernel
theorem dL_law_142 : decode cL_law 142 = .ok (.iaload, 1) := by decide +kernel
theorem dL_law_143 : decode cL_law 143 = .ok (.aload_n 0, 1) := by decide +kernel
theorem dL_law_144 : decode cL_law 144 = .ok (.iload_n 3, 1) := by decide +kernel
theorem dL_law_145 : decode cL_law 145 = .ok (.iconst 3, 1) := by decide +kernel
theorem dL_law_146 : decode cL_law 146 = .ok (.iadd, 1) := by decide +kernel
theorem dL_law_147 : decode cL_law 147 = .ok (.iaload, 1) := by decide +kernel
theorem dL_law_148 : decode cL_law 148 = .ok (.aload_n 0, 1) := by decide +kernel
theorem dL_law_149 : decode cL_law 149 = .ok (.iload_n 3, 1) := by decide +kernel
theorem dL_law_150 : decode cL_law 150 = .ok (.iconst 4, 1) := by decide +kernel
theorem dL_law_151 : decode cL_law 151 = .ok (.iadd, 1) := by decide +kernel
theorem dL_law_152 : decode cL_law 152 = .ok (.iaload, 1) := by decide +kernel
theorem dL_law_153 : decode cL_law 153 = .ok (.aload_n 0, 1) := by decide +kernel
theorem dL_law_154 : decode cL_law 154 = .ok (.iload_n 3, 1) := by decide +kernel
theorem dL_law_155 : decode cL_law 155 = .ok (.iconst 5, 1) := by decide +kernel
theorem dL_law_156 : decode cL_law 156 = .ok (.iadd, 1) := by decide +kernel
theorem dL_law_157 : decode cL_law 157 = .ok (.iaload, 1) := by decide +kernel
theorem dL_law_158 : decode cL_law 158 = .ok (.invokevirtual 13, 3) := by decide +kernel
theorem dL_law_161 : decode cL_law 161 = .ok (.aload_n 2, 1) := by decide +kernel
theorem dL_law_162 : decode cL_law 162 = .ok (.aload_n 0, 1) := by decide +kernel
theorem dL_law_163 : decode cL_law 163 = .ok (.iload_n 3, 1) := by decide +kernel
theorem dL_law_164 : decode cL_law 164 = .ok (.iconst 1, 1) := by decide +kernel
theorem dL_law_165 : decode cL_law 165 = .ok (.iadd, 1) := by decide +kernel
theorem dL_law_166 : decode cL_law 166 = .ok (.iaload, 1) := by decide +kernel
theorem dL_law_167 : decode cL_law 167 = .ok (.aload_n 0, 1) := by decide +kernel
theorem dL_law_168 : decode cL_law 168 = .ok (.iload_n 3, 1) := by decide +kernel
theorem dL_law_169 : decode cL_law 169 = .ok (.iconst 2, 1) := by decide +kernel
theorem dL_law_170 : decode cL_law 170 = .ok (.iadd, 1) := by decide +kernel
theorem dL_law_171 : decode cL_law 171 = .ok (.iaload, 1) := by decide +kernel
theorem dL_law_172 : decode cL_law 172 = .ok (.aload_n 0, 1) := by decide +kernel
theorem dL_law_173 : decode cL_law 173 = .ok (.iload_n 3, 1) := by decide +kernel
theorem dL_law_174 : decode cL_law 174 = .ok (.iconst 3, 1) := by decide +kernel
theorem dL_law_175 : decode cL_law 175 = .ok (.iadd, 1) := by decide +kernel
theorem dL_law_176 : decode cL_law 176 = .ok (.iaload, 1) := by decide +kernel
theorem dL_law_177 : decode cL_law 177 = .ok (.aload_n 0, 1) := by decide +kernel
theorem dL_law_178 : decode cL_law 178 = .ok (.iload_n 3, 1) := by decide +kernel
theorem dL_law_179 : decode cL_law 179 = .ok (.iconst 4, 1) := by decide +kernel
theorem dL_law_180 : decode cL_law 180 = .ok (.iadd, 1) := by decide +kernel
theorem dL_law_181 : decode cL_law 181 = .ok (.iaload, 1) := by decide +kernel
theorem dL_law_182 : decode cL_law 182 = .ok (.aload_n 0, 1) := by decide +kernel
theorem dL_law_183 : decode cL_law 183 = .ok (.iload_n 3, 1) := by decide +kernel
theorem dL_law_184 : decode cL_law 184 = .ok (.iconst 5, 1) := by decide +kernel
theorem dL_law_185 : decode cL_law 185 = .ok (.iadd, 1) := by decide +kernel
theorem dL_law_186 : decode cL_law 186 = .ok (.iaload, 1) := by decide +kernel
theorem dL_law_187 : decode cL_law 187 = .ok (.invokevirtual 17, 3) := by decide +kernel
theorem dL_law_190 : decode cL_law 190 = .ok (.if_icmp .eq 587, 3) := by decide +kernel
theorem dL_law_193 : decode cL_law 193 = .ok (.iconst 0, 1) := by decide +kernel
theorem dL_law_194 : decode cL_law 194 = .ok (.ireturn, 1) := by decide +kernel
theorem dL_law_195 : decode cL_law 195 = .ok (.aload_n 1, 1) := by decide +kernel
theorem dL_law_196 : decode cL_law 196 = .ok (.aload_n 0, 1) := by decide +kernel
theorem dL_law_197 : decode cL_law 197 = .ok (.iload_n 3, 1) := by decide +kernel
theorem dL_law_198 : decode cL_law 198 = .ok (.iconst 1, 1) := by decide +kernel
theorem dL_law_199 : decode cL_law 199 = .ok (.iadd, 1) := by decide +kernel
theorem dL_law_200 : decode cL_law 200 = .ok (.iaload, 1) := by decide +kernel
theorem dL_law_201 : decode cL_law 201 = .ok (.invokevirtual 18, 3) := by decide +kernel
theorem dL_law_204 : decode cL_law 204 = .ok (.aload_n 2, 1) := by decide +kernel
theorem dL_law_205 : decode cL_law 205 = .ok (.aload_n 0, 1) := by decide +kernel
