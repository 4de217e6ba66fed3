theorem dX5_oneYear_92 : decode cX5_oneYear 92 = .ok (.getfield 28, 3) := by decide +kernel
theorem dX5_oneYear_95 : decode cX5_oneYear 95 = .ok (.iload_n 1, 1) := by decide +kernel
theorem dX5_oneYear_96 : decode cX5_oneYear 96 = .ok (.iaload, 1) := by decide +kernel
theorem dX5_oneYear_97 : decode cX5_oneYear 97 = .ok (.bipush 9, 2) := by decide +kernel
theorem dX5_oneYear_99 : decode cX5_oneYear 99 = .ok (.iadd, 1) := by decide +kernel
theorem dX5_oneYear_100 : decode cX5_oneYear 100 = .ok (.bipush 10, 2) := by decide +kernel
theorem dX5_oneYear_102 : decode cX5_oneYear 102 = .ok (.idiv, 1) := by decide +kernel
theorem dX5_oneYear_103 : decode cX5_oneYear 103 = .ok (.isub, 1) := by decide +kernel
theorem dX5_oneYear_104 : decode cX5_oneYear 104 = .ok (.iastore, 1) := by decide +kernel
theorem dX5_oneYear_105 : decode cX5_oneYear 105 = .ok (.aload_n 0, 1) := by decide +kernel
theorem dX5_oneYear_106 : decode cX5_oneYear 106 = .ok (.getfield 31, 3) := by decide +kernel
theorem dX5_oneYear_109 : decode cX5_oneYear 109 = .ok (.iload_n 1, 1) := by decide +kernel
theorem dX5_oneYear_110 : decode cX5_oneYear 110 = .ok (.dup2, 1) := by decide +kernel
theorem dX5_oneYear_111 : decode cX5_oneYear 111 = .ok (.iaload, 1) := by decide +kernel
theorem dX5_oneYear_112 : decode cX5_oneYear 112 = .ok (.bipush 6, 2) := by decide +kernel
theorem dX5_oneYear_114 : decode cX5_oneYear 114 = .ok (.iconst 2, 1) := by decide +kernel
theorem dX5_oneYear_115 : decode cX5_oneYear 115 = .ok (.aload_n 0, 1) := by decide +kernel
theorem dX5_oneYear_116 : decode cX5_oneYear 116 = .ok (.getfield 7, 3) := by decide +kernel
theorem dX5_oneYear_119 : decode cX5_oneYear 119 = .ok (.iload_n 1, 1) := by decide +kernel
theorem dX5_oneYear_120 : decode cX5_oneYear 120 = .ok (.iaload, 1) := by decide +kernel
theorem dX5_oneYear_121 : decode cX5_oneYear 121 = .ok (.imul, 1) := by decide +kernel
theorem dX5_oneYear_122 : decode cX5_oneYear 122 = .ok (.isub, 1) := by decide +kernel
theorem dX5_oneYear_123 : decode cX5_oneYear 123 = .ok (.iadd, 1) := by decide +kernel
theorem dX5_oneYear_124 : decode cX5_oneYear 124 = .ok (.iastore, 1) := by decide +kernel
theorem dX5_oneYear_125 : decode cX5_oneYear 125 = .ok (.aload_n 0, 1) := by decide +kernel
theorem dX5_oneYear_126 : decode cX5_oneYear 126 = .ok (.getfield 16, 3) := by decide +kernel
theorem dX5_oneYear_129 : decode cX5_oneYear 129 = .ok (.iload_n 1, 1) := by decide +kernel
theorem dX5_oneYear_130 : decode cX5_oneYear 130 = .ok (.aload_n 0, 1) := by decide +kernel
theorem dX5_oneYear_131 : decode cX5_oneYear 131 = .ok (.getfield 16, 3) := by decide +kernel
theorem dX5_oneYear_134 : decode cX5_oneYear 134 = .ok (.iload_n 1, 1) := by decide +kernel
theorem dX5_oneYear_135 : decode cX5_oneYear 135 = .ok (.iaload, 1) := by decide +kernel
theorem dX5_oneYear_136 : decode cX5_oneYear 136 = .ok (.sipush 403, 3) := by decide +kernel
theorem dX5_oneYear_139 : decode cX5_oneYear 139 = .ok (.if_icmp .le 14, 3) := by decide +kernel
theorem dX5_oneYear_142 : decode cX5_oneYear 142 = .ok (.aload_n 0, 1) := by decide +kernel
theorem dX5_oneYear_143 : decode cX5_oneYear 143 = .ok (.getfield 16, 3) := by decide +kernel
theorem dX5_oneYear_146 : decode cX5_oneYear 146 = .ok (.iload_n 1, 1) := by decide +kernel
theorem dX5_oneYear_147 : decode cX5_oneYear 147 = .ok (.iaload, 1) := by decide +kernel
theorem dX5_oneYear_148 : decode cX5_oneYear 148 = .ok (.iconst 3, 1) := by decide +kernel
theorem dX5_oneYear_149 : decode cX5_oneYear 149 = .ok (.isub, 1) := by decide +kernel
theorem dX5_oneYear_150 : decode cX5_oneYear 150 = .ok (.goto 6, 3) := by decide +kernel
theorem dX5_oneYear_153 : decode cX5_oneYear 153 = .ok (.sipush 400, 3) := by decide +kernel
theorem dX5_oneYear_156 : decode cX5_oneYear 156 = .ok (.iastore, 1) := by decide +kernel
theorem dX5_oneYear_157 : decode cX5_oneYear 157 = .ok (.iinc 1 1, 3) := by decide +kernel
theorem dX5_oneYear_160 : decode cX5_oneYear 160 = .ok (.goto (-158), 3) := by decide +kernel
theorem dX5_oneYear_163 : decode cX5_oneYear 163 = .ok (.aload_n 0, 1) := by decide +kernel
theorem dX5_oneYear_164 : decode cX5_oneYear 164 = .ok (.dup, 1) := by decide +kernel
theorem dX5_oneYear_165 : decode cX5_oneYear 165 = .ok (.getfield 60, 3) := by decide +kernel
theorem dX5_oneYear_168 : decode cX5_oneYear 168 = .ok (.iconst 1, 1) := by decide +kernel
theorem dX5_oneYear_169 : decode cX5_oneYear 169 = .ok (.iadd, 1) := by decide +kernel
theorem dX5_oneYear_170 : decode cX5_oneYear 170 = .ok (.putfield 60, 3) := by decide +kernel
theorem dX5_oneYear_173 : decode cX5_oneYear 173 = .ok (.return_, 1) := by decide +kernel
theorem dX5_years_0 : decode cX5_years 0 = .ok (.iload_n 1, 1) := by decide +kernel
theorem dX5_years_1 : decode cX5_years 1 = .ok (.iconst 1, 1) := by decide +kernel
theorem dX5_years_2 : decode cX5_years 2 = .ok (.bipush 30, 2) := by decide +kernel
theorem dX5_years_4 : decode cX5_years 4 = .ok (.invokestatic 66, 3) := by decide +kernel
theorem dX5_years_7 : decode cX5_years 7 = .ok (.ifCond .ne 5, 3) := by decide +kernel
theorem dX5_years_10 : decode cX5_years 10 = .ok (.iconst (-1), 1) := by decide +kernel
theorem dX5_years_11 : decode cX5_years 11 = .ok (.ireturn, 1) := by decide +kernel
theorem dX5_years_12 : decode cX5_years 12 = .ok (.aload_n 0, 1) := by decide +kernel
theorem dX5_years_13 : decode cX5_years 13 = .ok (.getfield 60, 3) := by decide +kernel
theorem dX5_years_16 : decode cX5_years 16 = .ok (.iload_n 1, 1) := by decide +kernel
theorem dX5_years_17 : decode cX5_years 17 = .ok (.iadd, 1) := by decide +kernel
theorem dX5_years_18 : decode cX5_years 18 = .ok (.bipush 60, 2) := by decide +kernel
theorem dX5_years_20 : decode cX5_years 20 = .ok (.if_icmp .le 6, 3) := by decide +kernel
theorem dX5_years_23 : decode cX5_years 23 = .ok (.bipush (-2), 2) := by decide +kernel
theorem dX5_years_25 : decode cX5_years 25 = .ok (.ireturn, 1) := by decide +kernel
theorem dX5_years_26 : decode cX5_years 26 = .ok (.iconst 0, 1) := by decide +kernel
theorem dX5_years_27 : decode cX5_years 27 = .ok (.istore_n 2, 1) := by decide +kernel
theorem dX5_years_28 : decode cX5_years 28 = .ok (.iload_n 2, 1) := by decide +kernel
theorem dX5_years_29 : decode cX5_years 29 = .ok (.iload_n 1, 1) := by decide +kernel
theorem dX5_years_30 : decode cX5_years 30 = .ok (.if_icmp .ge 13, 3) := by decide +kernel
theorem dX5_years_33 : decode cX5_years 33 = .ok (.aload_n 0, 1) := by decide +kernel
theorem dX5_years_34 : decode cX5_years 34 = .ok (.invokevirtual 78, 3) := by decide +kernel
theorem dX5_years_37 : decode cX5_years 37 = .ok (.iinc 2 1, 3) := by decide +kernel
theorem dX5_years_40 : decode cX5_years 40 = .ok (.goto (-12), 3) := by decide +kernel
theorem dX5_years_43 : decode cX5_years 43 = .ok (.aload_n 0, 1) := by decide +kernel
theorem dX5_years_44 : decode cX5_years 44 = .ok (.getfield 60, 3) := by decide +kernel
theorem dX5_years_47 : decode cX5_years 47 = .ok (.ireturn, 1) := by decide +kernel
theorem dX5_loss_0 : decode cX5_loss 0 = .ok (.aload_n 0, 1) := by decide +kernel
theorem dX5_loss_1 : decode cX5_loss 1 = .ok (.iload_n 1, 1) := by decide +kernel
theorem dX5_loss_2 : decode cX5_loss 2 = .ok (.invokevirtual 81, 3) := by decide +kernel
theorem dX5_loss_5 : decode cX5_loss 5 = .ok (.ifCond .eq 22, 3) := by decide +kernel
theorem dX5_loss_8 : decode cX5_loss 8 = .ok (.iload_n 2, 1) := by decide +kernel
theorem dX5_loss_9 : decode cX5_loss 9 = .ok (.iconst 0, 1) := by decide +kernel
theorem dX5_loss_10 : decode cX5_loss 10 = .ok (.iconst 2, 1) := by decide +kernel
theorem dX5_loss_11 : decode cX5_loss 11 = .ok (.invokestatic 66, 3) := by decide +kernel
theorem dX5_loss_14 : decode cX5_loss 14 = .ok (.ifCond .eq 13, 3) := by decide +kernel
theorem dX5_loss_17 : decode cX5_loss 17 = .ok (.iload_n 3, 1) := by decide +kernel
theorem dX5_loss_18 : decode cX5_loss 18 = .ok (.iconst 0, 1) := by decide +kernel
theorem dX5_loss_19 : decode cX5_loss 19 = .ok (.bipush 60, 2) := by decide +kernel
theorem dX5_loss_21 : decode cX5_loss 21 = .ok (.invokestatic 66, 3) := by decide +kernel
theorem dX5_loss_24 : decode cX5_loss 24 = .ok (.ifCond .ne 5, 3) := by decide +kernel
theorem dX5_loss_27 : decode cX5_loss 27 = .ok (.iconst (-1), 1) := by decide +kernel
theorem dX5_loss_28 : decode cX5_loss 28 = .ok (.ireturn, 1) := by decide +kernel
theorem dX5_loss_29 : decode cX5_loss 29 = .ok (.aload_n 0, 1) := by decide +kernel
theorem dX5_loss_30 : decode cX5_loss 30 = .ok (.dup, 1) := by decide +kernel
theorem dX5_loss_31 : decode cX5_loss 31 = .ok (.getfield 85, 3) := by decide +kernel
theorem dX5_loss_34 : decode cX5_loss 34 = .ok (.iload_n 2, 1) := by decide +kernel
theorem dX5_loss_35 : decode cX5_loss 35 = .ok (.ifCond .ne 7, 3) := by decide +kernel
theorem dX5_loss_38 : decode cX5_loss 38 = .ok (.lconst 1, 1) := by decide +kernel
theorem dX5_loss_39 : decode cX5_loss 39 = .ok (.goto 17, 3) := by decide +kernel
theorem dX5_loss_42 : decode cX5_loss 42 = .ok (.iload_n 2, 1) := by decide +kernel
theorem dX5_loss_43 : decode cX5_loss 43 = .ok (.iconst 1, 1) := by decide +kernel
theorem dX5_loss_44 : decode cX5_loss 44 = .ok (.if_icmp .ne 9, 3) := by decide +kernel
theorem dX5_loss_47 : decode cX5_loss 47 = .ok (.ldc2_w 89, 3) := by decide +kernel
theorem dX5_loss_50 : decode cX5_loss 50 = .ok (.goto 6, 3) := by decide +kernel
theorem dX5_loss_53 : decode cX5_loss 53 = .ok (.ldc2_w 91, 3) := by decide +kernel
theorem dX5_loss_56 : decode cX5_loss 56 = .ok (.ladd, 1) := by decide +kernel
theorem dX5_loss_57 : decode cX5_loss 57 = .ok (.putfield 85, 3) := by decide +kernel
theorem dX5_loss_60 : decode cX5_loss 60 = .ok (.aload_n 0, 1) := by decide +kernel
theorem dX5_loss_61 : decode cX5_loss 61 = .ok (.iload_n 1, 1) := by decide +kernel
theorem dX5_loss_62 : decode cX5_loss 62 = .ok (.iload_n 2, 1) := by decide +kernel
theorem dX5_loss_63 : decode cX5_loss 63 = .ok (.iload_n 3, 1) := by decide +kernel
theorem dX5_loss_64 : decode cX5_loss 64 = .ok (.invokevirtual 70, 3) := by decide +kernel
theorem dX5_loss_67 : decode cX5_loss 67 = .ok (.ireturn, 1) := by decide +kernel
theorem dX5_ageOf_0 : decode cX5_ageOf 0 = .ok (.aload_n 0, 1) := by decide +kernel
theorem dX5_ageOf_1 : decode cX5_ageOf 1 = .ok (.getfield 60, 3) := by decide +kernel
theorem dX5_ageOf_4 : decode cX5_ageOf 4 = .ok (.aload_n 0, 1) := by decide +kernel
theorem dX5_ageOf_5 : decode cX5_ageOf 5 = .ok (.getfield 22, 3) := by decide +kernel
theorem dX5_ageOf_8 : decode cX5_ageOf 8 = .ok (.iload_n 1, 1) := by decide +kernel
theorem dX5_ageOf_9 : decode cX5_ageOf 9 = .ok (.iaload, 1) := by decide +kernel
theorem dX5_ageOf_10 : decode cX5_ageOf 10 = .ok (.isub, 1) := by decide +kernel
theorem dX5_ageOf_11 : decode cX5_ageOf 11 = .ok (.ireturn, 1) := by decide +kernel
theorem dX5_costOf_0 : decode cX5_costOf 0 = .ok (.aload_n 0, 1) := by decide +kernel
theorem dX5_costOf_1 : decode cX5_costOf 1 = .ok (.getfield 13, 3) := by decide +kernel
theorem dX5_costOf_4 : decode cX5_costOf 4 = .ok (.iload_n 1, 1) := by decide +kernel
theorem dX5_costOf_5 : decode cX5_costOf 5 = .ok (.iaload, 1) := by decide +kernel
theorem dX5_costOf_6 : decode cX5_costOf 6 = .ok (.bipush 20, 2) := by decide +kernel
theorem dX5_costOf_8 : decode cX5_costOf 8 = .ok (.iconst 3, 1) := by decide +kernel
theorem dX5_costOf_9 : decode cX5_costOf 9 = .ok (.aload_n 0, 1) := by decide +kernel
theorem dX5_costOf_10 : decode cX5_costOf 10 = .ok (.iload_n 1, 1) := by decide +kernel
theorem dX5_costOf_11 : decode cX5_costOf 11 = .ok (.invokevirtual 93, 3) := by decide +kernel
theorem dX5_costOf_14 : decode cX5_costOf 14 = .ok (.imul, 1) := by decide +kernel
theorem dX5_costOf_15 : decode cX5_costOf 15 = .ok (.iadd, 1) := by decide +kernel
theorem dX5_costOf_16 : decode cX5_costOf 16 = .ok (.imul, 1) := by decide +kernel
theorem dX5_costOf_17 : decode cX5_costOf 17 = .ok (.bipush 99, 2) := by decide +kernel
theorem dX5_costOf_19 : decode cX5_costOf 19 = .ok (.iadd, 1) := by decide +kernel
theorem dX5_costOf_20 : decode cX5_costOf 20 = .ok (.bipush 100, 2) := by decide +kernel
theorem dX5_costOf_22 : decode cX5_costOf 22 = .ok (.idiv, 1) := by decide +kernel
theorem dX5_costOf_23 : decode cX5_costOf 23 = .ok (.ireturn, 1) := by decide +kernel
theorem dX5_about_0 : decode cX5_about 0 = .ok (.aload_n 0, 1) := by decide +kernel
theorem dX5_about_1 : decode cX5_about 1 = .ok (.iload_n 1, 1) := by decide +kernel
theorem dX5_about_2 : decode cX5_about 2 = .ok (.invokevirtual 81, 3) := by decide +kernel
theorem dX5_about_5 : decode cX5_about 5 = .ok (.ifCond .ne 5, 3) := by decide +kernel
theorem dX5_about_8 : decode cX5_about 8 = .ok (.iconst (-1), 1) := by decide +kernel
theorem dX5_about_9 : decode cX5_about 9 = .ok (.ireturn, 1) := by decide +kernel
theorem dX5_about_10 : decode cX5_about 10 = .ok (.iload_n 2, 1) := by decide +kernel
theorem dX5_about_11 : decode cX5_about 11 = .ok (.tableswitch 110 0 8 #[49, 56, 63, 69, 76, 83, 90, 97, 104], 49) := by decide +kernel
theorem dX5_about_60 : decode cX5_about 60 = .ok (.aload_n 0, 1) := by decide +kernel
theorem dX5_about_61 : decode cX5_about 61 = .ok (.getfield 13, 3) := by decide +kernel
theorem dX5_about_64 : decode cX5_about 64 = .ok (.iload_n 1, 1) := by decide +kernel
theorem dX5_about_65 : decode cX5_about 65 = .ok (.iaload, 1) := by decide +kernel
theorem dX5_about_66 : decode cX5_about 66 = .ok (.ireturn, 1) := by decide +kernel
theorem dX5_about_67 : decode cX5_about 67 = .ok (.aload_n 0, 1) := by decide +kernel
theorem dX5_about_68 : decode cX5_about 68 = .ok (.getfield 16, 3) := by decide +kernel
theorem dX5_about_71 : decode cX5_about 71 = .ok (.iload_n 1, 1) := by decide +kernel
theorem dX5_about_72 : decode cX5_about 72 = .ok (.iaload, 1) := by decide +kernel
theorem dX5_about_73 : decode cX5_about 73 = .ok (.ireturn, 1) := by decide +kernel
theorem dX5_about_74 : decode cX5_about 74 = .ok (.aload_n 0, 1) := by decide +kernel
theorem dX5_about_75 : decode cX5_about 75 = .ok (.iload_n 1, 1) := by decide +kernel
theorem dX5_about_76 : decode cX5_about 76 = .ok (.invokevirtual 93, 3) := by decide +kernel
theorem dX5_about_79 : decode cX5_about 79 = .ok (.ireturn, 1) := by decide +kernel
theorem dX5_about_80 : decode cX5_about 80 = .ok (.aload_n 0, 1) := by decide +kernel
theorem dX5_about_81 : decode cX5_about 81 = .ok (.getfield 25, 3) := by decide +kernel
theorem dX5_about_84 : decode cX5_about 84 = .ok (.iload_n 1, 1) := by decide +kernel
theorem dX5_about_85 : decode cX5_about 85 = .ok (.iaload, 1) := by decide +kernel
theorem dX5_about_86 : decode cX5_about 86 = .ok (.ireturn, 1) := by decide +kernel
theorem dX5_about_87 : decode cX5_about 87 = .ok (.aload_n 0, 1) := by decide +kernel
theorem dX5_about_88 : decode cX5_about 88 = .ok (.getfield 28, 3) := by decide +kernel
theorem dX5_about_91 : decode cX5_about 91 = .ok (.iload_n 1, 1) := by decide +kernel
theorem dX5_about_92 : decode cX5_about 92 = .ok (.iaload, 1) := by decide +kernel
theorem dX5_about_93 : decode cX5_about 93 = .ok (.ireturn, 1) := by decide +kernel
theorem dX5_about_94 : decode cX5_about 94 = .ok (.aload_n 0, 1) := by decide +kernel
theorem dX5_about_95 : decode cX5_about 95 = .ok (.getfield 31, 3) := by decide +kernel
theorem dX5_about_98 : decode cX5_about 98 = .ok (.iload_n 1, 1) := by decide +kernel
theorem dX5_about_99 : decode cX5_about 99 = .ok (.iaload, 1) := by decide +kernel
theorem dX5_about_100 : decode cX5_about 100 = .ok (.ireturn, 1) := by decide +kernel
theorem dX5_about_101 : decode cX5_about 101 = .ok (.aload_n 0, 1) := by decide +kernel
theorem dX5_about_102 : decode cX5_about 102 = .ok (.getfield 7, 3) := by decide +kernel
theorem dX5_about_105 : decode cX5_about 105 = .ok (.iload_n 1, 1) := by decide +kernel
theorem dX5_about_106 : decode cX5_about 106 = .ok (.iaload, 1) := by decide +kernel
theorem dX5_about_107 : decode cX5_about 107 = .ok (.ireturn, 1) := by decide +kernel
theorem dX5_about_108 : decode cX5_about 108 = .ok (.aload_n 0, 1) := by decide +kernel
theorem dX5_about_109 : decode cX5_about 109 = .ok (.getfield 19, 3) := by decide +kernel
theorem dX5_about_112 : decode cX5_about 112 = .ok (.iload_n 1, 1) := by decide +kernel
theorem dX5_about_113 : decode cX5_about 113 = .ok (.iaload, 1) := by decide +kernel
theorem dX5_about_114 : decode cX5_about 114 = .ok (.ireturn, 1) := by decide +kernel
theorem dX5_about_115 : decode cX5_about 115 = .ok (.aload_n 0, 1) := by decide +kernel
theorem dX5_about_116 : decode cX5_about 116 = .ok (.iload_n 1, 1) := by decide +kernel
theorem dX5_about_117 : decode cX5_about 117 = .ok (.invokevirtual 97, 3) := by decide +kernel
theorem dX5_about_120 : decode cX5_about 120 = .ok (.ireturn, 1) := by decide +kernel
theorem dX5_about_121 : decode cX5_about 121 = .ok (.iconst (-1), 1) := by decide +kernel
theorem dX5_about_122 : decode cX5_about 122 = .ok (.ireturn, 1) := by decide +kernel
theorem dX5_move_0 : decode cX5_move 0 = .ok (.aload_n 0, 1) := by decide +kernel
theorem dX5_move_1 : decode cX5_move 1 = .ok (.iload_n 1, 1) := by decide +kernel
theorem dX5_move_2 : decode cX5_move 2 = .ok (.invokevirtual 81, 3) := by decide +kernel
theorem dX5_move_5 : decode cX5_move 5 = .ok (.ifCond .eq 12, 3) := by decide +kernel
theorem dX5_move_8 : decode cX5_move 8 = .ok (.iload_n 2, 1) := by decide +kernel
theorem dX5_move_9 : decode cX5_move 9 = .ok (.iconst 0, 1) := by decide +kernel
theorem dX5_move_10 : decode cX5_move 10 = .ok (.iconst 3, 1) := by decide +kernel
theorem dX5_move_11 : decode cX5_move 11 = .ok (.invokestatic 66, 3) := by decide +kernel
theorem dX5_move_14 : decode cX5_move 14 = .ok (.ifCond .ne 5, 3) := by decide +kernel
theorem dX5_move_17 : decode cX5_move 17 = .ok (.iconst (-1), 1) := by decide +kernel
theorem dX5_move_18 : decode cX5_move 18 = .ok (.ireturn, 1) := by decide +kernel
theorem dX5_move_19 : decode cX5_move 19 = .ok (.aload_n 0, 1) := by decide +kernel
theorem dX5_move_20 : decode cX5_move 20 = .ok (.getfield 19, 3) := by decide +kernel
theorem dX5_move_23 : decode cX5_move 23 = .ok (.iload_n 1, 1) := by decide +kernel
theorem dX5_move_24 : decode cX5_move 24 = .ok (.iaload, 1) := by decide +kernel
theorem dX5_move_25 : decode cX5_move 25 = .ok (.istore_n 3, 1) := by decide +kernel
theorem dX5_move_26 : decode cX5_move 26 = .ok (.aload_n 0, 1) := by decide +kernel
theorem dX5_move_27 : decode cX5_move 27 = .ok (.getfield 19, 3) := by decide +kernel
theorem dX5_move_30 : decode cX5_move 30 = .ok (.iload_n 1, 1) := by decide +kernel
theorem dX5_move_31 : decode cX5_move 31 = .ok (.iload_n 2, 1) := by decide +kernel
theorem dX5_move_32 : decode cX5_move 32 = .ok (.iastore, 1) := by decide +kernel
theorem dX5_move_33 : decode cX5_move 33 = .ok (.iload_n 3, 1) := by decide +kernel
theorem dX5_move_34 : decode cX5_move 34 = .ok (.ireturn, 1) := by decide +kernel
theorem dX5_draw_0 : decode cX5_draw 0 = .ok (.aload_n 0, 1) := by decide +kernel
theorem dX5_draw_1 : decode cX5_draw 1 = .ok (.iload_n 1, 1) := by decide +kernel
theorem dX5_draw_2 : decode cX5_draw 2 = .ok (.invokevirtual 81, 3) := by decide +kernel
theorem dX5_draw_5 : decode cX5_draw 5 = .ok (.ifCond .eq 17, 3) := by decide +kernel
theorem dX5_draw_8 : decode cX5_draw 8 = .ok (.iload_n 2, 1) := by decide +kernel
theorem dX5_draw_9 : decode cX5_draw 9 = .ok (.iconst 0, 1) := by decide +kernel
theorem dX5_draw_10 : decode cX5_draw 10 = .ok (.aload_n 0, 1) := by decide +kernel
theorem dX5_draw_11 : decode cX5_draw 11 = .ok (.getfield 13, 3) := by decide +kernel
theorem dX5_draw_14 : decode cX5_draw 14 = .ok (.iload_n 1, 1) := by decide +kernel
theorem dX5_draw_15 : decode cX5_draw 15 = .ok (.iaload, 1) := by decide +kernel
theorem dX5_draw_16 : decode cX5_draw 16 = .ok (.invokestatic 66, 3) := by decide +kernel
theorem dX5_draw_19 : decode cX5_draw 19 = .ok (.ifCond .ne 5, 3) := by decide +kernel
theorem dX5_draw_22 : decode cX5_draw 22 = .ok (.iconst (-1), 1) := by decide +kernel
theorem dX5_draw_23 : decode cX5_draw 23 = .ok (.ireturn, 1) := by decide +kernel
theorem dX5_draw_24 : decode cX5_draw 24 = .ok (.aload_n 0, 1) := by decide +kernel
theorem dX5_draw_25 : decode cX5_draw 25 = .ok (.getfield 13, 3) := by decide +kernel
theorem dX5_draw_28 : decode cX5_draw 28 = .ok (.iload_n 1, 1) := by decide +kernel
theorem dX5_draw_29 : decode cX5_draw 29 = .ok (.dup2, 1) := by decide +kernel
theorem dX5_draw_30 : decode cX5_draw 30 = .ok (.iaload, 1) := by decide +kernel
theorem dX5_draw_31 : decode cX5_draw 31 = .ok (.iload_n 2, 1) := by decide +kernel
theorem dX5_draw_32 : decode cX5_draw 32 = .ok (.isub, 1) := by decide +kernel
theorem dX5_draw_33 : decode cX5_draw 33 = .ok (.iastore, 1) := by decide +kernel
theorem dX5_draw_34 : decode cX5_draw 34 = .ok (.aload_n 0, 1) := by decide +kernel
theorem dX5_draw_35 : decode cX5_draw 35 = .ok (.getfield 13, 3) := by decide +kernel
theorem dX5_draw_38 : decode cX5_draw 38 = .ok (.iload_n 1, 1) := by decide +kernel
theorem dX5_draw_39 : decode cX5_draw 39 = .ok (.iaload, 1) := by decide +kernel
theorem dX5_draw_40 : decode cX5_draw 40 = .ok (.ireturn, 1) := by decide +kernel
theorem dX5_want_0 : decode cX5_want 0 = .ok (.iload_n 1, 1) := by decide +kernel
theorem dX5_want_1 : decode cX5_want 1 = .ok (.ifCond .ne 8, 3) := by decide +kernel
theorem dX5_want_4 : decode cX5_want 4 = .ok (.ldc 100, 2) := by decide +kernel
theorem dX5_want_6 : decode cX5_want 6 = .ok (.goto 16, 3) := by decide +kernel
theorem dX5_want_9 : decode cX5_want 9 = .ok (.iload_n 1, 1) := by decide +kernel
theorem dX5_want_10 : decode cX5_want 10 = .ok (.iconst 1, 1) := by decide +kernel
theorem dX5_want_11 : decode cX5_want 11 = .ok (.if_icmp .ne 8, 3) := by decide +kernel
theorem dX5_want_14 : decode cX5_want 14 = .ok (.bipush 60, 2) := by decide +kernel
theorem dX5_want_16 : decode cX5_want 16 = .ok (.goto 6, 3) := by decide +kernel
theorem dX5_want_19 : decode cX5_want 19 = .ok (.sipush 9999, 3) := by decide +kernel
theorem dX5_want_22 : decode cX5_want 22 = .ok (.istore_n 3, 1) := by decide +kernel
theorem dX5_want_23 : decode cX5_want 23 = .ok (.iload_n 1, 1) := by decide +kernel
theorem dX5_want_24 : decode cX5_want 24 = .ok (.iconst 0, 1) := by decide +kernel
theorem dX5_want_25 : decode cX5_want 25 = .ok (.bipush 7, 2) := by decide +kernel
theorem dX5_want_27 : decode cX5_want 27 = .ok (.invokestatic 66, 3) := by decide +kernel
theorem dX5_want_30 : decode cX5_want 30 = .ok (.ifCond .eq 12, 3) := by decide +kernel
theorem dX5_want_33 : decode cX5_want 33 = .ok (.iload_n 2, 1) := by decide +kernel
theorem dX5_want_34 : decode cX5_want 34 = .ok (.iconst 0, 1) := by decide +kernel
theorem dX5_want_35 : decode cX5_want 35 = .ok (.iload_n 3, 1) := by decide +kernel
theorem dX5_want_36 : decode cX5_want 36 = .ok (.invokestatic 66, 3) := by decide +kernel
theorem dX5_want_39 : decode cX5_want 39 = .ok (.ifCond .ne 5, 3) := by decide +kernel
theorem dX5_want_42 : decode cX5_want 42 = .ok (.iconst (-1), 1) := by decide +kernel
theorem dX5_want_43 : decode cX5_want 43 = .ok (.ireturn, 1) := by decide +kernel
theorem dX5_want_44 : decode cX5_want 44 = .ok (.aload_n 0, 1) := by decide +kernel
theorem dX5_want_45 : decode cX5_want 45 = .ok (.getfield 34, 3) := by decide +kernel
theorem dX5_want_48 : decode cX5_want 48 = .ok (.iload_n 1, 1) := by decide +kernel
theorem dX5_want_49 : decode cX5_want 49 = .ok (.iaload, 1) := by decide +kernel
theorem dX5_want_50 : decode cX5_want 50 = .ok (.istore 4, 2) := by decide +kernel
theorem dX5_want_52 : decode cX5_want 52 = .ok (.aload_n 0, 1) := by decide +kernel
theorem dX5_want_53 : decode cX5_want 53 = .ok (.getfield 34, 3) := by decide +kernel
theorem dX5_want_56 : decode cX5_want 56 = .ok (.iload_n 1, 1) := by decide +kernel
theorem dX5_want_57 : decode cX5_want 57 = .ok (.iload_n 2, 1) := by decide +kernel
theorem dX5_want_58 : decode cX5_want 58 = .ok (.iastore, 1) := by decide +kernel
theorem dX5_want_59 : decode cX5_want 59 = .ok (.iload 4, 2) := by decide +kernel
theorem dX5_want_61 : decode cX5_want 61 = .ok (.ireturn, 1) := by decide +kernel
theorem dX5_has_0 : decode cX5_has 0 = .ok (.iload_n 0, 1) := by decide +kernel
theorem dX5_has_1 : decode cX5_has 1 = .ok (.iload_n 1, 1) := by decide +kernel
theorem dX5_has_2 : decode cX5_has 2 = .ok (.ishr, 1) := by decide +kernel
theorem dX5_has_3 : decode cX5_has 3 = .ok (.iconst 1, 1) := by decide +kernel
theorem dX5_has_4 : decode cX5_has 4 = .ok (.iand, 1) := by decide +kernel
theorem dX5_has_5 : decode cX5_has 5 = .ok (.iconst 1, 1) := by decide +kernel
theorem dX5_has_6 : decode cX5_has 6 = .ok (.if_icmp .ne 7, 3) := by decide +kernel
theorem dX5_has_9 : decode cX5_has 9 = .ok (.iconst 1, 1) := by decide +kernel
theorem dX5_has_10 : decode cX5_has 10 = .ok (.goto 4, 3) := by decide +kernel
theorem dX5_has_13 : decode cX5_has 13 = .ok (.iconst 0, 1) := by decide +kernel
theorem dX5_has_14 : decode cX5_has 14 = .ok (.ireturn, 1) := by decide +kernel
theorem dX5_isBlend_0 : decode cX5_isBlend 0 = .ok (.iload_n 1, 1) := by decide +kernel
theorem dX5_isBlend_1 : decode cX5_isBlend 1 = .ok (.iconst 1, 1) := by decide +kernel
theorem dX5_isBlend_2 : decode cX5_isBlend 2 = .ok (.iconst 1, 1) := by decide +kernel
theorem dX5_isBlend_3 : decode cX5_isBlend 3 = .ok (.aload_n 0, 1) := by decide +kernel
theorem dX5_isBlend_4 : decode cX5_isBlend 4 = .ok (.getfield 63, 3) := by decide +kernel
theorem dX5_isBlend_7 : decode cX5_isBlend 7 = .ok (.ishl, 1) := by decide +kernel
theorem dX5_isBlend_8 : decode cX5_isBlend 8 = .ok (.iconst 1, 1) := by decide +kernel
theorem dX5_isBlend_9 : decode cX5_isBlend 9 = .ok (.isub, 1) := by decide +kernel
theorem dX5_isBlend_10 : decode cX5_isBlend 10 = .ok (.invokestatic 66, 3) := by decide +kernel
theorem dX5_isBlend_13 : decode cX5_isBlend 13 = .ok (.istore_n 2, 1) := by decide +kernel
theorem dX5_isBlend_14 : decode cX5_isBlend 14 = .ok (.iconst 0, 1) := by decide +kernel
theorem dX5_isBlend_15 : decode cX5_isBlend 15 = .ok (.istore_n 3, 1) := by decide +kernel
theorem dX5_isBlend_16 : decode cX5_isBlend 16 = .ok (.iload_n 3, 1) := by decide +kernel
theorem dX5_isBlend_17 : decode cX5_isBlend 17 = .ok (.aload_n 0, 1) := by decide +kernel
theorem dX5_isBlend_18 : decode cX5_isBlend 18 = .ok (.getfield 63, 3) := by decide +kernel
theorem dX5_isBlend_21 : decode cX5_isBlend 21 = .ok (.if_icmp .ge 36, 3) := by decide +kernel
theorem dX5_isBlend_24 : decode cX5_isBlend 24 = .ok (.iload_n 2, 1) := by decide +kernel
theorem dX5_isBlend_25 : decode cX5_isBlend 25 = .ok (.ifCond .eq 32, 3) := by decide +kernel
theorem dX5_isBlend_28 : decode cX5_isBlend 28 = .ok (.iload_n 1, 1) := by decide +kernel
theorem dX5_isBlend_29 : decode cX5_isBlend 29 = .ok (.iload_n 3, 1) := by decide +kernel
theorem dX5_isBlend_30 : decode cX5_isBlend 30 = .ok (.invokestatic 101, 3) := by decide +kernel
theorem dX5_isBlend_33 : decode cX5_isBlend 33 = .ok (.ifCond .eq 12, 3) := by decide +kernel
theorem dX5_isBlend_36 : decode cX5_isBlend 36 = .ok (.aload_n 0, 1) := by decide +kernel
theorem dX5_isBlend_37 : decode cX5_isBlend 37 = .ok (.getfield 13, 3) := by decide +kernel
theorem dX5_isBlend_40 : decode cX5_isBlend 40 = .ok (.iload_n 3, 1) := by decide +kernel
theorem dX5_isBlend_41 : decode cX5_isBlend 41 = .ok (.iaload, 1) := by decide +kernel
theorem dX5_isBlend_42 : decode cX5_isBlend 42 = .ok (.ifCond .le 7, 3) := by decide +kernel
theorem dX5_isBlend_45 : decode cX5_isBlend 45 = .ok (.iconst 1, 1) := by decide +kernel
theorem dX5_isBlend_46 : decode cX5_isBlend 46 = .ok (.goto 4, 3) := by decide +kernel
theorem dX5_isBlend_49 : decode cX5_isBlend 49 = .ok (.iconst 0, 1) := by decide +kernel
theorem dX5_isBlend_50 : decode cX5_isBlend 50 = .ok (.istore_n 2, 1) := by decide +kernel
theorem dX5_isBlend_51 : decode cX5_isBlend 51 = .ok (.iinc 3 1, 3) := by decide +kernel
theorem dX5_isBlend_54 : decode cX5_isBlend 54 = .ok (.goto (-38), 3) := by decide +kernel
theorem dX5_isBlend_57 : decode cX5_isBlend 57 = .ok (.iload_n 2, 1) := by decide +kernel
theorem dX5_isBlend_58 : decode cX5_isBlend 58 = .ok (.ireturn, 1) := by decide +kernel
theorem dX5_dropsOf_0 : decode cX5_dropsOf 0 = .ok (.iconst 0, 1) := by decide +kernel
theorem dX5_dropsOf_1 : decode cX5_dropsOf 1 = .ok (.istore_n 2, 1) := by decide +kernel
theorem dX5_dropsOf_2 : decode cX5_dropsOf 2 = .ok (.iconst 0, 1) := by decide +kernel
theorem dX5_dropsOf_3 : decode cX5_dropsOf 3 = .ok (.istore_n 3, 1) := by decide +kernel
theorem dX5_dropsOf_4 : decode cX5_dropsOf 4 = .ok (.iload_n 3, 1) := by decide +kernel
theorem dX5_dropsOf_5 : decode cX5_dropsOf 5 = .ok (.aload_n 0, 1) := by decide +kernel
theorem dX5_dropsOf_6 : decode cX5_dropsOf 6 = .ok (.getfield 63, 3) := by decide +kernel
theorem dX5_dropsOf_9 : decode cX5_dropsOf 9 = .ok (.if_icmp .ge 30, 3) := by decide +kernel
theorem dX5_dropsOf_12 : decode cX5_dropsOf 12 = .ok (.iload_n 2, 1) := by decide +kernel
theorem dX5_dropsOf_13 : decode cX5_dropsOf 13 = .ok (.iload_n 1, 1) := by decide +kernel
theorem dX5_dropsOf_14 : decode cX5_dropsOf 14 = .ok (.iload_n 3, 1) := by decide +kernel
theorem dX5_dropsOf_15 : decode cX5_dropsOf 15 = .ok (.invokestatic 101, 3) := by decide +kernel
theorem dX5_dropsOf_18 : decode cX5_dropsOf 18 = .ok (.ifCond .eq 12, 3) := by decide +kernel
theorem dX5_dropsOf_21 : decode cX5_dropsOf 21 = .ok (.aload_n 0, 1) := by decide +kernel
theorem dX5_dropsOf_22 : decode cX5_dropsOf 22 = .ok (.getfield 13, 3) := by decide +kernel
theorem dX5_dropsOf_25 : decode cX5_dropsOf 25 = .ok (.iload_n 3, 1) := by decide +kernel
theorem dX5_dropsOf_26 : decode cX5_dropsOf 26 = .ok (.iaload, 1) := by decide +kernel
theorem dX5_dropsOf_27 : decode cX5_dropsOf 27 = .ok (.goto 4, 3) := by decide +kernel
theorem dX5_dropsOf_30 : decode cX5_dropsOf 30 = .ok (.iconst 0, 1) := by decide +kernel
theorem dX5_dropsOf_31 : decode cX5_dropsOf 31 = .ok (.iadd, 1) := by decide +kernel
theorem dX5_dropsOf_32 : decode cX5_dropsOf 32 = .ok (.istore_n 2, 1) := by decide +kernel
theorem dX5_dropsOf_33 : decode cX5_dropsOf 33 = .ok (.iinc 3 1, 3) := by decide +kernel
theorem dX5_dropsOf_36 : decode cX5_dropsOf 36 = .ok (.goto (-32), 3) := by decide +kernel
theorem dX5_dropsOf_39 : decode cX5_dropsOf 39 = .ok (.iload_n 2, 1) := by decide +kernel
theorem dX5_dropsOf_40 : decode cX5_dropsOf 40 = .ok (.ireturn, 1) := by decide +kernel
theorem dX5_partOf_0 : decode cX5_partOf 0 = .ok (.lconst 0, 1) := by decide +kernel
theorem dX5_partOf_1 : decode cX5_partOf 1 = .ok (.lstore_n 3, 1) := by decide +kernel
theorem dX5_partOf_2 : decode cX5_partOf 2 = .ok (.iconst 0, 1) := by decide +kernel
theorem dX5_partOf_3 : decode cX5_partOf 3 = .ok (.istore 5, 2) := by decide +kernel
theorem dX5_partOf_5 : decode cX5_partOf 5 = .ok (.iload 5, 2) := by decide +kernel
theorem dX5_partOf_7 : decode cX5_partOf 7 = .ok (.aload_n 0, 1) := by decide +kernel
theorem dX5_partOf_8 : decode cX5_partOf 8 = .ok (.getfield 63, 3) := by decide +kernel
theorem dX5_partOf_11 : decode cX5_partOf 11 = .ok (.if_icmp .ge 90, 3) := by decide +kernel
theorem dX5_partOf_14 : decode cX5_partOf 14 = .ok (.iload_n 2, 1) := by decide +kernel
theorem dX5_partOf_15 : decode cX5_partOf 15 = .ok (.ifCond .ne 13, 3) := by decide +kernel
theorem dX5_partOf_18 : decode cX5_partOf 18 = .ok (.aload_n 0, 1) := by decide +kernel
theorem dX5_partOf_19 : decode cX5_partOf 19 = .ok (.getfield 25, 3) := by decide +kernel
theorem dX5_partOf_22 : decode cX5_partOf 22 = .ok (.iload 5, 2) := by decide +kernel
theorem dX5_partOf_24 : decode cX5_partOf 24 = .ok (.iaload, 1) := by decide +kernel
theorem dX5_partOf_25 : decode cX5_partOf 25 = .ok (.goto 40, 3) := by decide +kernel
theorem dX5_partOf_28 : decode cX5_partOf 28 = .ok (.iload_n 2, 1) := by decide +kernel
theorem dX5_partOf_29 : decode cX5_partOf 29 = .ok (.iconst 1, 1) := by decide +kernel
theorem dX5_partOf_30 : decode cX5_partOf 30 = .ok (.if_icmp .ne 13, 3) := by decide +kernel
theorem dX5_partOf_33 : decode cX5_partOf 33 = .ok (.aload_n 0, 1) := by decide +kernel
theorem dX5_partOf_34 : decode cX5_partOf 34 = .ok (.getfield 28, 3) := by decide +kernel
theorem dX5_partOf_37 : decode cX5_partOf 37 = .ok (.iload 5, 2) := by decide +kernel
theorem dX5_partOf_39 : decode cX5_partOf 39 = .ok (.iaload, 1) := by decide +kernel
theorem dX5_partOf_40 : decode cX5_partOf 40 = .ok (.goto 25, 3) := by decide +kernel
theorem dX5_partOf_43 : decode cX5_partOf 43 = .ok (.iload_n 2, 1) := by decide +kernel
theorem dX5_partOf_44 : decode cX5_partOf 44 = .ok (.iconst 2, 1) := by decide +kernel
theorem dX5_partOf_45 : decode cX5_partOf 45 = .ok (.if_icmp .ne 13, 3) := by decide +kernel
theorem dX5_partOf_48 : decode cX5_partOf 48 = .ok (.aload_n 0, 1) := by decide +kernel
theorem dX5_partOf_49 : decode cX5_partOf 49 = .ok (.getfield 31, 3) := by decide +kernel
theorem dX5_partOf_52 : decode cX5_partOf 52 = .ok (.iload 5, 2) := by decide +kernel
theorem dX5_partOf_54 : decode cX5_partOf 54 = .ok (.iaload, 1) := by decide +kernel
theorem dX5_partOf_55 : decode cX5_partOf 55 = .ok (.goto 10, 3) := by decide +kernel
theorem dX5_partOf_58 : decode cX5_partOf 58 = .ok (.aload_n 0, 1) := by decide +kernel
theorem dX5_partOf_59 : decode cX5_partOf 59 = .ok (.getfield 16, 3) := by decide +kernel
theorem dX5_partOf_62 : decode cX5_partOf 62 = .ok (.iload 5, 2) := by decide +kernel
theorem dX5_partOf_64 : decode cX5_partOf 64 = .ok (.iaload, 1) := by decide +kernel
theorem dX5_partOf_65 : decode cX5_partOf 65 = .ok (.istore 6, 2) := by decide +kernel
theorem dX5_partOf_67 : decode cX5_partOf 67 = .ok (.lload_n 3, 1) := by decide +kernel
theorem dX5_partOf_68 : decode cX5_partOf 68 = .ok (.iload_n 1, 1) := by decide +kernel
theorem dX5_partOf_69 : decode cX5_partOf 69 = .ok (.iload 5, 2) := by decide +kernel
theorem dX5_partOf_71 : decode cX5_partOf 71 = .ok (.invokestatic 101, 3) := by decide +kernel
theorem dX5_partOf_74 : decode cX5_partOf 74 = .ok (.ifCond .eq 18, 3) := by decide +kernel
theorem dX5_partOf_77 : decode cX5_partOf 77 = .ok (.aload_n 0, 1) := by decide +kernel
theorem dX5_partOf_78 : decode cX5_partOf 78 = .ok (.getfield 13, 3) := by decide +kernel
theorem dX5_partOf_81 : decode cX5_partOf 81 = .ok (.iload 5, 2) := by decide +kernel
theorem dX5_partOf_83 : decode cX5_partOf 83 = .ok (.iaload, 1) := by decide +kernel
theorem dX5_partOf_84 : decode cX5_partOf 84 = .ok (.i2l, 1) := by decide +kernel
theorem dX5_partOf_85 : decode cX5_partOf 85 = .ok (.iload 6, 2) := by decide +kernel
theorem dX5_partOf_87 : decode cX5_partOf 87 = .ok (.i2l, 1) := by decide +kernel
theorem dX5_partOf_88 : decode cX5_partOf 88 = .ok (.lmul, 1) := by decide +kernel
theorem dX5_partOf_89 : decode cX5_partOf 89 = .ok (.goto 4, 3) := by decide +kernel
theorem dX5_partOf_92 : decode cX5_partOf 92 = .ok (.lconst 0, 1) := by decide +kernel
theorem dX5_partOf_93 : decode cX5_partOf 93 = .ok (.ladd, 1) := by decide +kernel
theorem dX5_partOf_94 : decode cX5_partOf 94 = .ok (.lstore_n 3, 1) := by decide +kernel
theorem dX5_partOf_95 : decode cX5_partOf 95 = .ok (.iinc 5 1, 3) := by decide +kernel
theorem dX5_partOf_98 : decode cX5_partOf 98 = .ok (.goto (-93), 3) := by decide +kernel
theorem dX5_partOf_101 : decode cX5_partOf 101 = .ok (.lload_n 3, 1) := by decide +kernel
theorem dX5_partOf_102 : decode cX5_partOf 102 = .ok (.aload_n 0, 1) := by decide +kernel
theorem dX5_partOf_103 : decode cX5_partOf 103 = .ok (.iload_n 1, 1) := by decide +kernel
theorem dX5_partOf_104 : decode cX5_partOf 104 = .ok (.invokevirtual 105, 3) := by decide +kernel
theorem dX5_partOf_107 : decode cX5_partOf 107 = .ok (.i2l, 1) := by decide +kernel
theorem dX5_partOf_108 : decode cX5_partOf 108 = .ok (.ldiv, 1) := by decide +kernel
theorem dX5_partOf_109 : decode cX5_partOf 109 = .ok (.l2i, 1) := by decide +kernel
theorem dX5_partOf_110 : decode cX5_partOf 110 = .ok (.ireturn, 1) := by decide +kernel
theorem dX5_youngest_0 : decode cX5_youngest 0 = .ok (.bipush 61, 2) := by decide +kernel
theorem dX5_youngest_2 : decode cX5_youngest 2 = .ok (.istore_n 2, 1) := by decide +kernel
theorem dX5_youngest_3 : decode cX5_youngest 3 = .ok (.iconst 0, 1) := by decide +kernel
theorem dX5_youngest_4 : decode cX5_youngest 4 = .ok (.istore_n 3, 1) := by decide +kernel
theorem dX5_youngest_5 : decode cX5_youngest 5 = .ok (.iload_n 3, 1) := by decide +kernel
theorem dX5_youngest_6 : decode cX5_youngest 6 = .ok (.aload_n 0, 1) := by decide +kernel
theorem dX5_youngest_7 : decode cX5_youngest 7 = .ok (.getfield 63, 3) := by decide +kernel
theorem dX5_youngest_10 : decode cX5_youngest 10 = .ok (.if_icmp .ge 36, 3) := by decide +kernel
theorem dX5_youngest_13 : decode cX5_youngest 13 = .ok (.iload_n 1, 1) := by decide +kernel
theorem dX5_youngest_14 : decode cX5_youngest 14 = .ok (.iload_n 3, 1) := by decide +kernel
theorem dX5_youngest_15 : decode cX5_youngest 15 = .ok (.invokestatic 101, 3) := by decide +kernel
theorem dX5_youngest_18 : decode cX5_youngest 18 = .ok (.ifCond .eq 20, 3) := by decide +kernel
theorem dX5_youngest_21 : decode cX5_youngest 21 = .ok (.aload_n 0, 1) := by decide +kernel
theorem dX5_youngest_22 : decode cX5_youngest 22 = .ok (.iload_n 3, 1) := by decide +kernel
theorem dX5_youngest_23 : decode cX5_youngest 23 = .ok (.invokevirtual 93, 3) := by decide +kernel
theorem dX5_youngest_26 : decode cX5_youngest 26 = .ok (.iload_n 2, 1) := by decide +kernel
theorem dX5_youngest_27 : decode cX5_youngest 27 = .ok (.if_icmp .ge 11, 3) := by decide +kernel
theorem dX5_youngest_30 : decode cX5_youngest 30 = .ok (.aload_n 0, 1) := by decide +kernel
theorem dX5_youngest_31 : decode cX5_youngest 31 = .ok (.iload_n 3, 1) := by decide +kernel
theorem dX5_youngest_32 : decode cX5_youngest 32 = .ok (.invokevirtual 93, 3) := by decide +kernel
theorem dX5_youngest_35 : decode cX5_youngest 35 = .ok (.goto 4, 3) := by decide +kernel
theorem dX5_youngest_38 : decode cX5_youngest 38 = .ok (.iload_n 2, 1) := by decide +kernel
theorem dX5_youngest_39 : decode cX5_youngest 39 = .ok (.istore_n 2, 1) := by decide +kernel
theorem dX5_youngest_40 : decode cX5_youngest 40 = .ok (.iinc 3 1, 3) := by decide +kernel
theorem dX5_youngest_43 : decode cX5_youngest 43 = .ok (.goto (-38), 3) := by decide +kernel
theorem dX5_youngest_46 : decode cX5_youngest 46 = .ok (.iload_n 2, 1) := by decide +kernel
theorem dX5_youngest_47 : decode cX5_youngest 47 = .ok (.ireturn, 1) := by decide +kernel
theorem dX5_costs_0 : decode cX5_costs 0 = .ok (.iconst 0, 1) := by decide +kernel
theorem dX5_costs_1 : decode cX5_costs 1 = .ok (.istore_n 2, 1) := by decide +kernel
theorem dX5_costs_2 : decode cX5_costs 2 = .ok (.iconst 0, 1) := by decide +kernel
theorem dX5_costs_3 : decode cX5_costs 3 = .ok (.istore_n 3, 1) := by decide +kernel
theorem dX5_costs_4 : decode cX5_costs 4 = .ok (.iload_n 3, 1) := by decide +kernel
theorem dX5_costs_5 : decode cX5_costs 5 = .ok (.aload_n 0, 1) := by decide +kernel
theorem dX5_costs_6 : decode cX5_costs 6 = .ok (.getfield 63, 3) := by decide +kernel
theorem dX5_costs_9 : decode cX5_costs 9 = .ok (.if_icmp .ge 29, 3) := by decide +kernel
theorem dX5_costs_12 : decode cX5_costs 12 = .ok (.iload_n 2, 1) := by decide +kernel
theorem dX5_costs_13 : decode cX5_costs 13 = .ok (.iload_n 1, 1) := by decide +kernel
theorem dX5_costs_14 : decode cX5_costs 14 = .ok (.iload_n 3, 1) := by decide +kernel
theorem dX5_costs_15 : decode cX5_costs 15 = .ok (.invokestatic 101, 3) := by decide +kernel
theorem dX5_costs_18 : decode cX5_costs 18 = .ok (.ifCond .eq 11, 3) := by decide +kernel
theorem dX5_costs_21 : decode cX5_costs 21 = .ok (.aload_n 0, 1) := by decide +kernel
theorem dX5_costs_22 : decode cX5_costs 22 = .ok (.iload_n 3, 1) := by decide +kernel
theorem dX5_costs_23 : decode cX5_costs 23 = .ok (.invokevirtual 97, 3) := by decide +kernel
theorem dX5_costs_26 : decode cX5_costs 26 = .ok (.goto 4, 3) := by decide +kernel
theorem dX5_costs_29 : decode cX5_costs 29 = .ok (.iconst 0, 1) := by decide +kernel
theorem dX5_costs_30 : decode cX5_costs 30 = .ok (.iadd, 1) := by decide +kernel
theorem dX5_costs_31 : decode cX5_costs 31 = .ok (.istore_n 2, 1) := by decide +kernel
theorem dX5_costs_32 : decode cX5_costs 32 = .ok (.iinc 3 1, 3) := by decide +kernel
theorem dX5_costs_35 : decode cX5_costs 35 = .ok (.goto (-31), 3) := by decide +kernel
