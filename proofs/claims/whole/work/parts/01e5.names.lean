theorem dX5_costs_38 : decode cX5_costs 38 = .ok (.iload_n 2, 1) := by decide +kernel
theorem dX5_costs_39 : decode cX5_costs 39 = .ok (.ireturn, 1) := by decide +kernel
theorem dX5_isRight_0 : decode cX5_isRight 0 = .ok (.aload_n 0, 1) := by decide +kernel
theorem dX5_isRight_1 : decode cX5_isRight 1 = .ok (.iload_n 1, 1) := by decide +kernel
theorem dX5_isRight_2 : decode cX5_isRight 2 = .ok (.invokevirtual 105, 3) := by decide +kernel
theorem dX5_isRight_5 : decode cX5_isRight 5 = .ok (.aload_n 0, 1) := by decide +kernel
theorem dX5_isRight_6 : decode cX5_isRight 6 = .ok (.getfield 34, 3) := by decide +kernel
theorem dX5_isRight_9 : decode cX5_isRight 9 = .ok (.iconst 0, 1) := by decide +kernel
theorem dX5_isRight_10 : decode cX5_isRight 10 = .ok (.iaload, 1) := by decide +kernel
theorem dX5_isRight_11 : decode cX5_isRight 11 = .ok (.if_icmp .lt 21, 3) := by decide +kernel
theorem dX5_isRight_14 : decode cX5_isRight 14 = .ok (.aload_n 0, 1) := by decide +kernel
theorem dX5_isRight_15 : decode cX5_isRight 15 = .ok (.iload_n 1, 1) := by decide +kernel
theorem dX5_isRight_16 : decode cX5_isRight 16 = .ok (.invokevirtual 108, 3) := by decide +kernel
theorem dX5_isRight_19 : decode cX5_isRight 19 = .ok (.aload_n 0, 1) := by decide +kernel
theorem dX5_isRight_20 : decode cX5_isRight 20 = .ok (.getfield 34, 3) := by decide +kernel
theorem dX5_isRight_23 : decode cX5_isRight 23 = .ok (.iconst 1, 1) := by decide +kernel
theorem dX5_isRight_24 : decode cX5_isRight 24 = .ok (.iaload, 1) := by decide +kernel
theorem dX5_isRight_25 : decode cX5_isRight 25 = .ok (.if_icmp .lt 7, 3) := by decide +kernel
theorem dX5_isRight_28 : decode cX5_isRight 28 = .ok (.iconst 1, 1) := by decide +kernel
theorem dX5_isRight_29 : decode cX5_isRight 29 = .ok (.goto 4, 3) := by decide +kernel
theorem dX5_isRight_32 : decode cX5_isRight 32 = .ok (.iconst 0, 1) := by decide +kernel
theorem dX5_isRight_33 : decode cX5_isRight 33 = .ok (.istore_n 2, 1) := by decide +kernel
theorem dX5_isRight_34 : decode cX5_isRight 34 = .ok (.iconst 0, 1) := by decide +kernel
theorem dX5_isRight_35 : decode cX5_isRight 35 = .ok (.istore_n 3, 1) := by decide +kernel
theorem dX5_isRight_36 : decode cX5_isRight 36 = .ok (.iload_n 3, 1) := by decide +kernel
theorem dX5_isRight_37 : decode cX5_isRight 37 = .ok (.iconst 3, 1) := by decide +kernel
theorem dX5_isRight_38 : decode cX5_isRight 38 = .ok (.if_icmp .ge 43, 3) := by decide +kernel
theorem dX5_isRight_41 : decode cX5_isRight 41 = .ok (.iload_n 2, 1) := by decide +kernel
theorem dX5_isRight_42 : decode cX5_isRight 42 = .ok (.ifCond .eq 39, 3) := by decide +kernel
theorem dX5_isRight_45 : decode cX5_isRight 45 = .ok (.aload_n 0, 1) := by decide +kernel
theorem dX5_isRight_46 : decode cX5_isRight 46 = .ok (.iload_n 1, 1) := by decide +kernel
theorem dX5_isRight_47 : decode cX5_isRight 47 = .ok (.iload_n 3, 1) := by decide +kernel
theorem dX5_isRight_48 : decode cX5_isRight 48 = .ok (.invokevirtual 111, 3) := by decide +kernel
theorem dX5_isRight_51 : decode cX5_isRight 51 = .ok (.aload_n 0, 1) := by decide +kernel
theorem dX5_isRight_52 : decode cX5_isRight 52 = .ok (.getfield 34, 3) := by decide +kernel
theorem dX5_isRight_55 : decode cX5_isRight 55 = .ok (.iconst 2, 1) := by decide +kernel
theorem dX5_isRight_56 : decode cX5_isRight 56 = .ok (.iconst 2, 1) := by decide +kernel
theorem dX5_isRight_57 : decode cX5_isRight 57 = .ok (.iload_n 3, 1) := by decide +kernel
theorem dX5_isRight_58 : decode cX5_isRight 58 = .ok (.imul, 1) := by decide +kernel
theorem dX5_isRight_59 : decode cX5_isRight 59 = .ok (.iadd, 1) := by decide +kernel
theorem dX5_isRight_60 : decode cX5_isRight 60 = .ok (.iaload, 1) := by decide +kernel
theorem dX5_isRight_61 : decode cX5_isRight 61 = .ok (.aload_n 0, 1) := by decide +kernel
theorem dX5_isRight_62 : decode cX5_isRight 62 = .ok (.getfield 34, 3) := by decide +kernel
theorem dX5_isRight_65 : decode cX5_isRight 65 = .ok (.iconst 3, 1) := by decide +kernel
theorem dX5_isRight_66 : decode cX5_isRight 66 = .ok (.iconst 2, 1) := by decide +kernel
theorem dX5_isRight_67 : decode cX5_isRight 67 = .ok (.iload_n 3, 1) := by decide +kernel
theorem dX5_isRight_68 : decode cX5_isRight 68 = .ok (.imul, 1) := by decide +kernel
theorem dX5_isRight_69 : decode cX5_isRight 69 = .ok (.iadd, 1) := by decide +kernel
theorem dX5_isRight_70 : decode cX5_isRight 70 = .ok (.iaload, 1) := by decide +kernel
theorem dX5_isRight_71 : decode cX5_isRight 71 = .ok (.invokestatic 66, 3) := by decide +kernel
theorem dX5_isRight_74 : decode cX5_isRight 74 = .ok (.istore_n 2, 1) := by decide +kernel
theorem dX5_isRight_75 : decode cX5_isRight 75 = .ok (.iinc 3 1, 3) := by decide +kernel
theorem dX5_isRight_78 : decode cX5_isRight 78 = .ok (.goto (-42), 3) := by decide +kernel
theorem dX5_isRight_81 : decode cX5_isRight 81 = .ok (.iload_n 2, 1) := by decide +kernel
theorem dX5_isRight_82 : decode cX5_isRight 82 = .ok (.ireturn, 1) := by decide +kernel
theorem dX5_blend_0 : decode cX5_blend 0 = .ok (.aload_n 0, 1) := by decide +kernel
theorem dX5_blend_1 : decode cX5_blend 1 = .ok (.iload_n 1, 1) := by decide +kernel
theorem dX5_blend_2 : decode cX5_blend 2 = .ok (.invokevirtual 114, 3) := by decide +kernel
theorem dX5_blend_5 : decode cX5_blend 5 = .ok (.ifCond .ne 5, 3) := by decide +kernel
theorem dX5_blend_8 : decode cX5_blend 8 = .ok (.iconst (-1), 1) := by decide +kernel
theorem dX5_blend_9 : decode cX5_blend 9 = .ok (.ireturn, 1) := by decide +kernel
theorem dX5_blend_10 : decode cX5_blend 10 = .ok (.iload_n 2, 1) := by decide +kernel
theorem dX5_blend_11 : decode cX5_blend 11 = .ok (.tableswitch 93 0 7 #[45, 51, 58, 64, 64, 64, 73, 79], 45) := by decide +kernel
theorem dX5_blend_56 : decode cX5_blend 56 = .ok (.aload_n 0, 1) := by decide +kernel
theorem dX5_blend_57 : decode cX5_blend 57 = .ok (.iload_n 1, 1) := by decide +kernel
theorem dX5_blend_58 : decode cX5_blend 58 = .ok (.invokevirtual 105, 3) := by decide +kernel
theorem dX5_blend_61 : decode cX5_blend 61 = .ok (.ireturn, 1) := by decide +kernel
theorem dX5_blend_62 : decode cX5_blend 62 = .ok (.aload_n 0, 1) := by decide +kernel
theorem dX5_blend_63 : decode cX5_blend 63 = .ok (.iload_n 1, 1) := by decide +kernel
theorem dX5_blend_64 : decode cX5_blend 64 = .ok (.iconst 3, 1) := by decide +kernel
theorem dX5_blend_65 : decode cX5_blend 65 = .ok (.invokevirtual 111, 3) := by decide +kernel
theorem dX5_blend_68 : decode cX5_blend 68 = .ok (.ireturn, 1) := by decide +kernel
theorem dX5_blend_69 : decode cX5_blend 69 = .ok (.aload_n 0, 1) := by decide +kernel
theorem dX5_blend_70 : decode cX5_blend 70 = .ok (.iload_n 1, 1) := by decide +kernel
theorem dX5_blend_71 : decode cX5_blend 71 = .ok (.invokevirtual 108, 3) := by decide +kernel
theorem dX5_blend_74 : decode cX5_blend 74 = .ok (.ireturn, 1) := by decide +kernel
theorem dX5_blend_75 : decode cX5_blend 75 = .ok (.aload_n 0, 1) := by decide +kernel
theorem dX5_blend_76 : decode cX5_blend 76 = .ok (.iload_n 1, 1) := by decide +kernel
theorem dX5_blend_77 : decode cX5_blend 77 = .ok (.iload_n 2, 1) := by decide +kernel
theorem dX5_blend_78 : decode cX5_blend 78 = .ok (.iconst 3, 1) := by decide +kernel
theorem dX5_blend_79 : decode cX5_blend 79 = .ok (.isub, 1) := by decide +kernel
theorem dX5_blend_80 : decode cX5_blend 80 = .ok (.invokevirtual 111, 3) := by decide +kernel
theorem dX5_blend_83 : decode cX5_blend 83 = .ok (.ireturn, 1) := by decide +kernel
theorem dX5_blend_84 : decode cX5_blend 84 = .ok (.aload_n 0, 1) := by decide +kernel
theorem dX5_blend_85 : decode cX5_blend 85 = .ok (.iload_n 1, 1) := by decide +kernel
theorem dX5_blend_86 : decode cX5_blend 86 = .ok (.invokevirtual 117, 3) := by decide +kernel
theorem dX5_blend_89 : decode cX5_blend 89 = .ok (.ireturn, 1) := by decide +kernel
theorem dX5_blend_90 : decode cX5_blend 90 = .ok (.aload_n 0, 1) := by decide +kernel
theorem dX5_blend_91 : decode cX5_blend 91 = .ok (.iload_n 1, 1) := by decide +kernel
theorem dX5_blend_92 : decode cX5_blend 92 = .ok (.invokevirtual 120, 3) := by decide +kernel
theorem dX5_blend_95 : decode cX5_blend 95 = .ok (.ifCond .eq 7, 3) := by decide +kernel
theorem dX5_blend_98 : decode cX5_blend 98 = .ok (.iconst 1, 1) := by decide +kernel
theorem dX5_blend_99 : decode cX5_blend 99 = .ok (.goto 4, 3) := by decide +kernel
theorem dX5_blend_102 : decode cX5_blend 102 = .ok (.iconst 0, 1) := by decide +kernel
theorem dX5_blend_103 : decode cX5_blend 103 = .ok (.ireturn, 1) := by decide +kernel
theorem dX5_blend_104 : decode cX5_blend 104 = .ok (.iconst (-1), 1) := by decide +kernel
theorem dX5_blend_105 : decode cX5_blend 105 = .ok (.ireturn, 1) := by decide +kernel
theorem dX5_best_0 : decode cX5_best 0 = .ok (.iload_n 1, 1) := by decide +kernel
theorem dX5_best_1 : decode cX5_best 1 = .ok (.iconst 0, 1) := by decide +kernel
theorem dX5_best_2 : decode cX5_best 2 = .ok (.iconst 1, 1) := by decide +kernel
theorem dX5_best_3 : decode cX5_best 3 = .ok (.invokestatic 66, 3) := by decide +kernel
theorem dX5_best_6 : decode cX5_best 6 = .ok (.ifCond .ne 5, 3) := by decide +kernel
theorem dX5_best_9 : decode cX5_best 9 = .ok (.iconst (-1), 1) := by decide +kernel
theorem dX5_best_10 : decode cX5_best 10 = .ok (.ireturn, 1) := by decide +kernel
theorem dX5_best_11 : decode cX5_best 11 = .ok (.bipush (-9), 2) := by decide +kernel
theorem dX5_best_13 : decode cX5_best 13 = .ok (.istore_n 2, 1) := by decide +kernel
theorem dX5_best_14 : decode cX5_best 14 = .ok (.bipush (-9), 2) := by decide +kernel
theorem dX5_best_16 : decode cX5_best 16 = .ok (.istore_n 3, 1) := by decide +kernel
theorem dX5_best_17 : decode cX5_best 17 = .ok (.iconst 1, 1) := by decide +kernel
theorem dX5_best_18 : decode cX5_best 18 = .ok (.istore 4, 2) := by decide +kernel
theorem dX5_best_20 : decode cX5_best 20 = .ok (.iload 4, 2) := by decide +kernel
theorem dX5_best_22 : decode cX5_best 22 = .ok (.iconst 1, 1) := by decide +kernel
theorem dX5_best_23 : decode cX5_best 23 = .ok (.aload_n 0, 1) := by decide +kernel
theorem dX5_best_24 : decode cX5_best 24 = .ok (.getfield 63, 3) := by decide +kernel
theorem dX5_best_27 : decode cX5_best 27 = .ok (.ishl, 1) := by decide +kernel
theorem dX5_best_28 : decode cX5_best 28 = .ok (.if_icmp .ge 53, 3) := by decide +kernel
theorem dX5_best_31 : decode cX5_best 31 = .ok (.aload_n 0, 1) := by decide +kernel
theorem dX5_best_32 : decode cX5_best 32 = .ok (.iload 4, 2) := by decide +kernel
theorem dX5_best_34 : decode cX5_best 34 = .ok (.invokevirtual 114, 3) := by decide +kernel
theorem dX5_best_37 : decode cX5_best 37 = .ok (.ifCond .eq 38, 3) := by decide +kernel
theorem dX5_best_40 : decode cX5_best 40 = .ok (.aload_n 0, 1) := by decide +kernel
theorem dX5_best_41 : decode cX5_best 41 = .ok (.iload 4, 2) := by decide +kernel
theorem dX5_best_43 : decode cX5_best 43 = .ok (.invokevirtual 117, 3) := by decide +kernel
theorem dX5_best_46 : decode cX5_best 46 = .ok (.istore 5, 2) := by decide +kernel
theorem dX5_best_48 : decode cX5_best 48 = .ok (.iload_n 2, 1) := by decide +kernel
theorem dX5_best_49 : decode cX5_best 49 = .ok (.bipush (-9), 2) := by decide +kernel
theorem dX5_best_51 : decode cX5_best 51 = .ok (.if_icmp .eq 9, 3) := by decide +kernel
theorem dX5_best_54 : decode cX5_best 54 = .ok (.iload 5, 2) := by decide +kernel
theorem dX5_best_56 : decode cX5_best 56 = .ok (.iload_n 3, 1) := by decide +kernel
theorem dX5_best_57 : decode cX5_best 57 = .ok (.if_icmp .ge 18, 3) := by decide +kernel
theorem dX5_best_60 : decode cX5_best 60 = .ok (.aload_n 0, 1) := by decide +kernel
theorem dX5_best_61 : decode cX5_best 61 = .ok (.iload 4, 2) := by decide +kernel
theorem dX5_best_63 : decode cX5_best 63 = .ok (.invokevirtual 120, 3) := by decide +kernel
theorem dX5_best_66 : decode cX5_best 66 = .ok (.ifCond .eq 9, 3) := by decide +kernel
theorem dX5_best_69 : decode cX5_best 69 = .ok (.iload 4, 2) := by decide +kernel
theorem dX5_best_71 : decode cX5_best 71 = .ok (.istore_n 2, 1) := by decide +kernel
theorem dX5_best_72 : decode cX5_best 72 = .ok (.iload 5, 2) := by decide +kernel
theorem dX5_best_74 : decode cX5_best 74 = .ok (.istore_n 3, 1) := by decide +kernel
theorem dX5_best_75 : decode cX5_best 75 = .ok (.iinc 4 1, 3) := by decide +kernel
theorem dX5_best_78 : decode cX5_best 78 = .ok (.goto (-58), 3) := by decide +kernel
theorem dX5_best_81 : decode cX5_best 81 = .ok (.iload_n 1, 1) := by decide +kernel
theorem dX5_best_82 : decode cX5_best 82 = .ok (.ifCond .ne 7, 3) := by decide +kernel
theorem dX5_best_85 : decode cX5_best 85 = .ok (.iload_n 2, 1) := by decide +kernel
theorem dX5_best_86 : decode cX5_best 86 = .ok (.goto 4, 3) := by decide +kernel
theorem dX5_best_89 : decode cX5_best 89 = .ok (.iload_n 3, 1) := by decide +kernel
theorem dX5_best_90 : decode cX5_best 90 = .ok (.ireturn, 1) := by decide +kernel
theorem dX5_lasts_0 : decode cX5_lasts 0 = .ok (.iload_n 1, 1) := by decide +kernel
theorem dX5_lasts_1 : decode cX5_lasts 1 = .ok (.iconst 1, 1) := by decide +kernel
theorem dX5_lasts_2 : decode cX5_lasts 2 = .ok (.sipush 9999, 3) := by decide +kernel
theorem dX5_lasts_5 : decode cX5_lasts 5 = .ok (.invokestatic 66, 3) := by decide +kernel
theorem dX5_lasts_8 : decode cX5_lasts 8 = .ok (.ifCond .eq 13, 3) := by decide +kernel
theorem dX5_lasts_11 : decode cX5_lasts 11 = .ok (.iload_n 2, 1) := by decide +kernel
theorem dX5_lasts_12 : decode cX5_lasts 12 = .ok (.iconst 0, 1) := by decide +kernel
theorem dX5_lasts_13 : decode cX5_lasts 13 = .ok (.bipush 60, 2) := by decide +kernel
theorem dX5_lasts_15 : decode cX5_lasts 15 = .ok (.invokestatic 66, 3) := by decide +kernel
theorem dX5_lasts_18 : decode cX5_lasts 18 = .ok (.ifCond .ne 5, 3) := by decide +kernel
theorem dX5_lasts_21 : decode cX5_lasts 21 = .ok (.iconst (-1), 1) := by decide +kernel
theorem dX5_lasts_22 : decode cX5_lasts 22 = .ok (.ireturn, 1) := by decide +kernel
theorem dX5_lasts_23 : decode cX5_lasts 23 = .ok (.iconst 0, 1) := by decide +kernel
theorem dX5_lasts_24 : decode cX5_lasts 24 = .ok (.istore_n 3, 1) := by decide +kernel
theorem dX5_lasts_25 : decode cX5_lasts 25 = .ok (.iload_n 3, 1) := by decide +kernel
theorem dX5_lasts_26 : decode cX5_lasts 26 = .ok (.aload_n 0, 1) := by decide +kernel
theorem dX5_lasts_27 : decode cX5_lasts 27 = .ok (.getfield 63, 3) := by decide +kernel
theorem dX5_lasts_30 : decode cX5_lasts 30 = .ok (.if_icmp .ge 21, 3) := by decide +kernel
theorem dX5_lasts_33 : decode cX5_lasts 33 = .ok (.aload_n 0, 1) := by decide +kernel
theorem dX5_lasts_34 : decode cX5_lasts 34 = .ok (.getfield 50, 3) := by decide +kernel
theorem dX5_lasts_37 : decode cX5_lasts 37 = .ok (.iload_n 3, 1) := by decide +kernel
theorem dX5_lasts_38 : decode cX5_lasts 38 = .ok (.aload_n 0, 1) := by decide +kernel
theorem dX5_lasts_39 : decode cX5_lasts 39 = .ok (.getfield 13, 3) := by decide +kernel
theorem dX5_lasts_42 : decode cX5_lasts 42 = .ok (.iload_n 3, 1) := by decide +kernel
theorem dX5_lasts_43 : decode cX5_lasts 43 = .ok (.iaload, 1) := by decide +kernel
theorem dX5_lasts_44 : decode cX5_lasts 44 = .ok (.iastore, 1) := by decide +kernel
theorem dX5_lasts_45 : decode cX5_lasts 45 = .ok (.iinc 3 1, 3) := by decide +kernel
theorem dX5_lasts_48 : decode cX5_lasts 48 = .ok (.goto (-23), 3) := by decide +kernel
theorem dX5_lasts_51 : decode cX5_lasts 51 = .ok (.iconst 0, 1) := by decide +kernel
theorem dX5_lasts_52 : decode cX5_lasts 52 = .ok (.istore_n 3, 1) := by decide +kernel
theorem dX5_lasts_53 : decode cX5_lasts 53 = .ok (.iload_n 3, 1) := by decide +kernel
theorem dX5_lasts_54 : decode cX5_lasts 54 = .ok (.bipush 30, 2) := by decide +kernel
theorem dX5_lasts_56 : decode cX5_lasts 56 = .ok (.if_icmp .ge 267, 3) := by decide +kernel
theorem dX5_lasts_59 : decode cX5_lasts 59 = .ok (.iconst 0, 1) := by decide +kernel
theorem dX5_lasts_60 : decode cX5_lasts 60 = .ok (.istore 4, 2) := by decide +kernel
theorem dX5_lasts_62 : decode cX5_lasts 62 = .ok (.iconst 0, 1) := by decide +kernel
theorem dX5_lasts_63 : decode cX5_lasts 63 = .ok (.istore 5, 2) := by decide +kernel
theorem dX5_lasts_65 : decode cX5_lasts 65 = .ok (.iload 5, 2) := by decide +kernel
theorem dX5_lasts_67 : decode cX5_lasts 67 = .ok (.aload_n 0, 1) := by decide +kernel
theorem dX5_lasts_68 : decode cX5_lasts 68 = .ok (.getfield 63, 3) := by decide +kernel
theorem dX5_lasts_71 : decode cX5_lasts 71 = .ok (.if_icmp .ge 37, 3) := by decide +kernel
theorem dX5_lasts_74 : decode cX5_lasts 74 = .ok (.iload 4, 2) := by decide +kernel
theorem dX5_lasts_76 : decode cX5_lasts 76 = .ok (.aload_n 0, 1) := by decide +kernel
theorem dX5_lasts_77 : decode cX5_lasts 77 = .ok (.iload 5, 2) := by decide +kernel
theorem dX5_lasts_79 : decode cX5_lasts 79 = .ok (.invokevirtual 93, 3) := by decide +kernel
theorem dX5_lasts_82 : decode cX5_lasts 82 = .ok (.iload_n 3, 1) := by decide +kernel
theorem dX5_lasts_83 : decode cX5_lasts 83 = .ok (.iadd, 1) := by decide +kernel
theorem dX5_lasts_84 : decode cX5_lasts 84 = .ok (.iload_n 2, 1) := by decide +kernel
theorem dX5_lasts_85 : decode cX5_lasts 85 = .ok (.if_icmp .lt 13, 3) := by decide +kernel
theorem dX5_lasts_88 : decode cX5_lasts 88 = .ok (.aload_n 0, 1) := by decide +kernel
theorem dX5_lasts_89 : decode cX5_lasts 89 = .ok (.getfield 50, 3) := by decide +kernel
theorem dX5_lasts_92 : decode cX5_lasts 92 = .ok (.iload 5, 2) := by decide +kernel
theorem dX5_lasts_94 : decode cX5_lasts 94 = .ok (.iaload, 1) := by decide +kernel
theorem dX5_lasts_95 : decode cX5_lasts 95 = .ok (.goto 4, 3) := by decide +kernel
theorem dX5_lasts_98 : decode cX5_lasts 98 = .ok (.iconst 0, 1) := by decide +kernel
theorem dX5_lasts_99 : decode cX5_lasts 99 = .ok (.iadd, 1) := by decide +kernel
theorem dX5_lasts_100 : decode cX5_lasts 100 = .ok (.istore 4, 2) := by decide +kernel
theorem dX5_lasts_102 : decode cX5_lasts 102 = .ok (.iinc 5 1, 3) := by decide +kernel
theorem dX5_lasts_105 : decode cX5_lasts 105 = .ok (.goto (-40), 3) := by decide +kernel
theorem dX5_lasts_108 : decode cX5_lasts 108 = .ok (.iload 4, 2) := by decide +kernel
theorem dX5_lasts_110 : decode cX5_lasts 110 = .ok (.iload_n 1, 1) := by decide +kernel
theorem dX5_lasts_111 : decode cX5_lasts 111 = .ok (.if_icmp .ge 5, 3) := by decide +kernel
theorem dX5_lasts_114 : decode cX5_lasts 114 = .ok (.iload_n 3, 1) := by decide +kernel
theorem dX5_lasts_115 : decode cX5_lasts 115 = .ok (.ireturn, 1) := by decide +kernel
theorem dX5_lasts_116 : decode cX5_lasts 116 = .ok (.iload_n 1, 1) := by decide +kernel
theorem dX5_lasts_117 : decode cX5_lasts 117 = .ok (.istore 5, 2) := by decide +kernel
theorem dX5_lasts_119 : decode cX5_lasts 119 = .ok (.iload 5, 2) := by decide +kernel
theorem dX5_lasts_121 : decode cX5_lasts 121 = .ok (.ifCond .le 137, 3) := by decide +kernel
theorem dX5_lasts_124 : decode cX5_lasts 124 = .ok (.iconst (-1), 1) := by decide +kernel
theorem dX5_lasts_125 : decode cX5_lasts 125 = .ok (.istore 6, 2) := by decide +kernel
theorem dX5_lasts_127 : decode cX5_lasts 127 = .ok (.iconst 0, 1) := by decide +kernel
theorem dX5_lasts_128 : decode cX5_lasts 128 = .ok (.istore 7, 2) := by decide +kernel
theorem dX5_lasts_130 : decode cX5_lasts 130 = .ok (.iload 7, 2) := by decide +kernel
theorem dX5_lasts_132 : decode cX5_lasts 132 = .ok (.aload_n 0, 1) := by decide +kernel
theorem dX5_lasts_133 : decode cX5_lasts 133 = .ok (.getfield 63, 3) := by decide +kernel
theorem dX5_lasts_136 : decode cX5_lasts 136 = .ok (.if_icmp .ge 74, 3) := by decide +kernel
theorem dX5_lasts_139 : decode cX5_lasts 139 = .ok (.aload_n 0, 1) := by decide +kernel
theorem dX5_lasts_140 : decode cX5_lasts 140 = .ok (.getfield 50, 3) := by decide +kernel
theorem dX5_lasts_143 : decode cX5_lasts 143 = .ok (.iload 7, 2) := by decide +kernel
theorem dX5_lasts_145 : decode cX5_lasts 145 = .ok (.iaload, 1) := by decide +kernel
theorem dX5_lasts_146 : decode cX5_lasts 146 = .ok (.ifCond .le 19, 3) := by decide +kernel
theorem dX5_lasts_149 : decode cX5_lasts 149 = .ok (.aload_n 0, 1) := by decide +kernel
theorem dX5_lasts_150 : decode cX5_lasts 150 = .ok (.iload 7, 2) := by decide +kernel
theorem dX5_lasts_152 : decode cX5_lasts 152 = .ok (.invokevirtual 93, 3) := by decide +kernel
theorem dX5_lasts_155 : decode cX5_lasts 155 = .ok (.iload_n 3, 1) := by decide +kernel
theorem dX5_lasts_156 : decode cX5_lasts 156 = .ok (.iadd, 1) := by decide +kernel
theorem dX5_lasts_157 : decode cX5_lasts 157 = .ok (.iload_n 2, 1) := by decide +kernel
theorem dX5_lasts_158 : decode cX5_lasts 158 = .ok (.if_icmp .lt 7, 3) := by decide +kernel
theorem dX5_lasts_161 : decode cX5_lasts 161 = .ok (.iconst 1, 1) := by decide +kernel
theorem dX5_lasts_162 : decode cX5_lasts 162 = .ok (.goto 4, 3) := by decide +kernel
theorem dX5_lasts_165 : decode cX5_lasts 165 = .ok (.iconst 0, 1) := by decide +kernel
theorem dX5_lasts_166 : decode cX5_lasts 166 = .ok (.istore 8, 2) := by decide +kernel
theorem dX5_lasts_168 : decode cX5_lasts 168 = .ok (.iload 8, 2) := by decide +kernel
theorem dX5_lasts_170 : decode cX5_lasts 170 = .ok (.ifCond .eq 30, 3) := by decide +kernel
theorem dX5_lasts_173 : decode cX5_lasts 173 = .ok (.iload 6, 2) := by decide +kernel
theorem dX5_lasts_175 : decode cX5_lasts 175 = .ok (.ifCond .lt 20, 3) := by decide +kernel
theorem dX5_lasts_178 : decode cX5_lasts 178 = .ok (.aload_n 0, 1) := by decide +kernel
theorem dX5_lasts_179 : decode cX5_lasts 179 = .ok (.getfield 22, 3) := by decide +kernel
theorem dX5_lasts_182 : decode cX5_lasts 182 = .ok (.iload 7, 2) := by decide +kernel
theorem dX5_lasts_184 : decode cX5_lasts 184 = .ok (.iaload, 1) := by decide +kernel
theorem dX5_lasts_185 : decode cX5_lasts 185 = .ok (.aload_n 0, 1) := by decide +kernel
theorem dX5_lasts_186 : decode cX5_lasts 186 = .ok (.getfield 22, 3) := by decide +kernel
theorem dX5_lasts_189 : decode cX5_lasts 189 = .ok (.iload 6, 2) := by decide +kernel
theorem dX5_lasts_191 : decode cX5_lasts 191 = .ok (.iaload, 1) := by decide +kernel
theorem dX5_lasts_192 : decode cX5_lasts 192 = .ok (.if_icmp .ge 8, 3) := by decide +kernel
theorem dX5_lasts_195 : decode cX5_lasts 195 = .ok (.iload 7, 2) := by decide +kernel
theorem dX5_lasts_197 : decode cX5_lasts 197 = .ok (.goto 5, 3) := by decide +kernel
theorem dX5_lasts_200 : decode cX5_lasts 200 = .ok (.iload 6, 2) := by decide +kernel
theorem dX5_lasts_202 : decode cX5_lasts 202 = .ok (.istore 6, 2) := by decide +kernel
theorem dX5_lasts_204 : decode cX5_lasts 204 = .ok (.iinc 7 1, 3) := by decide +kernel
theorem dX5_lasts_207 : decode cX5_lasts 207 = .ok (.goto (-77), 3) := by decide +kernel
theorem dX5_lasts_210 : decode cX5_lasts 210 = .ok (.aload_n 0, 1) := by decide +kernel
theorem dX5_lasts_211 : decode cX5_lasts 211 = .ok (.getfield 50, 3) := by decide +kernel
theorem dX5_lasts_214 : decode cX5_lasts 214 = .ok (.iload 6, 2) := by decide +kernel
theorem dX5_lasts_216 : decode cX5_lasts 216 = .ok (.iaload, 1) := by decide +kernel
theorem dX5_lasts_217 : decode cX5_lasts 217 = .ok (.iload 5, 2) := by decide +kernel
theorem dX5_lasts_219 : decode cX5_lasts 219 = .ok (.if_icmp .ge 13, 3) := by decide +kernel
theorem dX5_lasts_222 : decode cX5_lasts 222 = .ok (.aload_n 0, 1) := by decide +kernel
theorem dX5_lasts_223 : decode cX5_lasts 223 = .ok (.getfield 50, 3) := by decide +kernel
theorem dX5_lasts_226 : decode cX5_lasts 226 = .ok (.iload 6, 2) := by decide +kernel
theorem dX5_lasts_228 : decode cX5_lasts 228 = .ok (.iaload, 1) := by decide +kernel
theorem dX5_lasts_229 : decode cX5_lasts 229 = .ok (.goto 5, 3) := by decide +kernel
theorem dX5_lasts_232 : decode cX5_lasts 232 = .ok (.iload 5, 2) := by decide +kernel
theorem dX5_lasts_234 : decode cX5_lasts 234 = .ok (.istore 7, 2) := by decide +kernel
theorem dX5_lasts_236 : decode cX5_lasts 236 = .ok (.aload_n 0, 1) := by decide +kernel
theorem dX5_lasts_237 : decode cX5_lasts 237 = .ok (.getfield 50, 3) := by decide +kernel
theorem dX5_lasts_240 : decode cX5_lasts 240 = .ok (.iload 6, 2) := by decide +kernel
theorem dX5_lasts_242 : decode cX5_lasts 242 = .ok (.dup2, 1) := by decide +kernel
theorem dX5_lasts_243 : decode cX5_lasts 243 = .ok (.iaload, 1) := by decide +kernel
theorem dX5_lasts_244 : decode cX5_lasts 244 = .ok (.iload 7, 2) := by decide +kernel
theorem dX5_lasts_246 : decode cX5_lasts 246 = .ok (.isub, 1) := by decide +kernel
theorem dX5_lasts_247 : decode cX5_lasts 247 = .ok (.iastore, 1) := by decide +kernel
theorem dX5_lasts_248 : decode cX5_lasts 248 = .ok (.iload 5, 2) := by decide +kernel
theorem dX5_lasts_250 : decode cX5_lasts 250 = .ok (.iload 7, 2) := by decide +kernel
theorem dX5_lasts_252 : decode cX5_lasts 252 = .ok (.isub, 1) := by decide +kernel
theorem dX5_lasts_253 : decode cX5_lasts 253 = .ok (.istore 5, 2) := by decide +kernel
theorem dX5_lasts_255 : decode cX5_lasts 255 = .ok (.goto (-136), 3) := by decide +kernel
theorem dX5_lasts_258 : decode cX5_lasts 258 = .ok (.iconst 0, 1) := by decide +kernel
theorem dX5_lasts_259 : decode cX5_lasts 259 = .ok (.istore 6, 2) := by decide +kernel
theorem dX5_lasts_261 : decode cX5_lasts 261 = .ok (.iload 6, 2) := by decide +kernel
theorem dX5_lasts_263 : decode cX5_lasts 263 = .ok (.aload_n 0, 1) := by decide +kernel
theorem dX5_lasts_264 : decode cX5_lasts 264 = .ok (.getfield 63, 3) := by decide +kernel
theorem dX5_lasts_267 : decode cX5_lasts 267 = .ok (.if_icmp .ge 50, 3) := by decide +kernel
theorem dX5_lasts_270 : decode cX5_lasts 270 = .ok (.aload_n 0, 1) := by decide +kernel
theorem dX5_lasts_271 : decode cX5_lasts 271 = .ok (.getfield 50, 3) := by decide +kernel
theorem dX5_lasts_274 : decode cX5_lasts 274 = .ok (.iload 6, 2) := by decide +kernel
theorem dX5_lasts_276 : decode cX5_lasts 276 = .ok (.dup2, 1) := by decide +kernel
theorem dX5_lasts_277 : decode cX5_lasts 277 = .ok (.iaload, 1) := by decide +kernel
theorem dX5_lasts_278 : decode cX5_lasts 278 = .ok (.aload_n 0, 1) := by decide +kernel
theorem dX5_lasts_279 : decode cX5_lasts 279 = .ok (.getfield 50, 3) := by decide +kernel
theorem dX5_lasts_282 : decode cX5_lasts 282 = .ok (.iload 6, 2) := by decide +kernel
theorem dX5_lasts_284 : decode cX5_lasts 284 = .ok (.iaload, 1) := by decide +kernel
theorem dX5_lasts_285 : decode cX5_lasts 285 = .ok (.aload_n 0, 1) := by decide +kernel
theorem dX5_lasts_286 : decode cX5_lasts 286 = .ok (.iload 6, 2) := by decide +kernel
theorem dX5_lasts_288 : decode cX5_lasts 288 = .ok (.aload_n 0, 1) := by decide +kernel
theorem dX5_lasts_289 : decode cX5_lasts 289 = .ok (.getfield 7, 3) := by decide +kernel
theorem dX5_lasts_292 : decode cX5_lasts 292 = .ok (.iload 6, 2) := by decide +kernel
theorem dX5_lasts_294 : decode cX5_lasts 294 = .ok (.iaload, 1) := by decide +kernel
theorem dX5_lasts_295 : decode cX5_lasts 295 = .ok (.aload_n 0, 1) := by decide +kernel
theorem dX5_lasts_296 : decode cX5_lasts 296 = .ok (.iload 6, 2) := by decide +kernel
theorem dX5_lasts_298 : decode cX5_lasts 298 = .ok (.invokevirtual 93, 3) := by decide +kernel
theorem dX5_lasts_301 : decode cX5_lasts 301 = .ok (.iload_n 3, 1) := by decide +kernel
theorem dX5_lasts_302 : decode cX5_lasts 302 = .ok (.iadd, 1) := by decide +kernel
theorem dX5_lasts_303 : decode cX5_lasts 303 = .ok (.invokevirtual 70, 3) := by decide +kernel
theorem dX5_lasts_306 : decode cX5_lasts 306 = .ok (.invokestatic 74, 3) := by decide +kernel
theorem dX5_lasts_309 : decode cX5_lasts 309 = .ok (.isub, 1) := by decide +kernel
theorem dX5_lasts_310 : decode cX5_lasts 310 = .ok (.iastore, 1) := by decide +kernel
theorem dX5_lasts_311 : decode cX5_lasts 311 = .ok (.iinc 6 1, 3) := by decide +kernel
theorem dX5_lasts_314 : decode cX5_lasts 314 = .ok (.goto (-53), 3) := by decide +kernel
theorem dX5_lasts_317 : decode cX5_lasts 317 = .ok (.iinc 3 1, 3) := by decide +kernel
theorem dX5_lasts_320 : decode cX5_lasts 320 = .ok (.goto (-267), 3) := by decide +kernel
theorem dX5_lasts_323 : decode cX5_lasts 323 = .ok (.bipush 30, 2) := by decide +kernel
theorem dX5_lasts_325 : decode cX5_lasts 325 = .ok (.ireturn, 1) := by decide +kernel
theorem dX5_cut_0 : decode cX5_cut 0 = .ok (.aload_n 0, 1) := by decide +kernel
theorem dX5_cut_1 : decode cX5_cut 1 = .ok (.iload_n 1, 1) := by decide +kernel
theorem dX5_cut_2 : decode cX5_cut 2 = .ok (.invokevirtual 81, 3) := by decide +kernel
theorem dX5_cut_5 : decode cX5_cut 5 = .ok (.ifCond .eq 16, 3) := by decide +kernel
theorem dX5_cut_8 : decode cX5_cut 8 = .ok (.iload_n 2, 1) := by decide +kernel
theorem dX5_cut_9 : decode cX5_cut 9 = .ok (.sipush 300, 3) := by decide +kernel
theorem dX5_cut_12 : decode cX5_cut 12 = .ok (.sipush 700, 3) := by decide +kernel
theorem dX5_cut_15 : decode cX5_cut 15 = .ok (.invokestatic 66, 3) := by decide +kernel
theorem dX5_cut_18 : decode cX5_cut 18 = .ok (.ifCond .ne 5, 3) := by decide +kernel
theorem dX5_cut_21 : decode cX5_cut 21 = .ok (.iconst (-1), 1) := by decide +kernel
theorem dX5_cut_22 : decode cX5_cut 22 = .ok (.ireturn, 1) := by decide +kernel
theorem dX5_cut_23 : decode cX5_cut 23 = .ok (.aload_n 0, 1) := by decide +kernel
theorem dX5_cut_24 : decode cX5_cut 24 = .ok (.getfield 16, 3) := by decide +kernel
theorem dX5_cut_27 : decode cX5_cut 27 = .ok (.iload_n 1, 1) := by decide +kernel
theorem dX5_cut_28 : decode cX5_cut 28 = .ok (.iaload, 1) := by decide +kernel
theorem dX5_cut_29 : decode cX5_cut 29 = .ok (.iload_n 2, 1) := by decide +kernel
theorem dX5_cut_30 : decode cX5_cut 30 = .ok (.isub, 1) := by decide +kernel
theorem dX5_cut_31 : decode cX5_cut 31 = .ok (.istore_n 3, 1) := by decide +kernel
theorem dX5_cut_32 : decode cX5_cut 32 = .ok (.iload_n 3, 1) := by decide +kernel
theorem dX5_cut_33 : decode cX5_cut 33 = .ok (.ifCond .gt 7, 3) := by decide +kernel
theorem dX5_cut_36 : decode cX5_cut 36 = .ok (.iconst 0, 1) := by decide +kernel
theorem dX5_cut_37 : decode cX5_cut 37 = .ok (.goto 17, 3) := by decide +kernel
theorem dX5_cut_40 : decode cX5_cut 40 = .ok (.aload_n 0, 1) := by decide +kernel
theorem dX5_cut_41 : decode cX5_cut 41 = .ok (.getfield 13, 3) := by decide +kernel
theorem dX5_cut_44 : decode cX5_cut 44 = .ok (.iload_n 1, 1) := by decide +kernel
theorem dX5_cut_45 : decode cX5_cut 45 = .ok (.iaload, 1) := by decide +kernel
theorem dX5_cut_46 : decode cX5_cut 46 = .ok (.iload_n 3, 1) := by decide +kernel
theorem dX5_cut_47 : decode cX5_cut 47 = .ok (.imul, 1) := by decide +kernel
theorem dX5_cut_48 : decode cX5_cut 48 = .ok (.iload_n 2, 1) := by decide +kernel
theorem dX5_cut_49 : decode cX5_cut 49 = .ok (.iadd, 1) := by decide +kernel
theorem dX5_cut_50 : decode cX5_cut 50 = .ok (.iconst 1, 1) := by decide +kernel
theorem dX5_cut_51 : decode cX5_cut 51 = .ok (.isub, 1) := by decide +kernel
theorem dX5_cut_52 : decode cX5_cut 52 = .ok (.iload_n 2, 1) := by decide +kernel
theorem dX5_cut_53 : decode cX5_cut 53 = .ok (.idiv, 1) := by decide +kernel
theorem dX5_cut_54 : decode cX5_cut 54 = .ok (.ireturn, 1) := by decide +kernel
theorem dX5_rate_0 : decode cX5_rate 0 = .ok (.iload_n 1, 1) := by decide +kernel
theorem dX5_rate_1 : decode cX5_rate 1 = .ok (.iconst 0, 1) := by decide +kernel
theorem dX5_rate_2 : decode cX5_rate 2 = .ok (.bipush 100, 2) := by decide +kernel
theorem dX5_rate_4 : decode cX5_rate 4 = .ok (.invokestatic 66, 3) := by decide +kernel
theorem dX5_rate_7 : decode cX5_rate 7 = .ok (.ifCond .ne 5, 3) := by decide +kernel
theorem dX5_rate_10 : decode cX5_rate 10 = .ok (.iconst (-1), 1) := by decide +kernel
theorem dX5_rate_11 : decode cX5_rate 11 = .ok (.ireturn, 1) := by decide +kernel
theorem dX5_rate_12 : decode cX5_rate 12 = .ok (.aload_n 0, 1) := by decide +kernel
theorem dX5_rate_13 : decode cX5_rate 13 = .ok (.getfield 37, 3) := by decide +kernel
theorem dX5_rate_16 : decode cX5_rate 16 = .ok (.istore_n 2, 1) := by decide +kernel
theorem dX5_rate_17 : decode cX5_rate 17 = .ok (.aload_n 0, 1) := by decide +kernel
theorem dX5_rate_18 : decode cX5_rate 18 = .ok (.iload_n 1, 1) := by decide +kernel
theorem dX5_rate_19 : decode cX5_rate 19 = .ok (.putfield 37, 3) := by decide +kernel
theorem dX5_rate_22 : decode cX5_rate 22 = .ok (.iload_n 2, 1) := by decide +kernel
theorem dX5_rate_23 : decode cX5_rate 23 = .ok (.ireturn, 1) := by decide +kernel
theorem dX5_duty_0 : decode cX5_duty 0 = .ok (.iload_n 1, 1) := by decide +kernel
theorem dX5_duty_1 : decode cX5_duty 1 = .ok (.iconst 0, 1) := by decide +kernel
theorem dX5_duty_2 : decode cX5_duty 2 = .ok (.iconst 1, 1) := by decide +kernel
theorem dX5_duty_3 : decode cX5_duty 3 = .ok (.aload_n 0, 1) := by decide +kernel
theorem dX5_duty_4 : decode cX5_duty 4 = .ok (.getfield 63, 3) := by decide +kernel
theorem dX5_duty_7 : decode cX5_duty 7 = .ok (.ishl, 1) := by decide +kernel
theorem dX5_duty_8 : decode cX5_duty 8 = .ok (.iconst 1, 1) := by decide +kernel
theorem dX5_duty_9 : decode cX5_duty 9 = .ok (.isub, 1) := by decide +kernel
theorem dX5_duty_10 : decode cX5_duty 10 = .ok (.invokestatic 66, 3) := by decide +kernel
theorem dX5_duty_13 : decode cX5_duty 13 = .ok (.ifCond .ne 5, 3) := by decide +kernel
theorem dX5_duty_16 : decode cX5_duty 16 = .ok (.iconst (-1), 1) := by decide +kernel
theorem dX5_duty_17 : decode cX5_duty 17 = .ok (.ireturn, 1) := by decide +kernel
theorem dX5_duty_18 : decode cX5_duty 18 = .ok (.iconst 0, 1) := by decide +kernel
theorem dX5_duty_19 : decode cX5_duty 19 = .ok (.istore_n 2, 1) := by decide +kernel
theorem dX5_duty_20 : decode cX5_duty 20 = .ok (.iconst 0, 1) := by decide +kernel
theorem dX5_duty_21 : decode cX5_duty 21 = .ok (.istore_n 3, 1) := by decide +kernel
theorem dX5_duty_22 : decode cX5_duty 22 = .ok (.iload_n 3, 1) := by decide +kernel
theorem dX5_duty_23 : decode cX5_duty 23 = .ok (.aload_n 0, 1) := by decide +kernel
theorem dX5_duty_24 : decode cX5_duty 24 = .ok (.getfield 63, 3) := by decide +kernel
theorem dX5_duty_27 : decode cX5_duty 27 = .ok (.if_icmp .ge 46, 3) := by decide +kernel
theorem dX5_duty_30 : decode cX5_duty 30 = .ok (.iload_n 2, 1) := by decide +kernel
theorem dX5_duty_31 : decode cX5_duty 31 = .ok (.iload_n 1, 1) := by decide +kernel
theorem dX5_duty_32 : decode cX5_duty 32 = .ok (.iload_n 3, 1) := by decide +kernel
theorem dX5_duty_33 : decode cX5_duty 33 = .ok (.invokestatic 101, 3) := by decide +kernel
theorem dX5_duty_36 : decode cX5_duty 36 = .ok (.ifCond .eq 28, 3) := by decide +kernel
theorem dX5_duty_39 : decode cX5_duty 39 = .ok (.aload_n 0, 1) := by decide +kernel
theorem dX5_duty_40 : decode cX5_duty 40 = .ok (.getfield 13, 3) := by decide +kernel
theorem dX5_duty_43 : decode cX5_duty 43 = .ok (.iload_n 3, 1) := by decide +kernel
theorem dX5_duty_44 : decode cX5_duty 44 = .ok (.iaload, 1) := by decide +kernel
theorem dX5_duty_45 : decode cX5_duty 45 = .ok (.aload_n 0, 1) := by decide +kernel
theorem dX5_duty_46 : decode cX5_duty 46 = .ok (.getfield 16, 3) := by decide +kernel
theorem dX5_duty_49 : decode cX5_duty 49 = .ok (.iload_n 3, 1) := by decide +kernel
theorem dX5_duty_50 : decode cX5_duty 50 = .ok (.iaload, 1) := by decide +kernel
theorem dX5_duty_51 : decode cX5_duty 51 = .ok (.imul, 1) := by decide +kernel
theorem dX5_duty_52 : decode cX5_duty 52 = .ok (.sipush 1000, 3) := by decide +kernel
theorem dX5_duty_55 : decode cX5_duty 55 = .ok (.idiv, 1) := by decide +kernel
theorem dX5_duty_56 : decode cX5_duty 56 = .ok (.aload_n 0, 1) := by decide +kernel
theorem dX5_duty_57 : decode cX5_duty 57 = .ok (.getfield 37, 3) := by decide +kernel
theorem dX5_duty_60 : decode cX5_duty 60 = .ok (.imul, 1) := by decide +kernel
theorem dX5_duty_61 : decode cX5_duty 61 = .ok (.goto 4, 3) := by decide +kernel
theorem dX5_duty_64 : decode cX5_duty 64 = .ok (.iconst 0, 1) := by decide +kernel
theorem dX5_duty_65 : decode cX5_duty 65 = .ok (.iadd, 1) := by decide +kernel
theorem dX5_duty_66 : decode cX5_duty 66 = .ok (.istore_n 2, 1) := by decide +kernel
theorem dX5_duty_67 : decode cX5_duty 67 = .ok (.iinc 3 1, 3) := by decide +kernel
theorem dX5_duty_70 : decode cX5_duty 70 = .ok (.goto (-48), 3) := by decide +kernel
theorem dX5_duty_73 : decode cX5_duty 73 = .ok (.iload_n 2, 1) := by decide +kernel
theorem dX5_duty_74 : decode cX5_duty 74 = .ok (.ireturn, 1) := by decide +kernel
theorem dX5_ways_0 : decode cX5_ways 0 = .ok (.lconst 0, 1) := by decide +kernel
theorem dX5_ways_1 : decode cX5_ways 1 = .ok (.lstore_n 2, 1) := by decide +kernel
theorem dX5_ways_2 : decode cX5_ways 2 = .ok (.iload_n 1, 1) := by decide +kernel
theorem dX5_ways_3 : decode cX5_ways 3 = .ok (.istore 4, 2) := by decide +kernel
theorem dX5_ways_5 : decode cX5_ways 5 = .ok (.iload 4, 2) := by decide +kernel
theorem dX5_ways_7 : decode cX5_ways 7 = .ok (.iload_n 0, 1) := by decide +kernel
theorem dX5_ways_8 : decode cX5_ways 8 = .ok (.if_icmp .gt 55, 3) := by decide +kernel
theorem dX5_ways_11 : decode cX5_ways 11 = .ok (.lconst 1, 1) := by decide +kernel
theorem dX5_ways_12 : decode cX5_ways 12 = .ok (.lstore 5, 2) := by decide +kernel
theorem dX5_ways_14 : decode cX5_ways 14 = .ok (.iconst 1, 1) := by decide +kernel
theorem dX5_ways_15 : decode cX5_ways 15 = .ok (.istore 7, 2) := by decide +kernel
theorem dX5_ways_17 : decode cX5_ways 17 = .ok (.iload 7, 2) := by decide +kernel
theorem dX5_ways_19 : decode cX5_ways 19 = .ok (.iload 4, 2) := by decide +kernel
theorem dX5_ways_21 : decode cX5_ways 21 = .ok (.if_icmp .gt 26, 3) := by decide +kernel
theorem dX5_ways_24 : decode cX5_ways 24 = .ok (.lload 5, 2) := by decide +kernel
theorem dX5_ways_26 : decode cX5_ways 26 = .ok (.iload_n 0, 1) := by decide +kernel
theorem dX5_ways_27 : decode cX5_ways 27 = .ok (.iload 4, 2) := by decide +kernel
theorem dX5_ways_29 : decode cX5_ways 29 = .ok (.isub, 1) := by decide +kernel
theorem dX5_ways_30 : decode cX5_ways 30 = .ok (.iload 7, 2) := by decide +kernel
theorem dX5_ways_32 : decode cX5_ways 32 = .ok (.iadd, 1) := by decide +kernel
theorem dX5_ways_33 : decode cX5_ways 33 = .ok (.i2l, 1) := by decide +kernel
theorem dX5_ways_34 : decode cX5_ways 34 = .ok (.lmul, 1) := by decide +kernel
theorem dX5_ways_35 : decode cX5_ways 35 = .ok (.iload 7, 2) := by decide +kernel
theorem dX5_ways_37 : decode cX5_ways 37 = .ok (.i2l, 1) := by decide +kernel
theorem dX5_ways_38 : decode cX5_ways 38 = .ok (.ldiv, 1) := by decide +kernel
theorem dX5_ways_39 : decode cX5_ways 39 = .ok (.lstore 5, 2) := by decide +kernel
theorem dX5_ways_41 : decode cX5_ways 41 = .ok (.iinc 7 1, 3) := by decide +kernel
theorem dX5_ways_44 : decode cX5_ways 44 = .ok (.goto (-27), 3) := by decide +kernel
theorem dX5_ways_47 : decode cX5_ways 47 = .ok (.lload_n 2, 1) := by decide +kernel
theorem dX5_ways_48 : decode cX5_ways 48 = .ok (.lload 5, 2) := by decide +kernel
theorem dX5_ways_50 : decode cX5_ways 50 = .ok (.iload_n 0, 1) := by decide +kernel
theorem dX5_ways_51 : decode cX5_ways 51 = .ok (.iload 4, 2) := by decide +kernel
theorem dX5_ways_53 : decode cX5_ways 53 = .ok (.isub, 1) := by decide +kernel
theorem dX5_ways_54 : decode cX5_ways 54 = .ok (.lshl, 1) := by decide +kernel
theorem dX5_ways_55 : decode cX5_ways 55 = .ok (.ladd, 1) := by decide +kernel
theorem dX5_ways_56 : decode cX5_ways 56 = .ok (.lstore_n 2, 1) := by decide +kernel
theorem dX5_ways_57 : decode cX5_ways 57 = .ok (.iinc 4 1, 3) := by decide +kernel
theorem dX5_ways_60 : decode cX5_ways 60 = .ok (.goto (-55), 3) := by decide +kernel
theorem dX5_ways_63 : decode cX5_ways 63 = .ok (.lload_n 2, 1) := by decide +kernel
theorem dX5_ways_64 : decode cX5_ways 64 = .ok (.lreturn, 1) := by decide +kernel
theorem dX5_odds_0 : decode cX5_odds 0 = .ok (.iload_n 1, 1) := by decide +kernel
theorem dX5_odds_1 : decode cX5_odds 1 = .ok (.iconst 1, 1) := by decide +kernel
theorem dX5_odds_2 : decode cX5_odds 2 = .ok (.bipush 20, 2) := by decide +kernel
theorem dX5_odds_4 : decode cX5_odds 4 = .ok (.invokestatic 66, 3) := by decide +kernel
theorem dX5_odds_7 : decode cX5_odds 7 = .ok (.ifCond .eq 20, 3) := by decide +kernel
