theorem dX0_init_0 : decode cX0_init 0 = .ok (.aload_n 0, 1) := by decide +kernel
theorem dX0_init_1 : decode cX0_init 1 = .ok (.invokespecial 3, 3) := by decide +kernel
theorem dX0_init_4 : decode cX0_init 4 = .ok (.return_, 1) := by decide +kernel
theorem dX0_fill_0 : decode cX0_fill 0 = .ok (.aload_n 0, 1) := by decide +kernel
theorem dX0_fill_1 : decode cX0_fill 1 = .ok (.iload_n 1, 1) := by decide +kernel
theorem dX0_fill_2 : decode cX0_fill 2 = .ok (.putfield 9, 3) := by decide +kernel
theorem dX0_fill_5 : decode cX0_fill 5 = .ok (.aload_n 0, 1) := by decide +kernel
theorem dX0_fill_6 : decode cX0_fill 6 = .ok (.iload_n 2, 1) := by decide +kernel
theorem dX0_fill_7 : decode cX0_fill 7 = .ok (.putfield 15, 3) := by decide +kernel
theorem dX0_fill_10 : decode cX0_fill 10 = .ok (.aload_n 0, 1) := by decide +kernel
theorem dX0_fill_11 : decode cX0_fill 11 = .ok (.iload_n 3, 1) := by decide +kernel
theorem dX0_fill_12 : decode cX0_fill 12 = .ok (.putfield 18, 3) := by decide +kernel
theorem dX0_fill_15 : decode cX0_fill 15 = .ok (.aload_n 0, 1) := by decide +kernel
theorem dX0_fill_16 : decode cX0_fill 16 = .ok (.iload 4, 2) := by decide +kernel
theorem dX0_fill_18 : decode cX0_fill 18 = .ok (.putfield 21, 3) := by decide +kernel
theorem dX0_fill_21 : decode cX0_fill 21 = .ok (.aload_n 0, 1) := by decide +kernel
theorem dX0_fill_22 : decode cX0_fill 22 = .ok (.iload 5, 2) := by decide +kernel
theorem dX0_fill_24 : decode cX0_fill 24 = .ok (.putfield 24, 3) := by decide +kernel
theorem dX0_fill_27 : decode cX0_fill 27 = .ok (.aload_n 0, 1) := by decide +kernel
theorem dX0_fill_28 : decode cX0_fill 28 = .ok (.iload 6, 2) := by decide +kernel
theorem dX0_fill_30 : decode cX0_fill 30 = .ok (.putfield 27, 3) := by decide +kernel
theorem dX0_fill_33 : decode cX0_fill 33 = .ok (.return_, 1) := by decide +kernel
theorem dX0_age_0 : decode cX0_age 0 = .ok (.iload_n 1, 1) := by decide +kernel
theorem dX0_age_1 : decode cX0_age 1 = .ok (.aload_n 0, 1) := by decide +kernel
theorem dX0_age_2 : decode cX0_age 2 = .ok (.getfield 27, 3) := by decide +kernel
theorem dX0_age_5 : decode cX0_age 5 = .ok (.isub, 1) := by decide +kernel
theorem dX0_age_6 : decode cX0_age 6 = .ok (.ireturn, 1) := by decide +kernel
theorem dX0_cost_0 : decode cX0_cost 0 = .ok (.bipush 20, 2) := by decide +kernel
theorem dX0_cost_2 : decode cX0_cost 2 = .ok (.iconst 3, 1) := by decide +kernel
theorem dX0_cost_3 : decode cX0_cost 3 = .ok (.aload_n 0, 1) := by decide +kernel
theorem dX0_cost_4 : decode cX0_cost 4 = .ok (.iload_n 1, 1) := by decide +kernel
theorem dX0_cost_5 : decode cX0_cost 5 = .ok (.invokevirtual 30, 3) := by decide +kernel
theorem dX0_cost_8 : decode cX0_cost 8 = .ok (.imul, 1) := by decide +kernel
theorem dX0_cost_9 : decode cX0_cost 9 = .ok (.iadd, 1) := by decide +kernel
theorem dX0_cost_10 : decode cX0_cost 10 = .ok (.aload_n 0, 1) := by decide +kernel
theorem dX0_cost_11 : decode cX0_cost 11 = .ok (.getfield 15, 3) := by decide +kernel
theorem dX0_cost_14 : decode cX0_cost 14 = .ok (.imul, 1) := by decide +kernel
theorem dX0_cost_15 : decode cX0_cost 15 = .ok (.bipush 100, 2) := by decide +kernel
theorem dX0_cost_17 : decode cX0_cost 17 = .ok (.invokestatic 34, 3) := by decide +kernel
theorem dX0_cost_20 : decode cX0_cost 20 = .ok (.ireturn, 1) := by decide +kernel
theorem dX0_lossIn_0 : decode cX0_lossIn 0 = .ok (.aload_n 0, 1) := by decide +kernel
theorem dX0_lossIn_1 : decode cX0_lossIn 1 = .ok (.getfield 9, 3) := by decide +kernel
theorem dX0_lossIn_4 : decode cX0_lossIn 4 = .ok (.aload_n 0, 1) := by decide +kernel
theorem dX0_lossIn_5 : decode cX0_lossIn 5 = .ok (.getfield 21, 3) := by decide +kernel
theorem dX0_lossIn_8 : decode cX0_lossIn 8 = .ok (.aload_n 0, 1) := by decide +kernel
theorem dX0_lossIn_9 : decode cX0_lossIn 9 = .ok (.iload_n 1, 1) := by decide +kernel
theorem dX0_lossIn_10 : decode cX0_lossIn 10 = .ok (.invokevirtual 30, 3) := by decide +kernel
theorem dX0_lossIn_13 : decode cX0_lossIn 13 = .ok (.invokestatic 38, 3) := by decide +kernel
theorem dX0_lossIn_16 : decode cX0_lossIn 16 = .ok (.ireturn, 1) := by decide +kernel
theorem dX0_passYear_0 : decode cX0_passYear 0 = .ok (.aload_n 0, 1) := by decide +kernel
theorem dX0_passYear_1 : decode cX0_passYear 1 = .ok (.iload_n 1, 1) := by decide +kernel
theorem dX0_passYear_2 : decode cX0_passYear 2 = .ok (.invokevirtual 42, 3) := by decide +kernel
theorem dX0_passYear_5 : decode cX0_passYear 5 = .ok (.istore_n 2, 1) := by decide +kernel
theorem dX0_passYear_6 : decode cX0_passYear 6 = .ok (.aload_n 0, 1) := by decide +kernel
theorem dX0_passYear_7 : decode cX0_passYear 7 = .ok (.dup, 1) := by decide +kernel
theorem dX0_passYear_8 : decode cX0_passYear 8 = .ok (.getfield 15, 3) := by decide +kernel
theorem dX0_passYear_11 : decode cX0_passYear 11 = .ok (.aload_n 0, 1) := by decide +kernel
theorem dX0_passYear_12 : decode cX0_passYear 12 = .ok (.getfield 15, 3) := by decide +kernel
theorem dX0_passYear_15 : decode cX0_passYear 15 = .ok (.iload_n 2, 1) := by decide +kernel
theorem dX0_passYear_16 : decode cX0_passYear 16 = .ok (.invokestatic 45, 3) := by decide +kernel
theorem dX0_passYear_19 : decode cX0_passYear 19 = .ok (.isub, 1) := by decide +kernel
theorem dX0_passYear_20 : decode cX0_passYear 20 = .ok (.putfield 15, 3) := by decide +kernel
theorem dX0_passYear_23 : decode cX0_passYear 23 = .ok (.aload_n 0, 1) := by decide +kernel
theorem dX0_passYear_24 : decode cX0_passYear 24 = .ok (.dup, 1) := by decide +kernel
theorem dX0_passYear_25 : decode cX0_passYear 25 = .ok (.getfield 48, 3) := by decide +kernel
theorem dX0_passYear_28 : decode cX0_passYear 28 = .ok (.iconst 0, 1) := by decide +kernel
theorem dX0_passYear_29 : decode cX0_passYear 29 = .ok (.iload_n 2, 1) := by decide +kernel
theorem dX0_passYear_30 : decode cX0_passYear 30 = .ok (.bipush 10, 2) := by decide +kernel
theorem dX0_passYear_32 : decode cX0_passYear 32 = .ok (.isub, 1) := by decide +kernel
theorem dX0_passYear_33 : decode cX0_passYear 33 = .ok (.invokestatic 51, 3) := by decide +kernel
theorem dX0_passYear_36 : decode cX0_passYear 36 = .ok (.iadd, 1) := by decide +kernel
theorem dX0_passYear_37 : decode cX0_passYear 37 = .ok (.putfield 48, 3) := by decide +kernel
theorem dX0_passYear_40 : decode cX0_passYear 40 = .ok (.aload_n 0, 1) := by decide +kernel
theorem dX0_passYear_41 : decode cX0_passYear 41 = .ok (.dup, 1) := by decide +kernel
theorem dX0_passYear_42 : decode cX0_passYear 42 = .ok (.getfield 24, 3) := by decide +kernel
theorem dX0_passYear_45 : decode cX0_passYear 45 = .ok (.aload_n 0, 1) := by decide +kernel
theorem dX0_passYear_46 : decode cX0_passYear 46 = .ok (.getfield 24, 3) := by decide +kernel
theorem dX0_passYear_49 : decode cX0_passYear 49 = .ok (.bipush 10, 2) := by decide +kernel
theorem dX0_passYear_51 : decode cX0_passYear 51 = .ok (.invokestatic 34, 3) := by decide +kernel
theorem dX0_passYear_54 : decode cX0_passYear 54 = .ok (.isub, 1) := by decide +kernel
theorem dX0_passYear_55 : decode cX0_passYear 55 = .ok (.putfield 24, 3) := by decide +kernel
theorem dX0_passYear_58 : decode cX0_passYear 58 = .ok (.aload_n 0, 1) := by decide +kernel
theorem dX0_passYear_59 : decode cX0_passYear 59 = .ok (.dup, 1) := by decide +kernel
theorem dX0_passYear_60 : decode cX0_passYear 60 = .ok (.getfield 56, 3) := by decide +kernel
theorem dX0_passYear_63 : decode cX0_passYear 63 = .ok (.bipush 6, 2) := by decide +kernel
theorem dX0_passYear_65 : decode cX0_passYear 65 = .ok (.iconst 2, 1) := by decide +kernel
theorem dX0_passYear_66 : decode cX0_passYear 66 = .ok (.aload_n 0, 1) := by decide +kernel
theorem dX0_passYear_67 : decode cX0_passYear 67 = .ok (.getfield 9, 3) := by decide +kernel
theorem dX0_passYear_70 : decode cX0_passYear 70 = .ok (.imul, 1) := by decide +kernel
theorem dX0_passYear_71 : decode cX0_passYear 71 = .ok (.isub, 1) := by decide +kernel
theorem dX0_passYear_72 : decode cX0_passYear 72 = .ok (.iadd, 1) := by decide +kernel
theorem dX0_passYear_73 : decode cX0_passYear 73 = .ok (.putfield 56, 3) := by decide +kernel
theorem dX0_passYear_76 : decode cX0_passYear 76 = .ok (.aload_n 0, 1) := by decide +kernel
theorem dX0_passYear_77 : decode cX0_passYear 77 = .ok (.sipush 400, 3) := by decide +kernel
theorem dX0_passYear_80 : decode cX0_passYear 80 = .ok (.aload_n 0, 1) := by decide +kernel
theorem dX0_passYear_81 : decode cX0_passYear 81 = .ok (.getfield 18, 3) := by decide +kernel
theorem dX0_passYear_84 : decode cX0_passYear 84 = .ok (.iconst 3, 1) := by decide +kernel
theorem dX0_passYear_85 : decode cX0_passYear 85 = .ok (.isub, 1) := by decide +kernel
theorem dX0_passYear_86 : decode cX0_passYear 86 = .ok (.invokestatic 51, 3) := by decide +kernel
theorem dX0_passYear_89 : decode cX0_passYear 89 = .ok (.putfield 18, 3) := by decide +kernel
theorem dX0_passYear_92 : decode cX0_passYear 92 = .ok (.return_, 1) := by decide +kernel
theorem dX1_init_0 : decode cX1_init 0 = .ok (.aload_n 0, 1) := by decide +kernel
theorem dX1_init_1 : decode cX1_init 1 = .ok (.invokespecial 3, 3) := by decide +kernel
theorem dX1_init_4 : decode cX1_init 4 = .ok (.return_, 1) := by decide +kernel
theorem dX1_start_0 : decode cX1_start 0 = .ok (.aload_n 0, 1) := by decide +kernel
theorem dX1_start_1 : decode cX1_start 1 = .ok (.iconst 0, 1) := by decide +kernel
theorem dX1_start_2 : decode cX1_start 2 = .ok (.putfield 9, 3) := by decide +kernel
theorem dX1_start_5 : decode cX1_start 5 = .ok (.aload_n 0, 1) := by decide +kernel
theorem dX1_start_6 : decode cX1_start 6 = .ok (.iconst 0, 1) := by decide +kernel
theorem dX1_start_7 : decode cX1_start 7 = .ok (.putfield 15, 3) := by decide +kernel
theorem dX1_start_10 : decode cX1_start 10 = .ok (.aload_n 0, 1) := by decide +kernel
theorem dX1_start_11 : decode cX1_start 11 = .ok (.iconst 0, 1) := by decide +kernel
theorem dX1_start_12 : decode cX1_start 12 = .ok (.putfield 18, 3) := by decide +kernel
theorem dX1_start_15 : decode cX1_start 15 = .ok (.aload_n 0, 1) := by decide +kernel
theorem dX1_start_16 : decode cX1_start 16 = .ok (.iconst 0, 1) := by decide +kernel
theorem dX1_start_17 : decode cX1_start 17 = .ok (.putfield 21, 3) := by decide +kernel
theorem dX1_start_20 : decode cX1_start 20 = .ok (.aload_n 0, 1) := by decide +kernel
theorem dX1_start_21 : decode cX1_start 21 = .ok (.iconst 0, 1) := by decide +kernel
theorem dX1_start_22 : decode cX1_start 22 = .ok (.putfield 24, 3) := by decide +kernel
theorem dX1_start_25 : decode cX1_start 25 = .ok (.aload_n 0, 1) := by decide +kernel
theorem dX1_start_26 : decode cX1_start 26 = .ok (.iconst 0, 1) := by decide +kernel
theorem dX1_start_27 : decode cX1_start 27 = .ok (.putfield 27, 3) := by decide +kernel
theorem dX1_start_30 : decode cX1_start 30 = .ok (.aload_n 0, 1) := by decide +kernel
theorem dX1_start_31 : decode cX1_start 31 = .ok (.bipush 60, 2) := by decide +kernel
theorem dX1_start_33 : decode cX1_start 33 = .ok (.putfield 30, 3) := by decide +kernel
theorem dX1_start_36 : decode cX1_start 36 = .ok (.return_, 1) := by decide +kernel
theorem dX1_add_0 : decode cX1_add 0 = .ok (.aload_n 0, 1) := by decide +kernel
theorem dX1_add_1 : decode cX1_add 1 = .ok (.dup, 1) := by decide +kernel
theorem dX1_add_2 : decode cX1_add 2 = .ok (.getfield 9, 3) := by decide +kernel
theorem dX1_add_5 : decode cX1_add 5 = .ok (.aload_n 1, 1) := by decide +kernel
theorem dX1_add_6 : decode cX1_add 6 = .ok (.getfield 33, 3) := by decide +kernel
theorem dX1_add_9 : decode cX1_add 9 = .ok (.iadd, 1) := by decide +kernel
theorem dX1_add_10 : decode cX1_add 10 = .ok (.putfield 9, 3) := by decide +kernel
theorem dX1_add_13 : decode cX1_add 13 = .ok (.aload_n 0, 1) := by decide +kernel
theorem dX1_add_14 : decode cX1_add 14 = .ok (.dup, 1) := by decide +kernel
theorem dX1_add_15 : decode cX1_add 15 = .ok (.getfield 15, 3) := by decide +kernel
theorem dX1_add_18 : decode cX1_add 18 = .ok (.aload_n 1, 1) := by decide +kernel
theorem dX1_add_19 : decode cX1_add 19 = .ok (.getfield 33, 3) := by decide +kernel
theorem dX1_add_22 : decode cX1_add 22 = .ok (.aload_n 1, 1) := by decide +kernel
theorem dX1_add_23 : decode cX1_add 23 = .ok (.getfield 36, 3) := by decide +kernel
theorem dX1_add_26 : decode cX1_add 26 = .ok (.imul, 1) := by decide +kernel
theorem dX1_add_27 : decode cX1_add 27 = .ok (.iadd, 1) := by decide +kernel
theorem dX1_add_28 : decode cX1_add 28 = .ok (.putfield 15, 3) := by decide +kernel
theorem dX1_add_31 : decode cX1_add 31 = .ok (.aload_n 0, 1) := by decide +kernel
theorem dX1_add_32 : decode cX1_add 32 = .ok (.dup, 1) := by decide +kernel
theorem dX1_add_33 : decode cX1_add 33 = .ok (.getfield 18, 3) := by decide +kernel
theorem dX1_add_36 : decode cX1_add 36 = .ok (.aload_n 1, 1) := by decide +kernel
theorem dX1_add_37 : decode cX1_add 37 = .ok (.getfield 33, 3) := by decide +kernel
theorem dX1_add_40 : decode cX1_add 40 = .ok (.aload_n 1, 1) := by decide +kernel
theorem dX1_add_41 : decode cX1_add 41 = .ok (.getfield 39, 3) := by decide +kernel
theorem dX1_add_44 : decode cX1_add 44 = .ok (.imul, 1) := by decide +kernel
theorem dX1_add_45 : decode cX1_add 45 = .ok (.iadd, 1) := by decide +kernel
theorem dX1_add_46 : decode cX1_add 46 = .ok (.putfield 18, 3) := by decide +kernel
theorem dX1_add_49 : decode cX1_add 49 = .ok (.aload_n 0, 1) := by decide +kernel
theorem dX1_add_50 : decode cX1_add 50 = .ok (.dup, 1) := by decide +kernel
theorem dX1_add_51 : decode cX1_add 51 = .ok (.getfield 21, 3) := by decide +kernel
theorem dX1_add_54 : decode cX1_add 54 = .ok (.aload_n 1, 1) := by decide +kernel
theorem dX1_add_55 : decode cX1_add 55 = .ok (.getfield 33, 3) := by decide +kernel
theorem dX1_add_58 : decode cX1_add 58 = .ok (.aload_n 1, 1) := by decide +kernel
theorem dX1_add_59 : decode cX1_add 59 = .ok (.getfield 42, 3) := by decide +kernel
theorem dX1_add_62 : decode cX1_add 62 = .ok (.imul, 1) := by decide +kernel
theorem dX1_add_63 : decode cX1_add 63 = .ok (.iadd, 1) := by decide +kernel
theorem dX1_add_64 : decode cX1_add 64 = .ok (.putfield 21, 3) := by decide +kernel
theorem dX1_add_67 : decode cX1_add 67 = .ok (.aload_n 0, 1) := by decide +kernel
theorem dX1_add_68 : decode cX1_add 68 = .ok (.dup, 1) := by decide +kernel
theorem dX1_add_69 : decode cX1_add 69 = .ok (.getfield 24, 3) := by decide +kernel
theorem dX1_add_72 : decode cX1_add 72 = .ok (.aload_n 1, 1) := by decide +kernel
theorem dX1_add_73 : decode cX1_add 73 = .ok (.getfield 33, 3) := by decide +kernel
theorem dX1_add_76 : decode cX1_add 76 = .ok (.aload_n 1, 1) := by decide +kernel
theorem dX1_add_77 : decode cX1_add 77 = .ok (.getfield 45, 3) := by decide +kernel
theorem dX1_add_80 : decode cX1_add 80 = .ok (.imul, 1) := by decide +kernel
theorem dX1_add_81 : decode cX1_add 81 = .ok (.iadd, 1) := by decide +kernel
theorem dX1_add_82 : decode cX1_add 82 = .ok (.putfield 24, 3) := by decide +kernel
theorem dX1_add_85 : decode cX1_add 85 = .ok (.aload_n 0, 1) := by decide +kernel
theorem dX1_add_86 : decode cX1_add 86 = .ok (.dup, 1) := by decide +kernel
theorem dX1_add_87 : decode cX1_add 87 = .ok (.getfield 27, 3) := by decide +kernel
theorem dX1_add_90 : decode cX1_add 90 = .ok (.aload_n 1, 1) := by decide +kernel
theorem dX1_add_91 : decode cX1_add 91 = .ok (.iload_n 2, 1) := by decide +kernel
theorem dX1_add_92 : decode cX1_add 92 = .ok (.invokevirtual 48, 3) := by decide +kernel
theorem dX1_add_95 : decode cX1_add 95 = .ok (.iadd, 1) := by decide +kernel
theorem dX1_add_96 : decode cX1_add 96 = .ok (.putfield 27, 3) := by decide +kernel
theorem dX1_add_99 : decode cX1_add 99 = .ok (.aload_n 0, 1) := by decide +kernel
theorem dX1_add_100 : decode cX1_add 100 = .ok (.aload_n 0, 1) := by decide +kernel
theorem dX1_add_101 : decode cX1_add 101 = .ok (.getfield 30, 3) := by decide +kernel
theorem dX1_add_104 : decode cX1_add 104 = .ok (.aload_n 1, 1) := by decide +kernel
theorem dX1_add_105 : decode cX1_add 105 = .ok (.iload_n 2, 1) := by decide +kernel
theorem dX1_add_106 : decode cX1_add 106 = .ok (.invokevirtual 51, 3) := by decide +kernel
theorem dX1_add_109 : decode cX1_add 109 = .ok (.invokestatic 53, 3) := by decide +kernel
theorem dX1_add_112 : decode cX1_add 112 = .ok (.putfield 30, 3) := by decide +kernel
theorem dX1_add_115 : decode cX1_add 115 = .ok (.return_, 1) := by decide +kernel
theorem dX1_evenly_0 : decode cX1_evenly 0 = .ok (.aload_n 0, 1) := by decide +kernel
theorem dX1_evenly_1 : decode cX1_evenly 1 = .ok (.getfield 9, 3) := by decide +kernel
theorem dX1_evenly_4 : decode cX1_evenly 4 = .ok (.iconst 1, 1) := by decide +kernel
theorem dX1_evenly_5 : decode cX1_evenly 5 = .ok (.if_icmp .ge 7, 3) := by decide +kernel
theorem dX1_evenly_8 : decode cX1_evenly 8 = .ok (.iconst 0, 1) := by decide +kernel
theorem dX1_evenly_9 : decode cX1_evenly 9 = .ok (.goto 9, 3) := by decide +kernel
theorem dX1_evenly_12 : decode cX1_evenly 12 = .ok (.iload_n 1, 1) := by decide +kernel
theorem dX1_evenly_13 : decode cX1_evenly 13 = .ok (.aload_n 0, 1) := by decide +kernel
theorem dX1_evenly_14 : decode cX1_evenly 14 = .ok (.getfield 9, 3) := by decide +kernel
theorem dX1_evenly_17 : decode cX1_evenly 17 = .ok (.idiv, 1) := by decide +kernel
theorem dX1_evenly_18 : decode cX1_evenly 18 = .ok (.ireturn, 1) := by decide +kernel
theorem dX2_init_0 : decode cX2_init 0 = .ok (.aload_n 0, 1) := by decide +kernel
theorem dX2_init_1 : decode cX2_init 1 = .ok (.invokespecial 3, 3) := by decide +kernel
theorem dX2_init_4 : decode cX2_init 4 = .ok (.aload_n 0, 1) := by decide +kernel
theorem dX2_init_5 : decode cX2_init 5 = .ok (.bipush 16, 2) := by decide +kernel
theorem dX2_init_7 : decode cX2_init 7 = .ok (.newarray .int, 2) := by decide +kernel
theorem dX2_init_9 : decode cX2_init 9 = .ok (.putfield 9, 3) := by decide +kernel
theorem dX2_init_12 : decode cX2_init 12 = .ok (.aload_n 0, 1) := by decide +kernel
theorem dX2_init_13 : decode cX2_init 13 = .ok (.bipush 16, 2) := by decide +kernel
theorem dX2_init_15 : decode cX2_init 15 = .ok (.newarray .int, 2) := by decide +kernel
theorem dX2_init_17 : decode cX2_init 17 = .ok (.putfield 15, 3) := by decide +kernel
theorem dX2_init_20 : decode cX2_init 20 = .ok (.aload_n 0, 1) := by decide +kernel
theorem dX2_init_21 : decode cX2_init 21 = .ok (.invokevirtual 18, 3) := by decide +kernel
theorem dX2_init_24 : decode cX2_init 24 = .ok (.return_, 1) := by decide +kernel
theorem dX2_reset_0 : decode cX2_reset 0 = .ok (.iconst 0, 1) := by decide +kernel
theorem dX2_reset_1 : decode cX2_reset 1 = .ok (.istore_n 1, 1) := by decide +kernel
theorem dX2_reset_2 : decode cX2_reset 2 = .ok (.iload_n 1, 1) := by decide +kernel
theorem dX2_reset_3 : decode cX2_reset 3 = .ok (.bipush 16, 2) := by decide +kernel
theorem dX2_reset_5 : decode cX2_reset 5 = .ok (.if_icmp .ge 23, 3) := by decide +kernel
theorem dX2_reset_8 : decode cX2_reset 8 = .ok (.aload_n 0, 1) := by decide +kernel
theorem dX2_reset_9 : decode cX2_reset 9 = .ok (.getfield 9, 3) := by decide +kernel
theorem dX2_reset_12 : decode cX2_reset 12 = .ok (.iload_n 1, 1) := by decide +kernel
theorem dX2_reset_13 : decode cX2_reset 13 = .ok (.iload_n 1, 1) := by decide +kernel
theorem dX2_reset_14 : decode cX2_reset 14 = .ok (.iastore, 1) := by decide +kernel
theorem dX2_reset_15 : decode cX2_reset 15 = .ok (.aload_n 0, 1) := by decide +kernel
theorem dX2_reset_16 : decode cX2_reset 16 = .ok (.getfield 15, 3) := by decide +kernel
theorem dX2_reset_19 : decode cX2_reset 19 = .ok (.iload_n 1, 1) := by decide +kernel
theorem dX2_reset_20 : decode cX2_reset 20 = .ok (.iconst 0, 1) := by decide +kernel
theorem dX2_reset_21 : decode cX2_reset 21 = .ok (.iastore, 1) := by decide +kernel
theorem dX2_reset_22 : decode cX2_reset 22 = .ok (.iinc 1 1, 3) := by decide +kernel
theorem dX2_reset_25 : decode cX2_reset 25 = .ok (.goto (-23), 3) := by decide +kernel
theorem dX2_reset_28 : decode cX2_reset 28 = .ok (.aload_n 0, 1) := by decide +kernel
theorem dX2_reset_29 : decode cX2_reset 29 = .ok (.iconst 0, 1) := by decide +kernel
theorem dX2_reset_30 : decode cX2_reset 30 = .ok (.putfield 21, 3) := by decide +kernel
theorem dX2_reset_33 : decode cX2_reset 33 = .ok (.aload_n 0, 1) := by decide +kernel
theorem dX2_reset_34 : decode cX2_reset 34 = .ok (.bipush (-9), 2) := by decide +kernel
theorem dX2_reset_36 : decode cX2_reset 36 = .ok (.putfield 25, 3) := by decide +kernel
theorem dX2_reset_39 : decode cX2_reset 39 = .ok (.return_, 1) := by decide +kernel
theorem dX2_ties_0 : decode cX2_ties 0 = .ok (.aload_n 0, 1) := by decide +kernel
theorem dX2_ties_1 : decode cX2_ties 1 = .ok (.getfield 9, 3) := by decide +kernel
theorem dX2_ties_4 : decode cX2_ties 4 = .ok (.iload_n 1, 1) := by decide +kernel
theorem dX2_ties_5 : decode cX2_ties 5 = .ok (.iaload, 1) := by decide +kernel
theorem dX2_ties_6 : decode cX2_ties 6 = .ok (.aload_n 0, 1) := by decide +kernel
theorem dX2_ties_7 : decode cX2_ties 7 = .ok (.getfield 9, 3) := by decide +kernel
theorem dX2_ties_10 : decode cX2_ties 10 = .ok (.iload_n 2, 1) := by decide +kernel
theorem dX2_ties_11 : decode cX2_ties 11 = .ok (.iaload, 1) := by decide +kernel
theorem dX2_ties_12 : decode cX2_ties 12 = .ok (.if_icmp .ne 7, 3) := by decide +kernel
theorem dX2_ties_15 : decode cX2_ties 15 = .ok (.iconst 1, 1) := by decide +kernel
theorem dX2_ties_16 : decode cX2_ties 16 = .ok (.goto 4, 3) := by decide +kernel
theorem dX2_ties_19 : decode cX2_ties 19 = .ok (.iconst 0, 1) := by decide +kernel
theorem dX2_ties_20 : decode cX2_ties 20 = .ok (.ireturn, 1) := by decide +kernel
theorem dX2_take_0 : decode cX2_take 0 = .ok (.aload_n 0, 1) := by decide +kernel
theorem dX2_take_1 : decode cX2_take 1 = .ok (.getfield 25, 3) := by decide +kernel
theorem dX2_take_4 : decode cX2_take 4 = .ok (.bipush (-9), 2) := by decide +kernel
theorem dX2_take_6 : decode cX2_take 6 = .ok (.if_icmp .ne 13, 3) := by decide +kernel
theorem dX2_take_9 : decode cX2_take 9 = .ok (.aload_n 0, 1) := by decide +kernel
theorem dX2_take_10 : decode cX2_take 10 = .ok (.iload_n 1, 1) := by decide +kernel
theorem dX2_take_11 : decode cX2_take 11 = .ok (.bipush 6, 2) := by decide +kernel
theorem dX2_take_13 : decode cX2_take 13 = .ok (.iload_n 2, 1) := by decide +kernel
theorem dX2_take_14 : decode cX2_take 14 = .ok (.iadd, 1) := by decide +kernel
theorem dX2_take_15 : decode cX2_take 15 = .ok (.iload_n 3, 1) := by decide +kernel
theorem dX2_take_16 : decode cX2_take 16 = .ok (.invokevirtual 28, 3) := by decide +kernel
theorem dX2_take_19 : decode cX2_take 19 = .ok (.aload_n 0, 1) := by decide +kernel
theorem dX2_take_20 : decode cX2_take 20 = .ok (.dup, 1) := by decide +kernel
theorem dX2_take_21 : decode cX2_take 21 = .ok (.getfield 21, 3) := by decide +kernel
theorem dX2_take_24 : decode cX2_take 24 = .ok (.iconst 1, 1) := by decide +kernel
theorem dX2_take_25 : decode cX2_take 25 = .ok (.iadd, 1) := by decide +kernel
theorem dX2_take_26 : decode cX2_take 26 = .ok (.putfield 21, 3) := by decide +kernel
theorem dX2_take_29 : decode cX2_take 29 = .ok (.return_, 1) := by decide +kernel
theorem dX2_fit_0 : decode cX2_fit 0 = .ok (.aload_n 0, 1) := by decide +kernel
theorem dX2_fit_1 : decode cX2_fit 1 = .ok (.getfield 15, 3) := by decide +kernel
theorem dX2_fit_4 : decode cX2_fit 4 = .ok (.iload_n 1, 1) := by decide +kernel
theorem dX2_fit_5 : decode cX2_fit 5 = .ok (.iaload, 1) := by decide +kernel
theorem dX2_fit_6 : decode cX2_fit 6 = .ok (.aload_n 0, 1) := by decide +kernel
theorem dX2_fit_7 : decode cX2_fit 7 = .ok (.getfield 15, 3) := by decide +kernel
theorem dX2_fit_10 : decode cX2_fit 10 = .ok (.iload_n 2, 1) := by decide +kernel
theorem dX2_fit_11 : decode cX2_fit 11 = .ok (.iaload, 1) := by decide +kernel
theorem dX2_fit_12 : decode cX2_fit 12 = .ok (.isub, 1) := by decide +kernel
theorem dX2_fit_13 : decode cX2_fit 13 = .ok (.iload_n 3, 1) := by decide +kernel
theorem dX2_fit_14 : decode cX2_fit 14 = .ok (.isub, 1) := by decide +kernel
theorem dX2_fit_15 : decode cX2_fit 15 = .ok (.istore 4, 2) := by decide +kernel
theorem dX2_fit_17 : decode cX2_fit 17 = .ok (.aload_n 0, 1) := by decide +kernel
theorem dX2_fit_18 : decode cX2_fit 18 = .ok (.iload_n 1, 1) := by decide +kernel
theorem dX2_fit_19 : decode cX2_fit 19 = .ok (.iload_n 2, 1) := by decide +kernel
theorem dX2_fit_20 : decode cX2_fit 20 = .ok (.invokevirtual 32, 3) := by decide +kernel
theorem dX2_fit_23 : decode cX2_fit 23 = .ok (.ifCond .ne 24, 3) := by decide +kernel
theorem dX2_fit_26 : decode cX2_fit 26 = .ok (.aload_n 0, 1) := by decide +kernel
theorem dX2_fit_27 : decode cX2_fit 27 = .ok (.aload_n 0, 1) := by decide +kernel
theorem dX2_fit_28 : decode cX2_fit 28 = .ok (.getfield 9, 3) := by decide +kernel
theorem dX2_fit_31 : decode cX2_fit 31 = .ok (.iload_n 1, 1) := by decide +kernel
theorem dX2_fit_32 : decode cX2_fit 32 = .ok (.iaload, 1) := by decide +kernel
theorem dX2_fit_33 : decode cX2_fit 33 = .ok (.aload_n 0, 1) := by decide +kernel
theorem dX2_fit_34 : decode cX2_fit 34 = .ok (.getfield 9, 3) := by decide +kernel
theorem dX2_fit_37 : decode cX2_fit 37 = .ok (.iload_n 2, 1) := by decide +kernel
theorem dX2_fit_38 : decode cX2_fit 38 = .ok (.iaload, 1) := by decide +kernel
theorem dX2_fit_39 : decode cX2_fit 39 = .ok (.iload 4, 2) := by decide +kernel
theorem dX2_fit_41 : decode cX2_fit 41 = .ok (.invokevirtual 36, 3) := by decide +kernel
theorem dX2_fit_44 : decode cX2_fit 44 = .ok (.goto 16, 3) := by decide +kernel
theorem dX2_fit_47 : decode cX2_fit 47 = .ok (.iload 4, 2) := by decide +kernel
theorem dX2_fit_49 : decode cX2_fit 49 = .ok (.ifCond .eq 11, 3) := by decide +kernel
theorem dX2_fit_52 : decode cX2_fit 52 = .ok (.aload_n 0, 1) := by decide +kernel
theorem dX2_fit_53 : decode cX2_fit 53 = .ok (.aload_n 0, 1) := by decide +kernel
theorem dX2_fit_54 : decode cX2_fit 54 = .ok (.getfield 21, 3) := by decide +kernel
theorem dX2_fit_57 : decode cX2_fit 57 = .ok (.putfield 25, 3) := by decide +kernel
theorem dX2_fit_60 : decode cX2_fit 60 = .ok (.return_, 1) := by decide +kernel
theorem dX2_join_0 : decode cX2_join 0 = .ok (.iconst 0, 1) := by decide +kernel
theorem dX2_join_1 : decode cX2_join 1 = .ok (.istore 4, 2) := by decide +kernel
theorem dX2_join_3 : decode cX2_join 3 = .ok (.iload 4, 2) := by decide +kernel
theorem dX2_join_5 : decode cX2_join 5 = .ok (.bipush 16, 2) := by decide +kernel
theorem dX2_join_7 : decode cX2_join 7 = .ok (.if_icmp .ge 39, 3) := by decide +kernel
theorem dX2_join_10 : decode cX2_join 10 = .ok (.aload_n 0, 1) := by decide +kernel
theorem dX2_join_11 : decode cX2_join 11 = .ok (.getfield 9, 3) := by decide +kernel
theorem dX2_join_14 : decode cX2_join 14 = .ok (.iload 4, 2) := by decide +kernel
theorem dX2_join_16 : decode cX2_join 16 = .ok (.iaload, 1) := by decide +kernel
theorem dX2_join_17 : decode cX2_join 17 = .ok (.iload_n 1, 1) := by decide +kernel
theorem dX2_join_18 : decode cX2_join 18 = .ok (.if_icmp .ne 22, 3) := by decide +kernel
theorem dX2_join_21 : decode cX2_join 21 = .ok (.aload_n 0, 1) := by decide +kernel
theorem dX2_join_22 : decode cX2_join 22 = .ok (.getfield 9, 3) := by decide +kernel
theorem dX2_join_25 : decode cX2_join 25 = .ok (.iload 4, 2) := by decide +kernel
theorem dX2_join_27 : decode cX2_join 27 = .ok (.iload_n 2, 1) := by decide +kernel
theorem dX2_join_28 : decode cX2_join 28 = .ok (.iastore, 1) := by decide +kernel
theorem dX2_join_29 : decode cX2_join 29 = .ok (.aload_n 0, 1) := by decide +kernel
theorem dX2_join_30 : decode cX2_join 30 = .ok (.getfield 15, 3) := by decide +kernel
theorem dX2_join_33 : decode cX2_join 33 = .ok (.iload 4, 2) := by decide +kernel
theorem dX2_join_35 : decode cX2_join 35 = .ok (.dup2, 1) := by decide +kernel
theorem dX2_join_36 : decode cX2_join 36 = .ok (.iaload, 1) := by decide +kernel
theorem dX2_join_37 : decode cX2_join 37 = .ok (.iload_n 3, 1) := by decide +kernel
theorem dX2_join_38 : decode cX2_join 38 = .ok (.isub, 1) := by decide +kernel
theorem dX2_join_39 : decode cX2_join 39 = .ok (.iastore, 1) := by decide +kernel
theorem dX2_join_40 : decode cX2_join 40 = .ok (.iinc 4 1, 3) := by decide +kernel
theorem dX2_join_43 : decode cX2_join 43 = .ok (.goto (-40), 3) := by decide +kernel
theorem dX2_join_46 : decode cX2_join 46 = .ok (.return_, 1) := by decide +kernel
theorem dX3_init_0 : decode cX3_init 0 = .ok (.aload_n 0, 1) := by decide +kernel
theorem dX3_init_1 : decode cX3_init 1 = .ok (.invokespecial 3, 3) := by decide +kernel
theorem dX3_init_4 : decode cX3_init 4 = .ok (.aload_n 0, 1) := by decide +kernel
theorem dX3_init_5 : decode cX3_init 5 = .ok (.bipush 8, 2) := by decide +kernel
theorem dX3_init_7 : decode cX3_init 7 = .ok (.newarray .int, 2) := by decide +kernel
theorem dX3_init_9 : decode cX3_init 9 = .ok (.dup, 1) := by decide +kernel
theorem dX3_init_10 : decode cX3_init 10 = .ok (.iconst 0, 1) := by decide +kernel
theorem dX3_init_11 : decode cX3_init 11 = .ok (.iconst 0, 1) := by decide +kernel
theorem dX3_init_12 : decode cX3_init 12 = .ok (.iastore, 1) := by decide +kernel
theorem dX3_init_13 : decode cX3_init 13 = .ok (.dup, 1) := by decide +kernel
theorem dX3_init_14 : decode cX3_init 14 = .ok (.iconst 1, 1) := by decide +kernel
theorem dX3_init_15 : decode cX3_init 15 = .ok (.iconst 0, 1) := by decide +kernel
theorem dX3_init_16 : decode cX3_init 16 = .ok (.iastore, 1) := by decide +kernel
theorem dX3_init_17 : decode cX3_init 17 = .ok (.dup, 1) := by decide +kernel
theorem dX3_init_18 : decode cX3_init 18 = .ok (.iconst 2, 1) := by decide +kernel
theorem dX3_init_19 : decode cX3_init 19 = .ok (.iconst 0, 1) := by decide +kernel
theorem dX3_init_20 : decode cX3_init 20 = .ok (.iastore, 1) := by decide +kernel
theorem dX3_init_21 : decode cX3_init 21 = .ok (.dup, 1) := by decide +kernel
theorem dX3_init_22 : decode cX3_init 22 = .ok (.iconst 3, 1) := by decide +kernel
theorem dX3_init_23 : decode cX3_init 23 = .ok (.sipush 9999, 3) := by decide +kernel
theorem dX3_init_26 : decode cX3_init 26 = .ok (.iastore, 1) := by decide +kernel
theorem dX3_init_27 : decode cX3_init 27 = .ok (.dup, 1) := by decide +kernel
theorem dX3_init_28 : decode cX3_init 28 = .ok (.iconst 4, 1) := by decide +kernel
theorem dX3_init_29 : decode cX3_init 29 = .ok (.iconst 0, 1) := by decide +kernel
theorem dX3_init_30 : decode cX3_init 30 = .ok (.iastore, 1) := by decide +kernel
theorem dX3_init_31 : decode cX3_init 31 = .ok (.dup, 1) := by decide +kernel
theorem dX3_init_32 : decode cX3_init 32 = .ok (.iconst 5, 1) := by decide +kernel
theorem dX3_init_33 : decode cX3_init 33 = .ok (.sipush 9999, 3) := by decide +kernel
theorem dX3_init_36 : decode cX3_init 36 = .ok (.iastore, 1) := by decide +kernel
theorem dX3_init_37 : decode cX3_init 37 = .ok (.dup, 1) := by decide +kernel
theorem dX3_init_38 : decode cX3_init 38 = .ok (.bipush 6, 2) := by decide +kernel
theorem dX3_init_40 : decode cX3_init 40 = .ok (.iconst 0, 1) := by decide +kernel
theorem dX3_init_41 : decode cX3_init 41 = .ok (.iastore, 1) := by decide +kernel
theorem dX3_init_42 : decode cX3_init 42 = .ok (.dup, 1) := by decide +kernel
theorem dX3_init_43 : decode cX3_init 43 = .ok (.bipush 7, 2) := by decide +kernel
theorem dX3_init_45 : decode cX3_init 45 = .ok (.sipush 9999, 3) := by decide +kernel
theorem dX3_init_48 : decode cX3_init 48 = .ok (.iastore, 1) := by decide +kernel
theorem dX3_init_49 : decode cX3_init 49 = .ok (.putfield 9, 3) := by decide +kernel
theorem dX3_init_52 : decode cX3_init 52 = .ok (.return_, 1) := by decide +kernel
theorem dX3_most_0 : decode cX3_most 0 = .ok (.iload_n 0, 1) := by decide +kernel
theorem dX3_most_1 : decode cX3_most 1 = .ok (.ifCond .ne 6, 3) := by decide +kernel
theorem dX3_most_4 : decode cX3_most 4 = .ok (.ldc 15, 2) := by decide +kernel
theorem dX3_most_6 : decode cX3_most 6 = .ok (.ireturn, 1) := by decide +kernel
theorem dX3_most_7 : decode cX3_most 7 = .ok (.iload_n 0, 1) := by decide +kernel
theorem dX3_most_8 : decode cX3_most 8 = .ok (.iconst 1, 1) := by decide +kernel
theorem dX3_most_9 : decode cX3_most 9 = .ok (.if_icmp .ne 8, 3) := by decide +kernel
theorem dX3_most_12 : decode cX3_most 12 = .ok (.bipush 60, 2) := by decide +kernel
theorem dX3_most_14 : decode cX3_most 14 = .ok (.goto 6, 3) := by decide +kernel
theorem dX3_most_17 : decode cX3_most 17 = .ok (.sipush 9999, 3) := by decide +kernel
theorem dX3_most_20 : decode cX3_most 20 = .ok (.ireturn, 1) := by decide +kernel
theorem dX3_isOldEnough_0 : decode cX3_isOldEnough 0 = .ok (.aload_n 1, 1) := by decide +kernel
theorem dX3_isOldEnough_1 : decode cX3_isOldEnough 1 = .ok (.getfield 16, 3) := by decide +kernel
theorem dX3_isOldEnough_4 : decode cX3_isOldEnough 4 = .ok (.aload_n 0, 1) := by decide +kernel
theorem dX3_isOldEnough_5 : decode cX3_isOldEnough 5 = .ok (.getfield 9, 3) := by decide +kernel
theorem dX3_isOldEnough_8 : decode cX3_isOldEnough 8 = .ok (.iconst 1, 1) := by decide +kernel
theorem dX3_isOldEnough_9 : decode cX3_isOldEnough 9 = .ok (.iaload, 1) := by decide +kernel
theorem dX3_isOldEnough_10 : decode cX3_isOldEnough 10 = .ok (.if_icmp .lt 7, 3) := by decide +kernel
theorem dX3_isOldEnough_13 : decode cX3_isOldEnough 13 = .ok (.iconst 1, 1) := by decide +kernel
theorem dX3_isOldEnough_14 : decode cX3_isOldEnough 14 = .ok (.goto 4, 3) := by decide +kernel
theorem dX3_isOldEnough_17 : decode cX3_isOldEnough 17 = .ok (.iconst 0, 1) := by decide +kernel
theorem dX3_isOldEnough_18 : decode cX3_isOldEnough 18 = .ok (.ireturn, 1) := by decide +kernel
theorem dX3_isMetBy_0 : decode cX3_isMetBy 0 = .ok (.aload_n 1, 1) := by decide +kernel
theorem dX3_isMetBy_1 : decode cX3_isMetBy 1 = .ok (.getfield 22, 3) := by decide +kernel
theorem dX3_isMetBy_4 : decode cX3_isMetBy 4 = .ok (.aload_n 0, 1) := by decide +kernel
theorem dX3_isMetBy_5 : decode cX3_isMetBy 5 = .ok (.getfield 9, 3) := by decide +kernel
theorem dX3_isMetBy_8 : decode cX3_isMetBy 8 = .ok (.iconst 0, 1) := by decide +kernel
theorem dX3_isMetBy_9 : decode cX3_isMetBy 9 = .ok (.iaload, 1) := by decide +kernel
theorem dX3_isMetBy_10 : decode cX3_isMetBy 10 = .ok (.if_icmp .lt 95, 3) := by decide +kernel
theorem dX3_isMetBy_13 : decode cX3_isMetBy 13 = .ok (.aload_n 0, 1) := by decide +kernel
theorem dX3_isMetBy_14 : decode cX3_isMetBy 14 = .ok (.aload_n 1, 1) := by decide +kernel
theorem dX3_isMetBy_15 : decode cX3_isMetBy 15 = .ok (.invokevirtual 25, 3) := by decide +kernel
theorem dX3_isMetBy_18 : decode cX3_isMetBy 18 = .ok (.ifCond .eq 87, 3) := by decide +kernel
theorem dX3_isMetBy_21 : decode cX3_isMetBy 21 = .ok (.aload_n 1, 1) := by decide +kernel
theorem dX3_isMetBy_22 : decode cX3_isMetBy 22 = .ok (.aload_n 1, 1) := by decide +kernel
theorem dX3_isMetBy_23 : decode cX3_isMetBy 23 = .ok (.getfield 29, 3) := by decide +kernel
theorem dX3_isMetBy_26 : decode cX3_isMetBy 26 = .ok (.invokevirtual 32, 3) := by decide +kernel
theorem dX3_isMetBy_29 : decode cX3_isMetBy 29 = .ok (.aload_n 0, 1) := by decide +kernel
theorem dX3_isMetBy_30 : decode cX3_isMetBy 30 = .ok (.getfield 9, 3) := by decide +kernel
theorem dX3_isMetBy_33 : decode cX3_isMetBy 33 = .ok (.iconst 2, 1) := by decide +kernel
theorem dX3_isMetBy_34 : decode cX3_isMetBy 34 = .ok (.iaload, 1) := by decide +kernel
theorem dX3_isMetBy_35 : decode cX3_isMetBy 35 = .ok (.aload_n 0, 1) := by decide +kernel
theorem dX3_isMetBy_36 : decode cX3_isMetBy 36 = .ok (.getfield 9, 3) := by decide +kernel
theorem dX3_isMetBy_39 : decode cX3_isMetBy 39 = .ok (.iconst 3, 1) := by decide +kernel
theorem dX3_isMetBy_40 : decode cX3_isMetBy 40 = .ok (.iaload, 1) := by decide +kernel
theorem dX3_isMetBy_41 : decode cX3_isMetBy 41 = .ok (.invokestatic 36, 3) := by decide +kernel
theorem dX3_isMetBy_44 : decode cX3_isMetBy 44 = .ok (.ifCond .eq 61, 3) := by decide +kernel
theorem dX3_isMetBy_47 : decode cX3_isMetBy 47 = .ok (.aload_n 1, 1) := by decide +kernel
theorem dX3_isMetBy_48 : decode cX3_isMetBy 48 = .ok (.aload_n 1, 1) := by decide +kernel
theorem dX3_isMetBy_49 : decode cX3_isMetBy 49 = .ok (.getfield 40, 3) := by decide +kernel
theorem dX3_isMetBy_52 : decode cX3_isMetBy 52 = .ok (.invokevirtual 32, 3) := by decide +kernel
theorem dX3_isMetBy_55 : decode cX3_isMetBy 55 = .ok (.aload_n 0, 1) := by decide +kernel
theorem dX3_isMetBy_56 : decode cX3_isMetBy 56 = .ok (.getfield 9, 3) := by decide +kernel
theorem dX3_isMetBy_59 : decode cX3_isMetBy 59 = .ok (.iconst 4, 1) := by decide +kernel
theorem dX3_isMetBy_60 : decode cX3_isMetBy 60 = .ok (.iaload, 1) := by decide +kernel
theorem dX3_isMetBy_61 : decode cX3_isMetBy 61 = .ok (.aload_n 0, 1) := by decide +kernel
theorem dX3_isMetBy_62 : decode cX3_isMetBy 62 = .ok (.getfield 9, 3) := by decide +kernel
theorem dX3_isMetBy_65 : decode cX3_isMetBy 65 = .ok (.iconst 5, 1) := by decide +kernel
theorem dX3_isMetBy_66 : decode cX3_isMetBy 66 = .ok (.iaload, 1) := by decide +kernel
theorem dX3_isMetBy_67 : decode cX3_isMetBy 67 = .ok (.invokestatic 36, 3) := by decide +kernel
theorem dX3_isMetBy_70 : decode cX3_isMetBy 70 = .ok (.ifCond .eq 35, 3) := by decide +kernel
theorem dX3_isMetBy_73 : decode cX3_isMetBy 73 = .ok (.aload_n 1, 1) := by decide +kernel
theorem dX3_isMetBy_74 : decode cX3_isMetBy 74 = .ok (.aload_n 1, 1) := by decide +kernel
theorem dX3_isMetBy_75 : decode cX3_isMetBy 75 = .ok (.getfield 43, 3) := by decide +kernel
theorem dX3_isMetBy_78 : decode cX3_isMetBy 78 = .ok (.invokevirtual 32, 3) := by decide +kernel
theorem dX3_isMetBy_81 : decode cX3_isMetBy 81 = .ok (.aload_n 0, 1) := by decide +kernel
theorem dX3_isMetBy_82 : decode cX3_isMetBy 82 = .ok (.getfield 9, 3) := by decide +kernel
theorem dX3_isMetBy_85 : decode cX3_isMetBy 85 = .ok (.bipush 6, 2) := by decide +kernel
theorem dX3_isMetBy_87 : decode cX3_isMetBy 87 = .ok (.iaload, 1) := by decide +kernel
theorem dX3_isMetBy_88 : decode cX3_isMetBy 88 = .ok (.aload_n 0, 1) := by decide +kernel
theorem dX3_isMetBy_89 : decode cX3_isMetBy 89 = .ok (.getfield 9, 3) := by decide +kernel
theorem dX3_isMetBy_92 : decode cX3_isMetBy 92 = .ok (.bipush 7, 2) := by decide +kernel
theorem dX3_isMetBy_94 : decode cX3_isMetBy 94 = .ok (.iaload, 1) := by decide +kernel
theorem dX3_isMetBy_95 : decode cX3_isMetBy 95 = .ok (.invokestatic 36, 3) := by decide +kernel
theorem dX3_isMetBy_98 : decode cX3_isMetBy 98 = .ok (.ifCond .eq 7, 3) := by decide +kernel
theorem dX3_isMetBy_101 : decode cX3_isMetBy 101 = .ok (.iconst 1, 1) := by decide +kernel
theorem dX3_isMetBy_102 : decode cX3_isMetBy 102 = .ok (.goto 4, 3) := by decide +kernel
theorem dX3_isMetBy_105 : decode cX3_isMetBy 105 = .ok (.iconst 0, 1) := by decide +kernel
theorem dX3_isMetBy_106 : decode cX3_isMetBy 106 = .ok (.ireturn, 1) := by decide +kernel
theorem dX4_init_0 : decode cX4_init 0 = .ok (.aload_n 0, 1) := by decide +kernel
theorem dX4_init_1 : decode cX4_init 1 = .ok (.invokespecial 1, 3) := by decide +kernel
theorem dX4_init_4 : decode cX4_init 4 = .ok (.aload_n 0, 1) := by decide +kernel
theorem dX4_init_5 : decode cX4_init 5 = .ok (.bipush 12, 2) := by decide +kernel
theorem dX4_init_7 : decode cX4_init 7 = .ok (.anewarray 9, 3) := by decide +kernel
theorem dX4_init_10 : decode cX4_init 10 = .ok (.putfield 11, 3) := by decide +kernel
theorem dX4_init_13 : decode cX4_init 13 = .ok (.aload_n 0, 1) := by decide +kernel
theorem dX4_init_14 : decode cX4_init 14 = .ok (.bipush 12, 2) := by decide +kernel
theorem dX4_init_16 : decode cX4_init 16 = .ok (.newarray .int, 2) := by decide +kernel
theorem dX4_init_18 : decode cX4_init 18 = .ok (.putfield 15, 3) := by decide +kernel
theorem dX4_init_21 : decode cX4_init 21 = .ok (.aload_n 0, 1) := by decide +kernel
