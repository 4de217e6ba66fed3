theorem dX4_cut_50 : decode cX4_cut 50 = .ok (.iload_n 2, 1) := by decide +kernel
theorem dX4_cut_51 : decode cX4_cut 51 = .ok (.invokestatic 158, 3) := by decide +kernel
theorem dX4_cut_54 : decode cX4_cut 54 = .ok (.ireturn, 1) := by decide +kernel
theorem dX4_rate_0 : decode cX4_rate 0 = .ok (.iload_n 1, 1) := by decide +kernel
theorem dX4_rate_1 : decode cX4_rate 1 = .ok (.iconst 0, 1) := by decide +kernel
theorem dX4_rate_2 : decode cX4_rate 2 = .ok (.bipush 100, 2) := by decide +kernel
theorem dX4_rate_4 : decode cX4_rate 4 = .ok (.invokestatic 55, 3) := by decide +kernel
theorem dX4_rate_7 : decode cX4_rate 7 = .ok (.ifCond .ne 5, 3) := by decide +kernel
theorem dX4_rate_10 : decode cX4_rate 10 = .ok (.iconst (-1), 1) := by decide +kernel
theorem dX4_rate_11 : decode cX4_rate 11 = .ok (.ireturn, 1) := by decide +kernel
theorem dX4_rate_12 : decode cX4_rate 12 = .ok (.aload_n 0, 1) := by decide +kernel
theorem dX4_rate_13 : decode cX4_rate 13 = .ok (.getfield 47, 3) := by decide +kernel
theorem dX4_rate_16 : decode cX4_rate 16 = .ok (.istore_n 2, 1) := by decide +kernel
theorem dX4_rate_17 : decode cX4_rate 17 = .ok (.aload_n 0, 1) := by decide +kernel
theorem dX4_rate_18 : decode cX4_rate 18 = .ok (.iload_n 1, 1) := by decide +kernel
theorem dX4_rate_19 : decode cX4_rate 19 = .ok (.putfield 47, 3) := by decide +kernel
theorem dX4_rate_22 : decode cX4_rate 22 = .ok (.iload_n 2, 1) := by decide +kernel
theorem dX4_rate_23 : decode cX4_rate 23 = .ok (.ireturn, 1) := by decide +kernel
theorem dX4_duty_0 : decode cX4_duty 0 = .ok (.aload_n 0, 1) := by decide +kernel
theorem dX4_duty_1 : decode cX4_duty 1 = .ok (.iload_n 1, 1) := by decide +kernel
theorem dX4_duty_2 : decode cX4_duty 2 = .ok (.invokevirtual 111, 3) := by decide +kernel
theorem dX4_duty_5 : decode cX4_duty 5 = .ok (.ifCond .ne 5, 3) := by decide +kernel
theorem dX4_duty_8 : decode cX4_duty 8 = .ok (.iconst (-1), 1) := by decide +kernel
theorem dX4_duty_9 : decode cX4_duty 9 = .ok (.ireturn, 1) := by decide +kernel
theorem dX4_duty_10 : decode cX4_duty 10 = .ok (.iconst 0, 1) := by decide +kernel
theorem dX4_duty_11 : decode cX4_duty 11 = .ok (.istore_n 2, 1) := by decide +kernel
theorem dX4_duty_12 : decode cX4_duty 12 = .ok (.iconst 0, 1) := by decide +kernel
theorem dX4_duty_13 : decode cX4_duty 13 = .ok (.istore_n 3, 1) := by decide +kernel
theorem dX4_duty_14 : decode cX4_duty 14 = .ok (.iload_n 3, 1) := by decide +kernel
theorem dX4_duty_15 : decode cX4_duty 15 = .ok (.aload_n 0, 1) := by decide +kernel
theorem dX4_duty_16 : decode cX4_duty 16 = .ok (.getfield 40, 3) := by decide +kernel
theorem dX4_duty_19 : decode cX4_duty 19 = .ok (.if_icmp .ge 48, 3) := by decide +kernel
theorem dX4_duty_22 : decode cX4_duty 22 = .ok (.iload_n 1, 1) := by decide +kernel
theorem dX4_duty_23 : decode cX4_duty 23 = .ok (.iload_n 3, 1) := by decide +kernel
theorem dX4_duty_24 : decode cX4_duty 24 = .ok (.invokestatic 161, 3) := by decide +kernel
theorem dX4_duty_27 : decode cX4_duty 27 = .ok (.ifCond .eq 34, 3) := by decide +kernel
theorem dX4_duty_30 : decode cX4_duty 30 = .ok (.iload_n 2, 1) := by decide +kernel
theorem dX4_duty_31 : decode cX4_duty 31 = .ok (.aload_n 0, 1) := by decide +kernel
theorem dX4_duty_32 : decode cX4_duty 32 = .ok (.getfield 11, 3) := by decide +kernel
theorem dX4_duty_35 : decode cX4_duty 35 = .ok (.iload_n 3, 1) := by decide +kernel
theorem dX4_duty_36 : decode cX4_duty 36 = .ok (.aaload, 1) := by decide +kernel
theorem dX4_duty_37 : decode cX4_duty 37 = .ok (.getfield 80, 3) := by decide +kernel
theorem dX4_duty_40 : decode cX4_duty 40 = .ok (.aload_n 0, 1) := by decide +kernel
theorem dX4_duty_41 : decode cX4_duty 41 = .ok (.getfield 11, 3) := by decide +kernel
theorem dX4_duty_44 : decode cX4_duty 44 = .ok (.iload_n 3, 1) := by decide +kernel
theorem dX4_duty_45 : decode cX4_duty 45 = .ok (.aaload, 1) := by decide +kernel
theorem dX4_duty_46 : decode cX4_duty 46 = .ok (.getfield 83, 3) := by decide +kernel
theorem dX4_duty_49 : decode cX4_duty 49 = .ok (.imul, 1) := by decide +kernel
theorem dX4_duty_50 : decode cX4_duty 50 = .ok (.sipush 1000, 3) := by decide +kernel
theorem dX4_duty_53 : decode cX4_duty 53 = .ok (.idiv, 1) := by decide +kernel
theorem dX4_duty_54 : decode cX4_duty 54 = .ok (.aload_n 0, 1) := by decide +kernel
theorem dX4_duty_55 : decode cX4_duty 55 = .ok (.getfield 47, 3) := by decide +kernel
theorem dX4_duty_58 : decode cX4_duty 58 = .ok (.imul, 1) := by decide +kernel
theorem dX4_duty_59 : decode cX4_duty 59 = .ok (.iadd, 1) := by decide +kernel
theorem dX4_duty_60 : decode cX4_duty 60 = .ok (.istore_n 2, 1) := by decide +kernel
theorem dX4_duty_61 : decode cX4_duty 61 = .ok (.iinc 3 1, 3) := by decide +kernel
theorem dX4_duty_64 : decode cX4_duty 64 = .ok (.goto (-50), 3) := by decide +kernel
theorem dX4_duty_67 : decode cX4_duty 67 = .ok (.iload_n 2, 1) := by decide +kernel
theorem dX4_duty_68 : decode cX4_duty 68 = .ok (.ireturn, 1) := by decide +kernel
theorem dX4_odds_0 : decode cX4_odds 0 = .ok (.iload_n 1, 1) := by decide +kernel
theorem dX4_odds_1 : decode cX4_odds 1 = .ok (.iload_n 2, 1) := by decide +kernel
theorem dX4_odds_2 : decode cX4_odds 2 = .ok (.invokestatic 165, 3) := by decide +kernel
theorem dX4_odds_5 : decode cX4_odds 5 = .ok (.ifCond .eq 11, 3) := by decide +kernel
theorem dX4_odds_8 : decode cX4_odds 8 = .ok (.iload_n 1, 1) := by decide +kernel
theorem dX4_odds_9 : decode cX4_odds 9 = .ok (.iload_n 2, 1) := by decide +kernel
theorem dX4_odds_10 : decode cX4_odds 10 = .ok (.invokestatic 168, 3) := by decide +kernel
theorem dX4_odds_13 : decode cX4_odds 13 = .ok (.goto 6, 3) := by decide +kernel
theorem dX4_odds_16 : decode cX4_odds 16 = .ok (.ldc2_w 172, 3) := by decide +kernel
theorem dX4_odds_19 : decode cX4_odds 19 = .ok (.lreturn, 1) := by decide +kernel
theorem dX4_apart_0 : decode cX4_apart 0 = .ok (.iload_n 1, 1) := by decide +kernel
theorem dX4_apart_1 : decode cX4_apart 1 = .ok (.iload_n 2, 1) := by decide +kernel
theorem dX4_apart_2 : decode cX4_apart 2 = .ok (.invokestatic 165, 3) := by decide +kernel
theorem dX4_apart_5 : decode cX4_apart 5 = .ok (.ifCond .ne 5, 3) := by decide +kernel
theorem dX4_apart_8 : decode cX4_apart 8 = .ok (.iconst (-1), 1) := by decide +kernel
theorem dX4_apart_9 : decode cX4_apart 9 = .ok (.ireturn, 1) := by decide +kernel
theorem dX4_apart_10 : decode cX4_apart 10 = .ok (.ldc2_w 174, 3) := by decide +kernel
theorem dX4_apart_13 : decode cX4_apart 13 = .ok (.iload_n 1, 1) := by decide +kernel
theorem dX4_apart_14 : decode cX4_apart 14 = .ok (.iload_n 2, 1) := by decide +kernel
theorem dX4_apart_15 : decode cX4_apart 15 = .ok (.invokestatic 168, 3) := by decide +kernel
theorem dX4_apart_18 : decode cX4_apart 18 = .ok (.lmul, 1) := by decide +kernel
theorem dX4_apart_19 : decode cX4_apart 19 = .ok (.iload_n 1, 1) := by decide +kernel
theorem dX4_apart_20 : decode cX4_apart 20 = .ok (.iconst 0, 1) := by decide +kernel
theorem dX4_apart_21 : decode cX4_apart 21 = .ok (.invokestatic 168, 3) := by decide +kernel
theorem dX4_apart_24 : decode cX4_apart 24 = .ok (.lcmp, 1) := by decide +kernel
theorem dX4_apart_25 : decode cX4_apart 25 = .ok (.ifCond .gt 7, 3) := by decide +kernel
theorem dX4_apart_28 : decode cX4_apart 28 = .ok (.iconst 1, 1) := by decide +kernel
theorem dX4_apart_29 : decode cX4_apart 29 = .ok (.goto 4, 3) := by decide +kernel
theorem dX4_apart_32 : decode cX4_apart 32 = .ok (.iconst 0, 1) := by decide +kernel
theorem dX4_apart_33 : decode cX4_apart 33 = .ok (.ireturn, 1) := by decide +kernel
theorem dX4_read_0 : decode cX4_read 0 = .ok (.iload_n 1, 1) := by decide +kernel
theorem dX4_read_1 : decode cX4_read 1 = .ok (.invokestatic 176, 3) := by decide +kernel
theorem dX4_read_4 : decode cX4_read 4 = .ok (.ifCond .eq 23, 3) := by decide +kernel
theorem dX4_read_7 : decode cX4_read 7 = .ok (.iload_n 2, 1) := by decide +kernel
theorem dX4_read_8 : decode cX4_read 8 = .ok (.iconst 0, 1) := by decide +kernel
theorem dX4_read_9 : decode cX4_read 9 = .ok (.bipush 9, 2) := by decide +kernel
theorem dX4_read_11 : decode cX4_read 11 = .ok (.invokestatic 55, 3) := by decide +kernel
theorem dX4_read_14 : decode cX4_read 14 = .ok (.ifCond .eq 13, 3) := by decide +kernel
theorem dX4_read_17 : decode cX4_read 17 = .ok (.iload_n 3, 1) := by decide +kernel
theorem dX4_read_18 : decode cX4_read 18 = .ok (.iconst 0, 1) := by decide +kernel
theorem dX4_read_19 : decode cX4_read 19 = .ok (.bipush 99, 2) := by decide +kernel
theorem dX4_read_21 : decode cX4_read 21 = .ok (.invokestatic 55, 3) := by decide +kernel
theorem dX4_read_24 : decode cX4_read 24 = .ok (.ifCond .ne 5, 3) := by decide +kernel
theorem dX4_read_27 : decode cX4_read 27 = .ok (.iconst (-1), 1) := by decide +kernel
theorem dX4_read_28 : decode cX4_read 28 = .ok (.ireturn, 1) := by decide +kernel
theorem dX4_read_29 : decode cX4_read 29 = .ok (.aload_n 0, 1) := by decide +kernel
theorem dX4_read_30 : decode cX4_read 30 = .ok (.getfield 36, 3) := by decide +kernel
theorem dX4_read_33 : decode cX4_read 33 = .ok (.getfield 179, 3) := by decide +kernel
theorem dX4_read_36 : decode cX4_read 36 = .ok (.bipush 30, 2) := by decide +kernel
theorem dX4_read_38 : decode cX4_read 38 = .ok (.if_icmp .lt 6, 3) := by decide +kernel
theorem dX4_read_41 : decode cX4_read 41 = .ok (.bipush (-3), 2) := by decide +kernel
theorem dX4_read_43 : decode cX4_read 43 = .ok (.ireturn, 1) := by decide +kernel
theorem dX4_read_44 : decode cX4_read 44 = .ok (.aload_n 0, 1) := by decide +kernel
theorem dX4_read_45 : decode cX4_read 45 = .ok (.getfield 36, 3) := by decide +kernel
theorem dX4_read_48 : decode cX4_read 48 = .ok (.iload_n 1, 1) := by decide +kernel
theorem dX4_read_49 : decode cX4_read 49 = .ok (.iload_n 2, 1) := by decide +kernel
theorem dX4_read_50 : decode cX4_read 50 = .ok (.iload_n 3, 1) := by decide +kernel
theorem dX4_read_51 : decode cX4_read 51 = .ok (.invokevirtual 182, 3) := by decide +kernel
theorem dX4_read_54 : decode cX4_read 54 = .ok (.aload_n 0, 1) := by decide +kernel
theorem dX4_read_55 : decode cX4_read 55 = .ok (.getfield 36, 3) := by decide +kernel
theorem dX4_read_58 : decode cX4_read 58 = .ok (.getfield 179, 3) := by decide +kernel
theorem dX4_read_61 : decode cX4_read 61 = .ok (.ireturn, 1) := by decide +kernel
theorem dX4_clear_0 : decode cX4_clear 0 = .ok (.aload_n 0, 1) := by decide +kernel
theorem dX4_clear_1 : decode cX4_clear 1 = .ok (.getfield 36, 3) := by decide +kernel
theorem dX4_clear_4 : decode cX4_clear 4 = .ok (.getfield 179, 3) := by decide +kernel
theorem dX4_clear_7 : decode cX4_clear 7 = .ok (.istore_n 1, 1) := by decide +kernel
theorem dX4_clear_8 : decode cX4_clear 8 = .ok (.aload_n 0, 1) := by decide +kernel
theorem dX4_clear_9 : decode cX4_clear 9 = .ok (.getfield 36, 3) := by decide +kernel
theorem dX4_clear_12 : decode cX4_clear 12 = .ok (.invokevirtual 186, 3) := by decide +kernel
theorem dX4_clear_15 : decode cX4_clear 15 = .ok (.iload_n 1, 1) := by decide +kernel
theorem dX4_clear_16 : decode cX4_clear 16 = .ok (.ireturn, 1) := by decide +kernel
theorem dX4_contradicts_0 : decode cX4_contradicts 0 = .ok (.aload_n 0, 1) := by decide +kernel
theorem dX4_contradicts_1 : decode cX4_contradicts 1 = .ok (.getfield 36, 3) := by decide +kernel
theorem dX4_contradicts_4 : decode cX4_contradicts 4 = .ok (.getfield 189, 3) := by decide +kernel
theorem dX4_contradicts_7 : decode cX4_contradicts 7 = .ok (.ireturn, 1) := by decide +kernel
theorem dX4_hang_0 : decode cX4_hang 0 = .ok (.iload_n 1, 1) := by decide +kernel
theorem dX4_hang_1 : decode cX4_hang 1 = .ok (.invokestatic 176, 3) := by decide +kernel
theorem dX4_hang_4 : decode cX4_hang 4 = .ok (.ifCond .eq 19, 3) := by decide +kernel
theorem dX4_hang_7 : decode cX4_hang 7 = .ok (.iload_n 2, 1) := by decide +kernel
theorem dX4_hang_8 : decode cX4_hang 8 = .ok (.invokestatic 176, 3) := by decide +kernel
theorem dX4_hang_11 : decode cX4_hang 11 = .ok (.ifCond .eq 12, 3) := by decide +kernel
theorem dX4_hang_14 : decode cX4_hang 14 = .ok (.iload_n 3, 1) := by decide +kernel
theorem dX4_hang_15 : decode cX4_hang 15 = .ok (.iconst 0, 1) := by decide +kernel
theorem dX4_hang_16 : decode cX4_hang 16 = .ok (.iconst 1, 1) := by decide +kernel
theorem dX4_hang_17 : decode cX4_hang 17 = .ok (.invokestatic 55, 3) := by decide +kernel
theorem dX4_hang_20 : decode cX4_hang 20 = .ok (.ifCond .ne 6, 3) := by decide +kernel
theorem dX4_hang_23 : decode cX4_hang 23 = .ok (.ldc 192, 2) := by decide +kernel
theorem dX4_hang_25 : decode cX4_hang 25 = .ok (.ireturn, 1) := by decide +kernel
theorem dX4_hang_26 : decode cX4_hang 26 = .ok (.aload_n 0, 1) := by decide +kernel
theorem dX4_hang_27 : decode cX4_hang 27 = .ok (.getfield 36, 3) := by decide +kernel
theorem dX4_hang_30 : decode cX4_hang 30 = .ok (.iload_n 1, 1) := by decide +kernel
theorem dX4_hang_31 : decode cX4_hang 31 = .ok (.iload_n 2, 1) := by decide +kernel
theorem dX4_hang_32 : decode cX4_hang 32 = .ok (.invokevirtual 193, 3) := by decide +kernel
theorem dX4_hang_35 : decode cX4_hang 35 = .ok (.istore 4, 2) := by decide +kernel
theorem dX4_hang_37 : decode cX4_hang 37 = .ok (.iload_n 3, 1) := by decide +kernel
theorem dX4_hang_38 : decode cX4_hang 38 = .ok (.ifCond .ne 14, 3) := by decide +kernel
theorem dX4_hang_41 : decode cX4_hang 41 = .ok (.iload 4, 2) := by decide +kernel
theorem dX4_hang_43 : decode cX4_hang 43 = .ok (.ifCond .eq 7, 3) := by decide +kernel
theorem dX4_hang_46 : decode cX4_hang 46 = .ok (.iconst 1, 1) := by decide +kernel
theorem dX4_hang_47 : decode cX4_hang 47 = .ok (.goto 4, 3) := by decide +kernel
theorem dX4_hang_50 : decode cX4_hang 50 = .ok (.iconst 0, 1) := by decide +kernel
theorem dX4_hang_51 : decode cX4_hang 51 = .ok (.ireturn, 1) := by decide +kernel
theorem dX4_hang_52 : decode cX4_hang 52 = .ok (.iload 4, 2) := by decide +kernel
theorem dX4_hang_54 : decode cX4_hang 54 = .ok (.ifCond .eq 25, 3) := by decide +kernel
theorem dX4_hang_57 : decode cX4_hang 57 = .ok (.aload_n 0, 1) := by decide +kernel
theorem dX4_hang_58 : decode cX4_hang 58 = .ok (.getfield 36, 3) := by decide +kernel
theorem dX4_hang_61 : decode cX4_hang 61 = .ok (.getfield 196, 3) := by decide +kernel
theorem dX4_hang_64 : decode cX4_hang 64 = .ok (.iload_n 1, 1) := by decide +kernel
theorem dX4_hang_65 : decode cX4_hang 65 = .ok (.iaload, 1) := by decide +kernel
theorem dX4_hang_66 : decode cX4_hang 66 = .ok (.aload_n 0, 1) := by decide +kernel
theorem dX4_hang_67 : decode cX4_hang 67 = .ok (.getfield 36, 3) := by decide +kernel
theorem dX4_hang_70 : decode cX4_hang 70 = .ok (.getfield 196, 3) := by decide +kernel
theorem dX4_hang_73 : decode cX4_hang 73 = .ok (.iload_n 2, 1) := by decide +kernel
theorem dX4_hang_74 : decode cX4_hang 74 = .ok (.iaload, 1) := by decide +kernel
theorem dX4_hang_75 : decode cX4_hang 75 = .ok (.isub, 1) := by decide +kernel
theorem dX4_hang_76 : decode cX4_hang 76 = .ok (.goto 5, 3) := by decide +kernel
theorem dX4_hang_79 : decode cX4_hang 79 = .ok (.ldc 199, 2) := by decide +kernel
theorem dX4_hang_81 : decode cX4_hang 81 = .ok (.ireturn, 1) := by decide +kernel
theorem dX4_count_0 : decode cX4_count 0 = .ok (.iload_n 1, 1) := by decide +kernel
theorem dX4_count_1 : decode cX4_count 1 = .ok (.tableswitch 72 0 5 #[39, 44, 49, 54, 62, 67], 39) := by decide +kernel
theorem dX4_count_40 : decode cX4_count 40 = .ok (.aload_n 0, 1) := by decide +kernel
theorem dX4_count_41 : decode cX4_count 41 = .ok (.getfield 44, 3) := by decide +kernel
theorem dX4_count_44 : decode cX4_count 44 = .ok (.ireturn, 1) := by decide +kernel
theorem dX4_count_45 : decode cX4_count 45 = .ok (.aload_n 0, 1) := by decide +kernel
theorem dX4_count_46 : decode cX4_count 46 = .ok (.getfield 40, 3) := by decide +kernel
theorem dX4_count_49 : decode cX4_count 49 = .ok (.ireturn, 1) := by decide +kernel
theorem dX4_count_50 : decode cX4_count 50 = .ok (.aload_n 0, 1) := by decide +kernel
theorem dX4_count_51 : decode cX4_count 51 = .ok (.invokevirtual 200, 3) := by decide +kernel
theorem dX4_count_54 : decode cX4_count 54 = .ok (.ireturn, 1) := by decide +kernel
theorem dX4_count_55 : decode cX4_count 55 = .ok (.aload_n 0, 1) := by decide +kernel
theorem dX4_count_56 : decode cX4_count 56 = .ok (.getfield 36, 3) := by decide +kernel
theorem dX4_count_59 : decode cX4_count 59 = .ok (.getfield 179, 3) := by decide +kernel
theorem dX4_count_62 : decode cX4_count 62 = .ok (.ireturn, 1) := by decide +kernel
theorem dX4_count_63 : decode cX4_count 63 = .ok (.aload_n 0, 1) := by decide +kernel
theorem dX4_count_64 : decode cX4_count 64 = .ok (.getfield 47, 3) := by decide +kernel
theorem dX4_count_67 : decode cX4_count 67 = .ok (.ireturn, 1) := by decide +kernel
theorem dX4_count_68 : decode cX4_count 68 = .ok (.aload_n 0, 1) := by decide +kernel
theorem dX4_count_69 : decode cX4_count 69 = .ok (.invokevirtual 203, 3) := by decide +kernel
theorem dX4_count_72 : decode cX4_count 72 = .ok (.ireturn, 1) := by decide +kernel
theorem dX4_count_73 : decode cX4_count 73 = .ok (.iconst (-1), 1) := by decide +kernel
theorem dX4_count_74 : decode cX4_count 74 = .ok (.ireturn, 1) := by decide +kernel
theorem dX4_trace_0 : decode cX4_trace 0 = .ok (.aload_n 0, 1) := by decide +kernel
theorem dX4_trace_1 : decode cX4_trace 1 = .ok (.getfield 50, 3) := by decide +kernel
theorem dX4_trace_4 : decode cX4_trace 4 = .ok (.lreturn, 1) := by decide +kernel
theorem dX4_isWithin_0 : decode cX4_isWithin 0 = .ok (.iload_n 0, 1) := by decide +kernel
theorem dX4_isWithin_1 : decode cX4_isWithin 1 = .ok (.iload_n 1, 1) := by decide +kernel
theorem dX4_isWithin_2 : decode cX4_isWithin 2 = .ok (.if_icmp .lt 12, 3) := by decide +kernel
theorem dX4_isWithin_5 : decode cX4_isWithin 5 = .ok (.iload_n 0, 1) := by decide +kernel
theorem dX4_isWithin_6 : decode cX4_isWithin 6 = .ok (.iload_n 2, 1) := by decide +kernel
theorem dX4_isWithin_7 : decode cX4_isWithin 7 = .ok (.if_icmp .gt 7, 3) := by decide +kernel
theorem dX4_isWithin_10 : decode cX4_isWithin 10 = .ok (.iconst 1, 1) := by decide +kernel
theorem dX4_isWithin_11 : decode cX4_isWithin 11 = .ok (.goto 4, 3) := by decide +kernel
theorem dX4_isWithin_14 : decode cX4_isWithin 14 = .ok (.iconst 0, 1) := by decide +kernel
theorem dX4_isWithin_15 : decode cX4_isWithin 15 = .ok (.ireturn, 1) := by decide +kernel
theorem dX4_isCask_0 : decode cX4_isCask 0 = .ok (.iload_n 1, 1) := by decide +kernel
theorem dX4_isCask_1 : decode cX4_isCask 1 = .ok (.iconst 0, 1) := by decide +kernel
theorem dX4_isCask_2 : decode cX4_isCask 2 = .ok (.aload_n 0, 1) := by decide +kernel
theorem dX4_isCask_3 : decode cX4_isCask 3 = .ok (.getfield 40, 3) := by decide +kernel
theorem dX4_isCask_6 : decode cX4_isCask 6 = .ok (.iconst 1, 1) := by decide +kernel
theorem dX4_isCask_7 : decode cX4_isCask 7 = .ok (.isub, 1) := by decide +kernel
theorem dX4_isCask_8 : decode cX4_isCask 8 = .ok (.invokestatic 55, 3) := by decide +kernel
theorem dX4_isCask_11 : decode cX4_isCask 11 = .ok (.ireturn, 1) := by decide +kernel
theorem dX4_isSet_0 : decode cX4_isSet 0 = .ok (.iload_n 1, 1) := by decide +kernel
theorem dX4_isSet_1 : decode cX4_isSet 1 = .ok (.iconst 0, 1) := by decide +kernel
theorem dX4_isSet_2 : decode cX4_isSet 2 = .ok (.iconst 1, 1) := by decide +kernel
theorem dX4_isSet_3 : decode cX4_isSet 3 = .ok (.aload_n 0, 1) := by decide +kernel
theorem dX4_isSet_4 : decode cX4_isSet 4 = .ok (.getfield 40, 3) := by decide +kernel
theorem dX4_isSet_7 : decode cX4_isSet 7 = .ok (.ishl, 1) := by decide +kernel
theorem dX4_isSet_8 : decode cX4_isSet 8 = .ok (.iconst 1, 1) := by decide +kernel
theorem dX4_isSet_9 : decode cX4_isSet 9 = .ok (.isub, 1) := by decide +kernel
theorem dX4_isSet_10 : decode cX4_isSet 10 = .ok (.invokestatic 55, 3) := by decide +kernel
theorem dX4_isSet_13 : decode cX4_isSet 13 = .ok (.ireturn, 1) := by decide +kernel
theorem dX4_holds_0 : decode cX4_holds 0 = .ok (.iload_n 0, 1) := by decide +kernel
theorem dX4_holds_1 : decode cX4_holds 1 = .ok (.iload_n 1, 1) := by decide +kernel
theorem dX4_holds_2 : decode cX4_holds 2 = .ok (.ishr, 1) := by decide +kernel
theorem dX4_holds_3 : decode cX4_holds 3 = .ok (.iconst 1, 1) := by decide +kernel
theorem dX4_holds_4 : decode cX4_holds 4 = .ok (.iand, 1) := by decide +kernel
theorem dX4_holds_5 : decode cX4_holds 5 = .ok (.iconst 1, 1) := by decide +kernel
theorem dX4_holds_6 : decode cX4_holds 6 = .ok (.if_icmp .ne 7, 3) := by decide +kernel
theorem dX4_holds_9 : decode cX4_holds 9 = .ok (.iconst 1, 1) := by decide +kernel
theorem dX4_holds_10 : decode cX4_holds 10 = .ok (.goto 4, 3) := by decide +kernel
theorem dX4_holds_13 : decode cX4_holds 13 = .ok (.iconst 0, 1) := by decide +kernel
theorem dX4_holds_14 : decode cX4_holds 14 = .ok (.ireturn, 1) := by decide +kernel
theorem dX4_isNose_0 : decode cX4_isNose 0 = .ok (.iload_n 0, 1) := by decide +kernel
theorem dX4_isNose_1 : decode cX4_isNose 1 = .ok (.iconst 0, 1) := by decide +kernel
theorem dX4_isNose_2 : decode cX4_isNose 2 = .ok (.iconst 5, 1) := by decide +kernel
theorem dX4_isNose_3 : decode cX4_isNose 3 = .ok (.invokestatic 55, 3) := by decide +kernel
theorem dX4_isNose_6 : decode cX4_isNose 6 = .ok (.ireturn, 1) := by decide +kernel
theorem dX4_isTriangle_0 : decode cX4_isTriangle 0 = .ok (.iload_n 0, 1) := by decide +kernel
theorem dX4_isTriangle_1 : decode cX4_isTriangle 1 = .ok (.iconst 1, 1) := by decide +kernel
theorem dX4_isTriangle_2 : decode cX4_isTriangle 2 = .ok (.bipush 20, 2) := by decide +kernel
theorem dX4_isTriangle_4 : decode cX4_isTriangle 4 = .ok (.invokestatic 55, 3) := by decide +kernel
theorem dX4_isTriangle_7 : decode cX4_isTriangle 7 = .ok (.ifCond .eq 16, 3) := by decide +kernel
theorem dX4_isTriangle_10 : decode cX4_isTriangle 10 = .ok (.iload_n 1, 1) := by decide +kernel
theorem dX4_isTriangle_11 : decode cX4_isTriangle 11 = .ok (.iconst 0, 1) := by decide +kernel
theorem dX4_isTriangle_12 : decode cX4_isTriangle 12 = .ok (.iload_n 0, 1) := by decide +kernel
theorem dX4_isTriangle_13 : decode cX4_isTriangle 13 = .ok (.invokestatic 55, 3) := by decide +kernel
theorem dX4_isTriangle_16 : decode cX4_isTriangle 16 = .ok (.ifCond .eq 7, 3) := by decide +kernel
theorem dX4_isTriangle_19 : decode cX4_isTriangle 19 = .ok (.iconst 1, 1) := by decide +kernel
theorem dX4_isTriangle_20 : decode cX4_isTriangle 20 = .ok (.goto 4, 3) := by decide +kernel
theorem dX4_isTriangle_23 : decode cX4_isTriangle 23 = .ok (.iconst 0, 1) := by decide +kernel
theorem dX4_isTriangle_24 : decode cX4_isTriangle 24 = .ok (.ireturn, 1) := by decide +kernel
theorem dX4_dividedUp_0 : decode cX4_dividedUp 0 = .ok (.iload_n 1, 1) := by decide +kernel
theorem dX4_dividedUp_1 : decode cX4_dividedUp 1 = .ok (.iconst 1, 1) := by decide +kernel
theorem dX4_dividedUp_2 : decode cX4_dividedUp 2 = .ok (.if_icmp .ge 7, 3) := by decide +kernel
theorem dX4_dividedUp_5 : decode cX4_dividedUp 5 = .ok (.iconst 0, 1) := by decide +kernel
theorem dX4_dividedUp_6 : decode cX4_dividedUp 6 = .ok (.goto 10, 3) := by decide +kernel
theorem dX4_dividedUp_9 : decode cX4_dividedUp 9 = .ok (.iload_n 0, 1) := by decide +kernel
theorem dX4_dividedUp_10 : decode cX4_dividedUp 10 = .ok (.iload_n 1, 1) := by decide +kernel
theorem dX4_dividedUp_11 : decode cX4_dividedUp 11 = .ok (.iadd, 1) := by decide +kernel
theorem dX4_dividedUp_12 : decode cX4_dividedUp 12 = .ok (.iconst 1, 1) := by decide +kernel
theorem dX4_dividedUp_13 : decode cX4_dividedUp 13 = .ok (.isub, 1) := by decide +kernel
theorem dX4_dividedUp_14 : decode cX4_dividedUp 14 = .ok (.iload_n 1, 1) := by decide +kernel
theorem dX4_dividedUp_15 : decode cX4_dividedUp 15 = .ok (.idiv, 1) := by decide +kernel
theorem dX4_dividedUp_16 : decode cX4_dividedUp 16 = .ok (.ireturn, 1) := by decide +kernel
theorem dX4_lossBy_0 : decode cX4_lossBy 0 = .ok (.bipush 15, 2) := by decide +kernel
theorem dX4_lossBy_2 : decode cX4_lossBy 2 = .ok (.iconst 5, 1) := by decide +kernel
theorem dX4_lossBy_3 : decode cX4_lossBy 3 = .ok (.iload_n 1, 1) := by decide +kernel
theorem dX4_lossBy_4 : decode cX4_lossBy 4 = .ok (.imul, 1) := by decide +kernel
theorem dX4_lossBy_5 : decode cX4_lossBy 5 = .ok (.iadd, 1) := by decide +kernel
theorem dX4_lossBy_6 : decode cX4_lossBy 6 = .ok (.iconst 0, 1) := by decide +kernel
theorem dX4_lossBy_7 : decode cX4_lossBy 7 = .ok (.bipush 20, 2) := by decide +kernel
theorem dX4_lossBy_9 : decode cX4_lossBy 9 = .ok (.iconst 2, 1) := by decide +kernel
theorem dX4_lossBy_10 : decode cX4_lossBy 10 = .ok (.iload_n 2, 1) := by decide +kernel
theorem dX4_lossBy_11 : decode cX4_lossBy 11 = .ok (.imul, 1) := by decide +kernel
theorem dX4_lossBy_12 : decode cX4_lossBy 12 = .ok (.isub, 1) := by decide +kernel
theorem dX4_lossBy_13 : decode cX4_lossBy 13 = .ok (.invokestatic 152, 3) := by decide +kernel
theorem dX4_lossBy_16 : decode cX4_lossBy 16 = .ok (.iadd, 1) := by decide +kernel
theorem dX4_lossBy_17 : decode cX4_lossBy 17 = .ok (.istore_n 3, 1) := by decide +kernel
theorem dX4_lossBy_18 : decode cX4_lossBy 18 = .ok (.iload_n 0, 1) := by decide +kernel
theorem dX4_lossBy_19 : decode cX4_lossBy 19 = .ok (.ifCond .ne 5, 3) := by decide +kernel
theorem dX4_lossBy_22 : decode cX4_lossBy 22 = .ok (.iload_n 3, 1) := by decide +kernel
theorem dX4_lossBy_23 : decode cX4_lossBy 23 = .ok (.ireturn, 1) := by decide +kernel
theorem dX4_lossBy_24 : decode cX4_lossBy 24 = .ok (.iload_n 3, 1) := by decide +kernel
theorem dX4_lossBy_25 : decode cX4_lossBy 25 = .ok (.iconst 3, 1) := by decide +kernel
theorem dX4_lossBy_26 : decode cX4_lossBy 26 = .ok (.imul, 1) := by decide +kernel
theorem dX4_lossBy_27 : decode cX4_lossBy 27 = .ok (.iconst 4, 1) := by decide +kernel
theorem dX4_lossBy_28 : decode cX4_lossBy 28 = .ok (.idiv, 1) := by decide +kernel
theorem dX4_lossBy_29 : decode cX4_lossBy 29 = .ok (.istore 4, 2) := by decide +kernel
theorem dX4_lossBy_31 : decode cX4_lossBy 31 = .ok (.iload_n 0, 1) := by decide +kernel
theorem dX4_lossBy_32 : decode cX4_lossBy 32 = .ok (.iconst 1, 1) := by decide +kernel
theorem dX4_lossBy_33 : decode cX4_lossBy 33 = .ok (.if_icmp .ne 8, 3) := by decide +kernel
theorem dX4_lossBy_36 : decode cX4_lossBy 36 = .ok (.iload 4, 2) := by decide +kernel
theorem dX4_lossBy_38 : decode cX4_lossBy 38 = .ok (.goto 11, 3) := by decide +kernel
theorem dX4_lossBy_41 : decode cX4_lossBy 41 = .ok (.iconst 1, 1) := by decide +kernel
theorem dX4_lossBy_42 : decode cX4_lossBy 42 = .ok (.iload 4, 2) := by decide +kernel
theorem dX4_lossBy_44 : decode cX4_lossBy 44 = .ok (.iconst 4, 1) := by decide +kernel
theorem dX4_lossBy_45 : decode cX4_lossBy 45 = .ok (.isub, 1) := by decide +kernel
theorem dX4_lossBy_46 : decode cX4_lossBy 46 = .ok (.invokestatic 152, 3) := by decide +kernel
theorem dX4_lossBy_49 : decode cX4_lossBy 49 = .ok (.ireturn, 1) := by decide +kernel
theorem dX4_lostOf_0 : decode cX4_lostOf 0 = .ok (.iload_n 0, 1) := by decide +kernel
theorem dX4_lostOf_1 : decode cX4_lostOf 1 = .ok (.iload_n 1, 1) := by decide +kernel
theorem dX4_lostOf_2 : decode cX4_lostOf 2 = .ok (.imul, 1) := by decide +kernel
theorem dX4_lostOf_3 : decode cX4_lostOf 3 = .ok (.sipush 1000, 3) := by decide +kernel
theorem dX4_lostOf_6 : decode cX4_lostOf 6 = .ok (.invokestatic 158, 3) := by decide +kernel
theorem dX4_lostOf_9 : decode cX4_lostOf 9 = .ok (.ireturn, 1) := by decide +kernel
theorem dX4_passYear_0 : decode cX4_passYear 0 = .ok (.iconst 0, 1) := by decide +kernel
theorem dX4_passYear_1 : decode cX4_passYear 1 = .ok (.istore_n 1, 1) := by decide +kernel
theorem dX4_passYear_2 : decode cX4_passYear 2 = .ok (.iload_n 1, 1) := by decide +kernel
theorem dX4_passYear_3 : decode cX4_passYear 3 = .ok (.aload_n 0, 1) := by decide +kernel
theorem dX4_passYear_4 : decode cX4_passYear 4 = .ok (.getfield 40, 3) := by decide +kernel
theorem dX4_passYear_7 : decode cX4_passYear 7 = .ok (.if_icmp .ge 34, 3) := by decide +kernel
theorem dX4_passYear_10 : decode cX4_passYear 10 = .ok (.aload_n 0, 1) := by decide +kernel
theorem dX4_passYear_11 : decode cX4_passYear 11 = .ok (.getfield 11, 3) := by decide +kernel
theorem dX4_passYear_14 : decode cX4_passYear 14 = .ok (.iload_n 1, 1) := by decide +kernel
theorem dX4_passYear_15 : decode cX4_passYear 15 = .ok (.aaload, 1) := by decide +kernel
theorem dX4_passYear_16 : decode cX4_passYear 16 = .ok (.getfield 80, 3) := by decide +kernel
theorem dX4_passYear_19 : decode cX4_passYear 19 = .ok (.ifCond .le 16, 3) := by decide +kernel
theorem dX4_passYear_22 : decode cX4_passYear 22 = .ok (.aload_n 0, 1) := by decide +kernel
theorem dX4_passYear_23 : decode cX4_passYear 23 = .ok (.getfield 11, 3) := by decide +kernel
theorem dX4_passYear_26 : decode cX4_passYear 26 = .ok (.iload_n 1, 1) := by decide +kernel
theorem dX4_passYear_27 : decode cX4_passYear 27 = .ok (.aaload, 1) := by decide +kernel
theorem dX4_passYear_28 : decode cX4_passYear 28 = .ok (.aload_n 0, 1) := by decide +kernel
theorem dX4_passYear_29 : decode cX4_passYear 29 = .ok (.getfield 44, 3) := by decide +kernel
theorem dX4_passYear_32 : decode cX4_passYear 32 = .ok (.invokevirtual 206, 3) := by decide +kernel
theorem dX4_passYear_35 : decode cX4_passYear 35 = .ok (.iinc 1 1, 3) := by decide +kernel
theorem dX4_passYear_38 : decode cX4_passYear 38 = .ok (.goto (-36), 3) := by decide +kernel
theorem dX4_passYear_41 : decode cX4_passYear 41 = .ok (.aload_n 0, 1) := by decide +kernel
theorem dX4_passYear_42 : decode cX4_passYear 42 = .ok (.dup, 1) := by decide +kernel
theorem dX4_passYear_43 : decode cX4_passYear 43 = .ok (.getfield 44, 3) := by decide +kernel
theorem dX4_passYear_46 : decode cX4_passYear 46 = .ok (.iconst 1, 1) := by decide +kernel
theorem dX4_passYear_47 : decode cX4_passYear 47 = .ok (.iadd, 1) := by decide +kernel
theorem dX4_passYear_48 : decode cX4_passYear 48 = .ok (.putfield 44, 3) := by decide +kernel
theorem dX4_passYear_51 : decode cX4_passYear 51 = .ok (.return_, 1) := by decide +kernel
theorem dX4_notEmpty_0 : decode cX4_notEmpty 0 = .ok (.iconst 0, 1) := by decide +kernel
theorem dX4_notEmpty_1 : decode cX4_notEmpty 1 = .ok (.istore_n 1, 1) := by decide +kernel
theorem dX4_notEmpty_2 : decode cX4_notEmpty 2 = .ok (.iconst 0, 1) := by decide +kernel
theorem dX4_notEmpty_3 : decode cX4_notEmpty 3 = .ok (.istore_n 2, 1) := by decide +kernel
theorem dX4_notEmpty_4 : decode cX4_notEmpty 4 = .ok (.iload_n 2, 1) := by decide +kernel
theorem dX4_notEmpty_5 : decode cX4_notEmpty 5 = .ok (.aload_n 0, 1) := by decide +kernel
theorem dX4_notEmpty_6 : decode cX4_notEmpty 6 = .ok (.getfield 40, 3) := by decide +kernel
theorem dX4_notEmpty_9 : decode cX4_notEmpty 9 = .ok (.if_icmp .ge 24, 3) := by decide +kernel
theorem dX4_notEmpty_12 : decode cX4_notEmpty 12 = .ok (.aload_n 0, 1) := by decide +kernel
theorem dX4_notEmpty_13 : decode cX4_notEmpty 13 = .ok (.getfield 11, 3) := by decide +kernel
theorem dX4_notEmpty_16 : decode cX4_notEmpty 16 = .ok (.iload_n 2, 1) := by decide +kernel
theorem dX4_notEmpty_17 : decode cX4_notEmpty 17 = .ok (.aaload, 1) := by decide +kernel
theorem dX4_notEmpty_18 : decode cX4_notEmpty 18 = .ok (.getfield 80, 3) := by decide +kernel
theorem dX4_notEmpty_21 : decode cX4_notEmpty 21 = .ok (.ifCond .le 6, 3) := by decide +kernel
theorem dX4_notEmpty_24 : decode cX4_notEmpty 24 = .ok (.iinc 1 1, 3) := by decide +kernel
theorem dX4_notEmpty_27 : decode cX4_notEmpty 27 = .ok (.iinc 2 1, 3) := by decide +kernel
theorem dX4_notEmpty_30 : decode cX4_notEmpty 30 = .ok (.goto (-26), 3) := by decide +kernel
theorem dX4_notEmpty_33 : decode cX4_notEmpty 33 = .ok (.iload_n 1, 1) := by decide +kernel
theorem dX4_notEmpty_34 : decode cX4_notEmpty 34 = .ok (.ireturn, 1) := by decide +kernel
theorem dX4_allDrops_0 : decode cX4_allDrops 0 = .ok (.iconst 0, 1) := by decide +kernel
theorem dX4_allDrops_1 : decode cX4_allDrops 1 = .ok (.istore_n 1, 1) := by decide +kernel
theorem dX4_allDrops_2 : decode cX4_allDrops 2 = .ok (.iconst 0, 1) := by decide +kernel
theorem dX4_allDrops_3 : decode cX4_allDrops 3 = .ok (.istore_n 2, 1) := by decide +kernel
theorem dX4_allDrops_4 : decode cX4_allDrops 4 = .ok (.iload_n 2, 1) := by decide +kernel
theorem dX4_allDrops_5 : decode cX4_allDrops 5 = .ok (.aload_n 0, 1) := by decide +kernel
theorem dX4_allDrops_6 : decode cX4_allDrops 6 = .ok (.getfield 40, 3) := by decide +kernel
theorem dX4_allDrops_9 : decode cX4_allDrops 9 = .ok (.if_icmp .ge 21, 3) := by decide +kernel
theorem dX4_allDrops_12 : decode cX4_allDrops 12 = .ok (.iload_n 1, 1) := by decide +kernel
theorem dX4_allDrops_13 : decode cX4_allDrops 13 = .ok (.aload_n 0, 1) := by decide +kernel
theorem dX4_allDrops_14 : decode cX4_allDrops 14 = .ok (.getfield 11, 3) := by decide +kernel
theorem dX4_allDrops_17 : decode cX4_allDrops 17 = .ok (.iload_n 2, 1) := by decide +kernel
theorem dX4_allDrops_18 : decode cX4_allDrops 18 = .ok (.aaload, 1) := by decide +kernel
theorem dX4_allDrops_19 : decode cX4_allDrops 19 = .ok (.getfield 80, 3) := by decide +kernel
theorem dX4_allDrops_22 : decode cX4_allDrops 22 = .ok (.iadd, 1) := by decide +kernel
theorem dX4_allDrops_23 : decode cX4_allDrops 23 = .ok (.istore_n 1, 1) := by decide +kernel
theorem dX4_allDrops_24 : decode cX4_allDrops 24 = .ok (.iinc 2 1, 3) := by decide +kernel
theorem dX4_allDrops_27 : decode cX4_allDrops 27 = .ok (.goto (-23), 3) := by decide +kernel
theorem dX4_allDrops_30 : decode cX4_allDrops 30 = .ok (.iload_n 1, 1) := by decide +kernel
theorem dX4_allDrops_31 : decode cX4_allDrops 31 = .ok (.ireturn, 1) := by decide +kernel
theorem dX4_gather_0 : decode cX4_gather 0 = .ok (.aload_n 0, 1) := by decide +kernel
theorem dX4_gather_1 : decode cX4_gather 1 = .ok (.getfield 29, 3) := by decide +kernel
theorem dX4_gather_4 : decode cX4_gather 4 = .ok (.invokevirtual 208, 3) := by decide +kernel
theorem dX4_gather_7 : decode cX4_gather 7 = .ok (.iconst 0, 1) := by decide +kernel
theorem dX4_gather_8 : decode cX4_gather 8 = .ok (.istore_n 2, 1) := by decide +kernel
theorem dX4_gather_9 : decode cX4_gather 9 = .ok (.iload_n 2, 1) := by decide +kernel
theorem dX4_gather_10 : decode cX4_gather 10 = .ok (.aload_n 0, 1) := by decide +kernel
theorem dX4_gather_11 : decode cX4_gather 11 = .ok (.getfield 40, 3) := by decide +kernel
theorem dX4_gather_14 : decode cX4_gather 14 = .ok (.if_icmp .ge 49, 3) := by decide +kernel
theorem dX4_gather_17 : decode cX4_gather 17 = .ok (.iload_n 1, 1) := by decide +kernel
theorem dX4_gather_18 : decode cX4_gather 18 = .ok (.iload_n 2, 1) := by decide +kernel
theorem dX4_gather_19 : decode cX4_gather 19 = .ok (.invokestatic 161, 3) := by decide +kernel
theorem dX4_gather_22 : decode cX4_gather 22 = .ok (.ifCond .eq 35, 3) := by decide +kernel
theorem dX4_gather_25 : decode cX4_gather 25 = .ok (.aload_n 0, 1) := by decide +kernel
theorem dX4_gather_26 : decode cX4_gather 26 = .ok (.getfield 11, 3) := by decide +kernel
theorem dX4_gather_29 : decode cX4_gather 29 = .ok (.iload_n 2, 1) := by decide +kernel
theorem dX4_gather_30 : decode cX4_gather 30 = .ok (.aaload, 1) := by decide +kernel
theorem dX4_gather_31 : decode cX4_gather 31 = .ok (.getfield 80, 3) := by decide +kernel
theorem dX4_gather_34 : decode cX4_gather 34 = .ok (.iconst 1, 1) := by decide +kernel
theorem dX4_gather_35 : decode cX4_gather 35 = .ok (.if_icmp .ge 5, 3) := by decide +kernel
theorem dX4_gather_38 : decode cX4_gather 38 = .ok (.iconst 0, 1) := by decide +kernel
theorem dX4_gather_39 : decode cX4_gather 39 = .ok (.ireturn, 1) := by decide +kernel
theorem dX4_gather_40 : decode cX4_gather 40 = .ok (.aload_n 0, 1) := by decide +kernel
theorem dX4_gather_41 : decode cX4_gather 41 = .ok (.getfield 29, 3) := by decide +kernel
theorem dX4_gather_44 : decode cX4_gather 44 = .ok (.aload_n 0, 1) := by decide +kernel
theorem dX4_gather_45 : decode cX4_gather 45 = .ok (.getfield 11, 3) := by decide +kernel
theorem dX4_gather_48 : decode cX4_gather 48 = .ok (.iload_n 2, 1) := by decide +kernel
theorem dX4_gather_49 : decode cX4_gather 49 = .ok (.aaload, 1) := by decide +kernel
theorem dX4_gather_50 : decode cX4_gather 50 = .ok (.aload_n 0, 1) := by decide +kernel
theorem dX4_gather_51 : decode cX4_gather 51 = .ok (.getfield 44, 3) := by decide +kernel
theorem dX4_gather_54 : decode cX4_gather 54 = .ok (.invokevirtual 211, 3) := by decide +kernel
theorem dX4_gather_57 : decode cX4_gather 57 = .ok (.iinc 2 1, 3) := by decide +kernel
theorem dX4_gather_60 : decode cX4_gather 60 = .ok (.goto (-51), 3) := by decide +kernel
theorem dX4_gather_63 : decode cX4_gather 63 = .ok (.aload_n 0, 1) := by decide +kernel
theorem dX4_gather_64 : decode cX4_gather 64 = .ok (.getfield 29, 3) := by decide +kernel
theorem dX4_gather_67 : decode cX4_gather 67 = .ok (.getfield 117, 3) := by decide +kernel
theorem dX4_gather_70 : decode cX4_gather 70 = .ok (.ifCond .le 7, 3) := by decide +kernel
theorem dX4_gather_73 : decode cX4_gather 73 = .ok (.iconst 1, 1) := by decide +kernel
theorem dX4_gather_74 : decode cX4_gather 74 = .ok (.goto 4, 3) := by decide +kernel
theorem dX4_gather_77 : decode cX4_gather 77 = .ok (.iconst 0, 1) := by decide +kernel
theorem dX4_gather_78 : decode cX4_gather 78 = .ok (.ireturn, 1) := by decide +kernel
theorem dX4_bestSet_0 : decode cX4_bestSet 0 = .ok (.bipush (-9), 2) := by decide +kernel
theorem dX4_bestSet_2 : decode cX4_bestSet 2 = .ok (.istore_n 1, 1) := by decide +kernel
theorem dX4_bestSet_3 : decode cX4_bestSet 3 = .ok (.iconst 0, 1) := by decide +kernel
theorem dX4_bestSet_4 : decode cX4_bestSet 4 = .ok (.istore_n 2, 1) := by decide +kernel
theorem dX4_bestSet_5 : decode cX4_bestSet 5 = .ok (.iconst 1, 1) := by decide +kernel
theorem dX4_bestSet_6 : decode cX4_bestSet 6 = .ok (.aload_n 0, 1) := by decide +kernel
theorem dX4_bestSet_7 : decode cX4_bestSet 7 = .ok (.getfield 40, 3) := by decide +kernel
theorem dX4_bestSet_10 : decode cX4_bestSet 10 = .ok (.ishl, 1) := by decide +kernel
theorem dX4_bestSet_11 : decode cX4_bestSet 11 = .ok (.istore_n 3, 1) := by decide +kernel
theorem dX4_bestSet_12 : decode cX4_bestSet 12 = .ok (.iconst 1, 1) := by decide +kernel
theorem dX4_bestSet_13 : decode cX4_bestSet 13 = .ok (.istore 4, 2) := by decide +kernel
theorem dX4_bestSet_15 : decode cX4_bestSet 15 = .ok (.iconst 1, 1) := by decide +kernel
theorem dX4_bestSet_16 : decode cX4_bestSet 16 = .ok (.istore 5, 2) := by decide +kernel
theorem dX4_bestSet_18 : decode cX4_bestSet 18 = .ok (.iload 5, 2) := by decide +kernel
theorem dX4_bestSet_20 : decode cX4_bestSet 20 = .ok (.iload_n 3, 1) := by decide +kernel
theorem dX4_bestSet_21 : decode cX4_bestSet 21 = .ok (.if_icmp .ge 111, 3) := by decide +kernel
theorem dX4_bestSet_24 : decode cX4_bestSet 24 = .ok (.iload 5, 2) := by decide +kernel
theorem dX4_bestSet_26 : decode cX4_bestSet 26 = .ok (.iload 5, 2) := by decide +kernel
theorem dX4_bestSet_28 : decode cX4_bestSet 28 = .ok (.ineg, 1) := by decide +kernel
theorem dX4_bestSet_29 : decode cX4_bestSet 29 = .ok (.iand, 1) := by decide +kernel
theorem dX4_bestSet_30 : decode cX4_bestSet 30 = .ok (.istore 4, 2) := by decide +kernel
theorem dX4_bestSet_32 : decode cX4_bestSet 32 = .ok (.aload_n 0, 1) := by decide +kernel
theorem dX4_bestSet_33 : decode cX4_bestSet 33 = .ok (.iload 5, 2) := by decide +kernel
theorem dX4_bestSet_35 : decode cX4_bestSet 35 = .ok (.invokevirtual 114, 3) := by decide +kernel
theorem dX4_bestSet_38 : decode cX4_bestSet 38 = .ok (.istore 6, 2) := by decide +kernel
theorem dX4_bestSet_40 : decode cX4_bestSet 40 = .ok (.iload_n 1, 1) := by decide +kernel
theorem dX4_bestSet_41 : decode cX4_bestSet 41 = .ok (.bipush (-9), 2) := by decide +kernel
theorem dX4_bestSet_43 : decode cX4_bestSet 43 = .ok (.if_icmp .eq 18, 3) := by decide +kernel
theorem dX4_bestSet_46 : decode cX4_bestSet 46 = .ok (.aload_n 0, 1) := by decide +kernel
theorem dX4_bestSet_47 : decode cX4_bestSet 47 = .ok (.getfield 29, 3) := by decide +kernel
theorem dX4_bestSet_50 : decode cX4_bestSet 50 = .ok (.getfield 135, 3) := by decide +kernel
theorem dX4_bestSet_53 : decode cX4_bestSet 53 = .ok (.iload_n 2, 1) := by decide +kernel
theorem dX4_bestSet_54 : decode cX4_bestSet 54 = .ok (.if_icmp .lt 7, 3) := by decide +kernel
theorem dX4_bestSet_57 : decode cX4_bestSet 57 = .ok (.iconst 1, 1) := by decide +kernel
theorem dX4_bestSet_58 : decode cX4_bestSet 58 = .ok (.goto 4, 3) := by decide +kernel
theorem dX4_bestSet_61 : decode cX4_bestSet 61 = .ok (.iconst 0, 1) := by decide +kernel
theorem dX4_bestSet_62 : decode cX4_bestSet 62 = .ok (.istore 7, 2) := by decide +kernel
theorem dX4_bestSet_64 : decode cX4_bestSet 64 = .ok (.iload 6, 2) := by decide +kernel
