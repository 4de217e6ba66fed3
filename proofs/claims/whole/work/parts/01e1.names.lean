theorem dX4_init_22 : decode cX4_init 22 = .ok (.new 19, 3) := by decide +kernel
theorem dX4_init_25 : decode cX4_init 25 = .ok (.dup, 1) := by decide +kernel
theorem dX4_init_26 : decode cX4_init 26 = .ok (.invokespecial 21, 3) := by decide +kernel
theorem dX4_init_29 : decode cX4_init 29 = .ok (.putfield 22, 3) := by decide +kernel
theorem dX4_init_32 : decode cX4_init 32 = .ok (.aload_n 0, 1) := by decide +kernel
theorem dX4_init_33 : decode cX4_init 33 = .ok (.new 26, 3) := by decide +kernel
theorem dX4_init_36 : decode cX4_init 36 = .ok (.dup, 1) := by decide +kernel
theorem dX4_init_37 : decode cX4_init 37 = .ok (.invokespecial 28, 3) := by decide +kernel
theorem dX4_init_40 : decode cX4_init 40 = .ok (.putfield 29, 3) := by decide +kernel
theorem dX4_init_43 : decode cX4_init 43 = .ok (.aload_n 0, 1) := by decide +kernel
theorem dX4_init_44 : decode cX4_init 44 = .ok (.new 33, 3) := by decide +kernel
theorem dX4_init_47 : decode cX4_init 47 = .ok (.dup, 1) := by decide +kernel
theorem dX4_init_48 : decode cX4_init 48 = .ok (.invokespecial 35, 3) := by decide +kernel
theorem dX4_init_51 : decode cX4_init 51 = .ok (.putfield 36, 3) := by decide +kernel
theorem dX4_init_54 : decode cX4_init 54 = .ok (.aload_n 0, 1) := by decide +kernel
theorem dX4_init_55 : decode cX4_init 55 = .ok (.iconst 0, 1) := by decide +kernel
theorem dX4_init_56 : decode cX4_init 56 = .ok (.putfield 40, 3) := by decide +kernel
theorem dX4_init_59 : decode cX4_init 59 = .ok (.aload_n 0, 1) := by decide +kernel
theorem dX4_init_60 : decode cX4_init 60 = .ok (.iconst 0, 1) := by decide +kernel
theorem dX4_init_61 : decode cX4_init 61 = .ok (.putfield 44, 3) := by decide +kernel
theorem dX4_init_64 : decode cX4_init 64 = .ok (.aload_n 0, 1) := by decide +kernel
theorem dX4_init_65 : decode cX4_init 65 = .ok (.bipush 28, 2) := by decide +kernel
theorem dX4_init_67 : decode cX4_init 67 = .ok (.putfield 47, 3) := by decide +kernel
theorem dX4_init_70 : decode cX4_init 70 = .ok (.aload_n 0, 1) := by decide +kernel
theorem dX4_init_71 : decode cX4_init 71 = .ok (.lconst 0, 1) := by decide +kernel
theorem dX4_init_72 : decode cX4_init 72 = .ok (.putfield 50, 3) := by decide +kernel
theorem dX4_init_75 : decode cX4_init 75 = .ok (.iconst 0, 1) := by decide +kernel
theorem dX4_init_76 : decode cX4_init 76 = .ok (.istore_n 1, 1) := by decide +kernel
theorem dX4_init_77 : decode cX4_init 77 = .ok (.iload_n 1, 1) := by decide +kernel
theorem dX4_init_78 : decode cX4_init 78 = .ok (.bipush 12, 2) := by decide +kernel
theorem dX4_init_80 : decode cX4_init 80 = .ok (.if_icmp .ge 22, 3) := by decide +kernel
theorem dX4_init_83 : decode cX4_init 83 = .ok (.aload_n 0, 1) := by decide +kernel
theorem dX4_init_84 : decode cX4_init 84 = .ok (.getfield 11, 3) := by decide +kernel
theorem dX4_init_87 : decode cX4_init 87 = .ok (.iload_n 1, 1) := by decide +kernel
theorem dX4_init_88 : decode cX4_init 88 = .ok (.new 9, 3) := by decide +kernel
theorem dX4_init_91 : decode cX4_init 91 = .ok (.dup, 1) := by decide +kernel
theorem dX4_init_92 : decode cX4_init 92 = .ok (.invokespecial 54, 3) := by decide +kernel
theorem dX4_init_95 : decode cX4_init 95 = .ok (.aastore, 1) := by decide +kernel
theorem dX4_init_96 : decode cX4_init 96 = .ok (.iinc 1 1, 3) := by decide +kernel
theorem dX4_init_99 : decode cX4_init 99 = .ok (.goto (-22), 3) := by decide +kernel
theorem dX4_init_102 : decode cX4_init 102 = .ok (.return_, 1) := by decide +kernel
theorem dX4_lay_0 : decode cX4_lay 0 = .ok (.iload_n 1, 1) := by decide +kernel
theorem dX4_lay_1 : decode cX4_lay 1 = .ok (.iconst 0, 1) := by decide +kernel
theorem dX4_lay_2 : decode cX4_lay 2 = .ok (.iconst 2, 1) := by decide +kernel
theorem dX4_lay_3 : decode cX4_lay 3 = .ok (.invokestatic 55, 3) := by decide +kernel
theorem dX4_lay_6 : decode cX4_lay 6 = .ok (.ifCond .eq 49, 3) := by decide +kernel
theorem dX4_lay_9 : decode cX4_lay 9 = .ok (.iload_n 2, 1) := by decide +kernel
theorem dX4_lay_10 : decode cX4_lay 10 = .ok (.iconst 1, 1) := by decide +kernel
theorem dX4_lay_11 : decode cX4_lay 11 = .ok (.sipush 9000, 3) := by decide +kernel
theorem dX4_lay_14 : decode cX4_lay 14 = .ok (.invokestatic 55, 3) := by decide +kernel
theorem dX4_lay_17 : decode cX4_lay 17 = .ok (.ifCond .eq 38, 3) := by decide +kernel
theorem dX4_lay_20 : decode cX4_lay 20 = .ok (.iload_n 3, 1) := by decide +kernel
theorem dX4_lay_21 : decode cX4_lay 21 = .ok (.sipush 400, 3) := by decide +kernel
theorem dX4_lay_24 : decode cX4_lay 24 = .ok (.sipush 700, 3) := by decide +kernel
theorem dX4_lay_27 : decode cX4_lay 27 = .ok (.invokestatic 55, 3) := by decide +kernel
theorem dX4_lay_30 : decode cX4_lay 30 = .ok (.ifCond .eq 25, 3) := by decide +kernel
theorem dX4_lay_33 : decode cX4_lay 33 = .ok (.iload 4, 2) := by decide +kernel
theorem dX4_lay_35 : decode cX4_lay 35 = .ok (.iconst 0, 1) := by decide +kernel
theorem dX4_lay_36 : decode cX4_lay 36 = .ok (.iconst 3, 1) := by decide +kernel
theorem dX4_lay_37 : decode cX4_lay 37 = .ok (.invokestatic 55, 3) := by decide +kernel
theorem dX4_lay_40 : decode cX4_lay 40 = .ok (.ifCond .eq 15, 3) := by decide +kernel
theorem dX4_lay_43 : decode cX4_lay 43 = .ok (.iload 5, 2) := by decide +kernel
theorem dX4_lay_45 : decode cX4_lay 45 = .ok (.iconst 0, 1) := by decide +kernel
theorem dX4_lay_46 : decode cX4_lay 46 = .ok (.sipush 500, 3) := by decide +kernel
theorem dX4_lay_49 : decode cX4_lay 49 = .ok (.invokestatic 55, 3) := by decide +kernel
theorem dX4_lay_52 : decode cX4_lay 52 = .ok (.ifCond .ne 5, 3) := by decide +kernel
theorem dX4_lay_55 : decode cX4_lay 55 = .ok (.iconst (-1), 1) := by decide +kernel
theorem dX4_lay_56 : decode cX4_lay 56 = .ok (.ireturn, 1) := by decide +kernel
theorem dX4_lay_57 : decode cX4_lay 57 = .ok (.aload_n 0, 1) := by decide +kernel
theorem dX4_lay_58 : decode cX4_lay 58 = .ok (.getfield 40, 3) := by decide +kernel
theorem dX4_lay_61 : decode cX4_lay 61 = .ok (.bipush 12, 2) := by decide +kernel
theorem dX4_lay_63 : decode cX4_lay 63 = .ok (.if_icmp .lt 6, 3) := by decide +kernel
theorem dX4_lay_66 : decode cX4_lay 66 = .ok (.bipush (-3), 2) := by decide +kernel
theorem dX4_lay_68 : decode cX4_lay 68 = .ok (.ireturn, 1) := by decide +kernel
theorem dX4_lay_69 : decode cX4_lay 69 = .ok (.aload_n 0, 1) := by decide +kernel
theorem dX4_lay_70 : decode cX4_lay 70 = .ok (.getfield 11, 3) := by decide +kernel
theorem dX4_lay_73 : decode cX4_lay 73 = .ok (.aload_n 0, 1) := by decide +kernel
theorem dX4_lay_74 : decode cX4_lay 74 = .ok (.getfield 40, 3) := by decide +kernel
theorem dX4_lay_77 : decode cX4_lay 77 = .ok (.aaload, 1) := by decide +kernel
theorem dX4_lay_78 : decode cX4_lay 78 = .ok (.iload_n 1, 1) := by decide +kernel
theorem dX4_lay_79 : decode cX4_lay 79 = .ok (.iload_n 2, 1) := by decide +kernel
theorem dX4_lay_80 : decode cX4_lay 80 = .ok (.iload_n 3, 1) := by decide +kernel
theorem dX4_lay_81 : decode cX4_lay 81 = .ok (.iload 4, 2) := by decide +kernel
theorem dX4_lay_83 : decode cX4_lay 83 = .ok (.iload 5, 2) := by decide +kernel
theorem dX4_lay_85 : decode cX4_lay 85 = .ok (.aload_n 0, 1) := by decide +kernel
theorem dX4_lay_86 : decode cX4_lay 86 = .ok (.getfield 44, 3) := by decide +kernel
theorem dX4_lay_89 : decode cX4_lay 89 = .ok (.invokevirtual 59, 3) := by decide +kernel
theorem dX4_lay_92 : decode cX4_lay 92 = .ok (.aload_n 0, 1) := by decide +kernel
theorem dX4_lay_93 : decode cX4_lay 93 = .ok (.dup, 1) := by decide +kernel
theorem dX4_lay_94 : decode cX4_lay 94 = .ok (.getfield 40, 3) := by decide +kernel
theorem dX4_lay_97 : decode cX4_lay 97 = .ok (.iconst 1, 1) := by decide +kernel
theorem dX4_lay_98 : decode cX4_lay 98 = .ok (.iadd, 1) := by decide +kernel
theorem dX4_lay_99 : decode cX4_lay 99 = .ok (.putfield 40, 3) := by decide +kernel
theorem dX4_lay_102 : decode cX4_lay 102 = .ok (.aload_n 0, 1) := by decide +kernel
theorem dX4_lay_103 : decode cX4_lay 103 = .ok (.getfield 40, 3) := by decide +kernel
theorem dX4_lay_106 : decode cX4_lay 106 = .ok (.iconst 1, 1) := by decide +kernel
theorem dX4_lay_107 : decode cX4_lay 107 = .ok (.isub, 1) := by decide +kernel
theorem dX4_lay_108 : decode cX4_lay 108 = .ok (.ireturn, 1) := by decide +kernel
theorem dX4_years_0 : decode cX4_years 0 = .ok (.iload_n 1, 1) := by decide +kernel
theorem dX4_years_1 : decode cX4_years 1 = .ok (.iconst 1, 1) := by decide +kernel
theorem dX4_years_2 : decode cX4_years 2 = .ok (.bipush 30, 2) := by decide +kernel
theorem dX4_years_4 : decode cX4_years 4 = .ok (.invokestatic 55, 3) := by decide +kernel
theorem dX4_years_7 : decode cX4_years 7 = .ok (.ifCond .ne 5, 3) := by decide +kernel
theorem dX4_years_10 : decode cX4_years 10 = .ok (.iconst (-1), 1) := by decide +kernel
theorem dX4_years_11 : decode cX4_years 11 = .ok (.ireturn, 1) := by decide +kernel
theorem dX4_years_12 : decode cX4_years 12 = .ok (.aload_n 0, 1) := by decide +kernel
theorem dX4_years_13 : decode cX4_years 13 = .ok (.getfield 44, 3) := by decide +kernel
theorem dX4_years_16 : decode cX4_years 16 = .ok (.iload_n 1, 1) := by decide +kernel
theorem dX4_years_17 : decode cX4_years 17 = .ok (.iadd, 1) := by decide +kernel
theorem dX4_years_18 : decode cX4_years 18 = .ok (.bipush 60, 2) := by decide +kernel
theorem dX4_years_20 : decode cX4_years 20 = .ok (.if_icmp .le 6, 3) := by decide +kernel
theorem dX4_years_23 : decode cX4_years 23 = .ok (.bipush (-2), 2) := by decide +kernel
theorem dX4_years_25 : decode cX4_years 25 = .ok (.ireturn, 1) := by decide +kernel
theorem dX4_years_26 : decode cX4_years 26 = .ok (.iconst 0, 1) := by decide +kernel
theorem dX4_years_27 : decode cX4_years 27 = .ok (.istore_n 2, 1) := by decide +kernel
theorem dX4_years_28 : decode cX4_years 28 = .ok (.iload_n 2, 1) := by decide +kernel
theorem dX4_years_29 : decode cX4_years 29 = .ok (.iload_n 1, 1) := by decide +kernel
theorem dX4_years_30 : decode cX4_years 30 = .ok (.if_icmp .ge 13, 3) := by decide +kernel
theorem dX4_years_33 : decode cX4_years 33 = .ok (.aload_n 0, 1) := by decide +kernel
theorem dX4_years_34 : decode cX4_years 34 = .ok (.invokevirtual 63, 3) := by decide +kernel
theorem dX4_years_37 : decode cX4_years 37 = .ok (.iinc 2 1, 3) := by decide +kernel
theorem dX4_years_40 : decode cX4_years 40 = .ok (.goto (-12), 3) := by decide +kernel
theorem dX4_years_43 : decode cX4_years 43 = .ok (.aload_n 0, 1) := by decide +kernel
theorem dX4_years_44 : decode cX4_years 44 = .ok (.getfield 44, 3) := by decide +kernel
theorem dX4_years_47 : decode cX4_years 47 = .ok (.ireturn, 1) := by decide +kernel
theorem dX4_loss_0 : decode cX4_loss 0 = .ok (.aload_n 0, 1) := by decide +kernel
theorem dX4_loss_1 : decode cX4_loss 1 = .ok (.iload_n 1, 1) := by decide +kernel
theorem dX4_loss_2 : decode cX4_loss 2 = .ok (.invokevirtual 66, 3) := by decide +kernel
theorem dX4_loss_5 : decode cX4_loss 5 = .ok (.ifCond .eq 22, 3) := by decide +kernel
theorem dX4_loss_8 : decode cX4_loss 8 = .ok (.iload_n 2, 1) := by decide +kernel
theorem dX4_loss_9 : decode cX4_loss 9 = .ok (.iconst 0, 1) := by decide +kernel
theorem dX4_loss_10 : decode cX4_loss 10 = .ok (.iconst 2, 1) := by decide +kernel
theorem dX4_loss_11 : decode cX4_loss 11 = .ok (.invokestatic 55, 3) := by decide +kernel
theorem dX4_loss_14 : decode cX4_loss 14 = .ok (.ifCond .eq 13, 3) := by decide +kernel
theorem dX4_loss_17 : decode cX4_loss 17 = .ok (.iload_n 3, 1) := by decide +kernel
theorem dX4_loss_18 : decode cX4_loss 18 = .ok (.iconst 0, 1) := by decide +kernel
theorem dX4_loss_19 : decode cX4_loss 19 = .ok (.bipush 60, 2) := by decide +kernel
theorem dX4_loss_21 : decode cX4_loss 21 = .ok (.invokestatic 55, 3) := by decide +kernel
theorem dX4_loss_24 : decode cX4_loss 24 = .ok (.ifCond .ne 5, 3) := by decide +kernel
theorem dX4_loss_27 : decode cX4_loss 27 = .ok (.iconst (-1), 1) := by decide +kernel
theorem dX4_loss_28 : decode cX4_loss 28 = .ok (.ireturn, 1) := by decide +kernel
theorem dX4_loss_29 : decode cX4_loss 29 = .ok (.aload_n 0, 1) := by decide +kernel
theorem dX4_loss_30 : decode cX4_loss 30 = .ok (.dup, 1) := by decide +kernel
theorem dX4_loss_31 : decode cX4_loss 31 = .ok (.getfield 50, 3) := by decide +kernel
theorem dX4_loss_34 : decode cX4_loss 34 = .ok (.getstatic 70, 3) := by decide +kernel
theorem dX4_loss_37 : decode cX4_loss 37 = .ok (.iload_n 2, 1) := by decide +kernel
theorem dX4_loss_38 : decode cX4_loss 38 = .ok (.iaload, 1) := by decide +kernel
theorem dX4_loss_39 : decode cX4_loss 39 = .ok (.i2l, 1) := by decide +kernel
theorem dX4_loss_40 : decode cX4_loss 40 = .ok (.ladd, 1) := by decide +kernel
theorem dX4_loss_41 : decode cX4_loss 41 = .ok (.putfield 50, 3) := by decide +kernel
theorem dX4_loss_44 : decode cX4_loss 44 = .ok (.iload_n 2, 1) := by decide +kernel
theorem dX4_loss_45 : decode cX4_loss 45 = .ok (.aload_n 0, 1) := by decide +kernel
theorem dX4_loss_46 : decode cX4_loss 46 = .ok (.getfield 11, 3) := by decide +kernel
theorem dX4_loss_49 : decode cX4_loss 49 = .ok (.iload_n 1, 1) := by decide +kernel
theorem dX4_loss_50 : decode cX4_loss 50 = .ok (.aaload, 1) := by decide +kernel
theorem dX4_loss_51 : decode cX4_loss 51 = .ok (.getfield 73, 3) := by decide +kernel
theorem dX4_loss_54 : decode cX4_loss 54 = .ok (.iload_n 3, 1) := by decide +kernel
theorem dX4_loss_55 : decode cX4_loss 55 = .ok (.invokestatic 76, 3) := by decide +kernel
theorem dX4_loss_58 : decode cX4_loss 58 = .ok (.ireturn, 1) := by decide +kernel
theorem dX4_about_0 : decode cX4_about 0 = .ok (.aload_n 0, 1) := by decide +kernel
theorem dX4_about_1 : decode cX4_about 1 = .ok (.iload_n 1, 1) := by decide +kernel
theorem dX4_about_2 : decode cX4_about 2 = .ok (.invokevirtual 66, 3) := by decide +kernel
theorem dX4_about_5 : decode cX4_about 5 = .ok (.ifCond .ne 5, 3) := by decide +kernel
theorem dX4_about_8 : decode cX4_about 8 = .ok (.iconst (-1), 1) := by decide +kernel
theorem dX4_about_9 : decode cX4_about 9 = .ok (.ireturn, 1) := by decide +kernel
theorem dX4_about_10 : decode cX4_about 10 = .ok (.aload_n 0, 1) := by decide +kernel
theorem dX4_about_11 : decode cX4_about 11 = .ok (.getfield 11, 3) := by decide +kernel
theorem dX4_about_14 : decode cX4_about 14 = .ok (.iload_n 1, 1) := by decide +kernel
theorem dX4_about_15 : decode cX4_about 15 = .ok (.aaload, 1) := by decide +kernel
theorem dX4_about_16 : decode cX4_about 16 = .ok (.astore_n 3, 1) := by decide +kernel
theorem dX4_about_17 : decode cX4_about 17 = .ok (.iload_n 2, 1) := by decide +kernel
theorem dX4_about_18 : decode cX4_about 18 = .ok (.tableswitch 103 0 8 #[50, 55, 60, 69, 74, 79, 84, 89, 94], 50) := by decide +kernel
theorem dX4_about_68 : decode cX4_about 68 = .ok (.aload_n 3, 1) := by decide +kernel
theorem dX4_about_69 : decode cX4_about 69 = .ok (.getfield 80, 3) := by decide +kernel
theorem dX4_about_72 : decode cX4_about 72 = .ok (.ireturn, 1) := by decide +kernel
theorem dX4_about_73 : decode cX4_about 73 = .ok (.aload_n 3, 1) := by decide +kernel
theorem dX4_about_74 : decode cX4_about 74 = .ok (.getfield 83, 3) := by decide +kernel
theorem dX4_about_77 : decode cX4_about 77 = .ok (.ireturn, 1) := by decide +kernel
theorem dX4_about_78 : decode cX4_about 78 = .ok (.aload_n 3, 1) := by decide +kernel
theorem dX4_about_79 : decode cX4_about 79 = .ok (.aload_n 0, 1) := by decide +kernel
theorem dX4_about_80 : decode cX4_about 80 = .ok (.getfield 44, 3) := by decide +kernel
theorem dX4_about_83 : decode cX4_about 83 = .ok (.invokevirtual 86, 3) := by decide +kernel
theorem dX4_about_86 : decode cX4_about 86 = .ok (.ireturn, 1) := by decide +kernel
theorem dX4_about_87 : decode cX4_about 87 = .ok (.aload_n 3, 1) := by decide +kernel
theorem dX4_about_88 : decode cX4_about 88 = .ok (.getfield 90, 3) := by decide +kernel
theorem dX4_about_91 : decode cX4_about 91 = .ok (.ireturn, 1) := by decide +kernel
theorem dX4_about_92 : decode cX4_about 92 = .ok (.aload_n 3, 1) := by decide +kernel
theorem dX4_about_93 : decode cX4_about 93 = .ok (.getfield 93, 3) := by decide +kernel
theorem dX4_about_96 : decode cX4_about 96 = .ok (.ireturn, 1) := by decide +kernel
theorem dX4_about_97 : decode cX4_about 97 = .ok (.aload_n 3, 1) := by decide +kernel
theorem dX4_about_98 : decode cX4_about 98 = .ok (.getfield 96, 3) := by decide +kernel
theorem dX4_about_101 : decode cX4_about 101 = .ok (.ireturn, 1) := by decide +kernel
theorem dX4_about_102 : decode cX4_about 102 = .ok (.aload_n 3, 1) := by decide +kernel
theorem dX4_about_103 : decode cX4_about 103 = .ok (.getfield 99, 3) := by decide +kernel
theorem dX4_about_106 : decode cX4_about 106 = .ok (.ireturn, 1) := by decide +kernel
theorem dX4_about_107 : decode cX4_about 107 = .ok (.aload_n 3, 1) := by decide +kernel
theorem dX4_about_108 : decode cX4_about 108 = .ok (.getfield 73, 3) := by decide +kernel
theorem dX4_about_111 : decode cX4_about 111 = .ok (.ireturn, 1) := by decide +kernel
theorem dX4_about_112 : decode cX4_about 112 = .ok (.aload_n 3, 1) := by decide +kernel
theorem dX4_about_113 : decode cX4_about 113 = .ok (.aload_n 0, 1) := by decide +kernel
theorem dX4_about_114 : decode cX4_about 114 = .ok (.getfield 44, 3) := by decide +kernel
theorem dX4_about_117 : decode cX4_about 117 = .ok (.invokevirtual 102, 3) := by decide +kernel
theorem dX4_about_120 : decode cX4_about 120 = .ok (.ireturn, 1) := by decide +kernel
theorem dX4_about_121 : decode cX4_about 121 = .ok (.iconst (-1), 1) := by decide +kernel
theorem dX4_about_122 : decode cX4_about 122 = .ok (.ireturn, 1) := by decide +kernel
theorem dX4_move_0 : decode cX4_move 0 = .ok (.aload_n 0, 1) := by decide +kernel
theorem dX4_move_1 : decode cX4_move 1 = .ok (.iload_n 1, 1) := by decide +kernel
theorem dX4_move_2 : decode cX4_move 2 = .ok (.invokevirtual 66, 3) := by decide +kernel
theorem dX4_move_5 : decode cX4_move 5 = .ok (.ifCond .eq 12, 3) := by decide +kernel
theorem dX4_move_8 : decode cX4_move 8 = .ok (.iload_n 2, 1) := by decide +kernel
theorem dX4_move_9 : decode cX4_move 9 = .ok (.iconst 0, 1) := by decide +kernel
theorem dX4_move_10 : decode cX4_move 10 = .ok (.iconst 3, 1) := by decide +kernel
theorem dX4_move_11 : decode cX4_move 11 = .ok (.invokestatic 55, 3) := by decide +kernel
theorem dX4_move_14 : decode cX4_move 14 = .ok (.ifCond .ne 5, 3) := by decide +kernel
theorem dX4_move_17 : decode cX4_move 17 = .ok (.iconst (-1), 1) := by decide +kernel
theorem dX4_move_18 : decode cX4_move 18 = .ok (.ireturn, 1) := by decide +kernel
theorem dX4_move_19 : decode cX4_move 19 = .ok (.aload_n 0, 1) := by decide +kernel
theorem dX4_move_20 : decode cX4_move 20 = .ok (.getfield 11, 3) := by decide +kernel
theorem dX4_move_23 : decode cX4_move 23 = .ok (.iload_n 1, 1) := by decide +kernel
theorem dX4_move_24 : decode cX4_move 24 = .ok (.aaload, 1) := by decide +kernel
theorem dX4_move_25 : decode cX4_move 25 = .ok (.getfield 73, 3) := by decide +kernel
theorem dX4_move_28 : decode cX4_move 28 = .ok (.istore_n 3, 1) := by decide +kernel
theorem dX4_move_29 : decode cX4_move 29 = .ok (.aload_n 0, 1) := by decide +kernel
theorem dX4_move_30 : decode cX4_move 30 = .ok (.getfield 11, 3) := by decide +kernel
theorem dX4_move_33 : decode cX4_move 33 = .ok (.iload_n 1, 1) := by decide +kernel
theorem dX4_move_34 : decode cX4_move 34 = .ok (.aaload, 1) := by decide +kernel
theorem dX4_move_35 : decode cX4_move 35 = .ok (.iload_n 2, 1) := by decide +kernel
theorem dX4_move_36 : decode cX4_move 36 = .ok (.putfield 73, 3) := by decide +kernel
theorem dX4_move_39 : decode cX4_move 39 = .ok (.iload_n 3, 1) := by decide +kernel
theorem dX4_move_40 : decode cX4_move 40 = .ok (.ireturn, 1) := by decide +kernel
theorem dX4_draw_0 : decode cX4_draw 0 = .ok (.aload_n 0, 1) := by decide +kernel
theorem dX4_draw_1 : decode cX4_draw 1 = .ok (.iload_n 1, 1) := by decide +kernel
theorem dX4_draw_2 : decode cX4_draw 2 = .ok (.invokevirtual 66, 3) := by decide +kernel
theorem dX4_draw_5 : decode cX4_draw 5 = .ok (.ifCond .eq 20, 3) := by decide +kernel
theorem dX4_draw_8 : decode cX4_draw 8 = .ok (.iload_n 2, 1) := by decide +kernel
theorem dX4_draw_9 : decode cX4_draw 9 = .ok (.iconst 0, 1) := by decide +kernel
theorem dX4_draw_10 : decode cX4_draw 10 = .ok (.aload_n 0, 1) := by decide +kernel
theorem dX4_draw_11 : decode cX4_draw 11 = .ok (.getfield 11, 3) := by decide +kernel
theorem dX4_draw_14 : decode cX4_draw 14 = .ok (.iload_n 1, 1) := by decide +kernel
theorem dX4_draw_15 : decode cX4_draw 15 = .ok (.aaload, 1) := by decide +kernel
theorem dX4_draw_16 : decode cX4_draw 16 = .ok (.getfield 80, 3) := by decide +kernel
theorem dX4_draw_19 : decode cX4_draw 19 = .ok (.invokestatic 55, 3) := by decide +kernel
theorem dX4_draw_22 : decode cX4_draw 22 = .ok (.ifCond .ne 5, 3) := by decide +kernel
theorem dX4_draw_25 : decode cX4_draw 25 = .ok (.iconst (-1), 1) := by decide +kernel
theorem dX4_draw_26 : decode cX4_draw 26 = .ok (.ireturn, 1) := by decide +kernel
theorem dX4_draw_27 : decode cX4_draw 27 = .ok (.aload_n 0, 1) := by decide +kernel
theorem dX4_draw_28 : decode cX4_draw 28 = .ok (.getfield 11, 3) := by decide +kernel
theorem dX4_draw_31 : decode cX4_draw 31 = .ok (.iload_n 1, 1) := by decide +kernel
theorem dX4_draw_32 : decode cX4_draw 32 = .ok (.aaload, 1) := by decide +kernel
theorem dX4_draw_33 : decode cX4_draw 33 = .ok (.dup, 1) := by decide +kernel
theorem dX4_draw_34 : decode cX4_draw 34 = .ok (.getfield 80, 3) := by decide +kernel
theorem dX4_draw_37 : decode cX4_draw 37 = .ok (.iload_n 2, 1) := by decide +kernel
theorem dX4_draw_38 : decode cX4_draw 38 = .ok (.isub, 1) := by decide +kernel
theorem dX4_draw_39 : decode cX4_draw 39 = .ok (.putfield 80, 3) := by decide +kernel
theorem dX4_draw_42 : decode cX4_draw 42 = .ok (.aload_n 0, 1) := by decide +kernel
theorem dX4_draw_43 : decode cX4_draw 43 = .ok (.getfield 11, 3) := by decide +kernel
theorem dX4_draw_46 : decode cX4_draw 46 = .ok (.iload_n 1, 1) := by decide +kernel
theorem dX4_draw_47 : decode cX4_draw 47 = .ok (.aaload, 1) := by decide +kernel
theorem dX4_draw_48 : decode cX4_draw 48 = .ok (.getfield 80, 3) := by decide +kernel
theorem dX4_draw_51 : decode cX4_draw 51 = .ok (.ireturn, 1) := by decide +kernel
theorem dX4_want_0 : decode cX4_want 0 = .ok (.iload_n 1, 1) := by decide +kernel
theorem dX4_want_1 : decode cX4_want 1 = .ok (.iconst 0, 1) := by decide +kernel
theorem dX4_want_2 : decode cX4_want 2 = .ok (.bipush 7, 2) := by decide +kernel
theorem dX4_want_4 : decode cX4_want 4 = .ok (.invokestatic 55, 3) := by decide +kernel
theorem dX4_want_7 : decode cX4_want 7 = .ok (.ifCond .eq 15, 3) := by decide +kernel
theorem dX4_want_10 : decode cX4_want 10 = .ok (.iload_n 2, 1) := by decide +kernel
theorem dX4_want_11 : decode cX4_want 11 = .ok (.iconst 0, 1) := by decide +kernel
theorem dX4_want_12 : decode cX4_want 12 = .ok (.iload_n 1, 1) := by decide +kernel
theorem dX4_want_13 : decode cX4_want 13 = .ok (.invokestatic 105, 3) := by decide +kernel
theorem dX4_want_16 : decode cX4_want 16 = .ok (.invokestatic 55, 3) := by decide +kernel
theorem dX4_want_19 : decode cX4_want 19 = .ok (.ifCond .ne 5, 3) := by decide +kernel
theorem dX4_want_22 : decode cX4_want 22 = .ok (.iconst (-1), 1) := by decide +kernel
theorem dX4_want_23 : decode cX4_want 23 = .ok (.ireturn, 1) := by decide +kernel
theorem dX4_want_24 : decode cX4_want 24 = .ok (.aload_n 0, 1) := by decide +kernel
theorem dX4_want_25 : decode cX4_want 25 = .ok (.getfield 22, 3) := by decide +kernel
theorem dX4_want_28 : decode cX4_want 28 = .ok (.getfield 108, 3) := by decide +kernel
theorem dX4_want_31 : decode cX4_want 31 = .ok (.iload_n 1, 1) := by decide +kernel
theorem dX4_want_32 : decode cX4_want 32 = .ok (.iaload, 1) := by decide +kernel
theorem dX4_want_33 : decode cX4_want 33 = .ok (.istore_n 3, 1) := by decide +kernel
theorem dX4_want_34 : decode cX4_want 34 = .ok (.aload_n 0, 1) := by decide +kernel
theorem dX4_want_35 : decode cX4_want 35 = .ok (.getfield 22, 3) := by decide +kernel
theorem dX4_want_38 : decode cX4_want 38 = .ok (.getfield 108, 3) := by decide +kernel
theorem dX4_want_41 : decode cX4_want 41 = .ok (.iload_n 1, 1) := by decide +kernel
theorem dX4_want_42 : decode cX4_want 42 = .ok (.iload_n 2, 1) := by decide +kernel
theorem dX4_want_43 : decode cX4_want 43 = .ok (.iastore, 1) := by decide +kernel
theorem dX4_want_44 : decode cX4_want 44 = .ok (.iload_n 3, 1) := by decide +kernel
theorem dX4_want_45 : decode cX4_want 45 = .ok (.ireturn, 1) := by decide +kernel
theorem dX4_blend_0 : decode cX4_blend 0 = .ok (.aload_n 0, 1) := by decide +kernel
theorem dX4_blend_1 : decode cX4_blend 1 = .ok (.iload_n 1, 1) := by decide +kernel
theorem dX4_blend_2 : decode cX4_blend 2 = .ok (.invokevirtual 111, 3) := by decide +kernel
theorem dX4_blend_5 : decode cX4_blend 5 = .ok (.ifCond .eq 11, 3) := by decide +kernel
theorem dX4_blend_8 : decode cX4_blend 8 = .ok (.aload_n 0, 1) := by decide +kernel
theorem dX4_blend_9 : decode cX4_blend 9 = .ok (.iload_n 1, 1) := by decide +kernel
theorem dX4_blend_10 : decode cX4_blend 10 = .ok (.invokevirtual 114, 3) := by decide +kernel
theorem dX4_blend_13 : decode cX4_blend 13 = .ok (.ifCond .ne 5, 3) := by decide +kernel
theorem dX4_blend_16 : decode cX4_blend 16 = .ok (.iconst (-1), 1) := by decide +kernel
theorem dX4_blend_17 : decode cX4_blend 17 = .ok (.ireturn, 1) := by decide +kernel
theorem dX4_blend_18 : decode cX4_blend 18 = .ok (.iload_n 2, 1) := by decide +kernel
theorem dX4_blend_19 : decode cX4_blend 19 = .ok (.tableswitch 149 0 7 #[45, 53, 68, 76, 91, 106, 121, 129], 45) := by decide +kernel
theorem dX4_blend_64 : decode cX4_blend 64 = .ok (.aload_n 0, 1) := by decide +kernel
theorem dX4_blend_65 : decode cX4_blend 65 = .ok (.getfield 29, 3) := by decide +kernel
theorem dX4_blend_68 : decode cX4_blend 68 = .ok (.getfield 117, 3) := by decide +kernel
theorem dX4_blend_71 : decode cX4_blend 71 = .ok (.ireturn, 1) := by decide +kernel
theorem dX4_blend_72 : decode cX4_blend 72 = .ok (.aload_n 0, 1) := by decide +kernel
theorem dX4_blend_73 : decode cX4_blend 73 = .ok (.getfield 29, 3) := by decide +kernel
theorem dX4_blend_76 : decode cX4_blend 76 = .ok (.aload_n 0, 1) := by decide +kernel
theorem dX4_blend_77 : decode cX4_blend 77 = .ok (.getfield 29, 3) := by decide +kernel
theorem dX4_blend_80 : decode cX4_blend 80 = .ok (.getfield 118, 3) := by decide +kernel
theorem dX4_blend_83 : decode cX4_blend 83 = .ok (.invokevirtual 121, 3) := by decide +kernel
theorem dX4_blend_86 : decode cX4_blend 86 = .ok (.ireturn, 1) := by decide +kernel
theorem dX4_blend_87 : decode cX4_blend 87 = .ok (.aload_n 0, 1) := by decide +kernel
theorem dX4_blend_88 : decode cX4_blend 88 = .ok (.getfield 29, 3) := by decide +kernel
theorem dX4_blend_91 : decode cX4_blend 91 = .ok (.getfield 124, 3) := by decide +kernel
theorem dX4_blend_94 : decode cX4_blend 94 = .ok (.ireturn, 1) := by decide +kernel
theorem dX4_blend_95 : decode cX4_blend 95 = .ok (.aload_n 0, 1) := by decide +kernel
theorem dX4_blend_96 : decode cX4_blend 96 = .ok (.getfield 29, 3) := by decide +kernel
theorem dX4_blend_99 : decode cX4_blend 99 = .ok (.aload_n 0, 1) := by decide +kernel
theorem dX4_blend_100 : decode cX4_blend 100 = .ok (.getfield 29, 3) := by decide +kernel
theorem dX4_blend_103 : decode cX4_blend 103 = .ok (.getfield 126, 3) := by decide +kernel
theorem dX4_blend_106 : decode cX4_blend 106 = .ok (.invokevirtual 121, 3) := by decide +kernel
theorem dX4_blend_109 : decode cX4_blend 109 = .ok (.ireturn, 1) := by decide +kernel
theorem dX4_blend_110 : decode cX4_blend 110 = .ok (.aload_n 0, 1) := by decide +kernel
theorem dX4_blend_111 : decode cX4_blend 111 = .ok (.getfield 29, 3) := by decide +kernel
theorem dX4_blend_114 : decode cX4_blend 114 = .ok (.aload_n 0, 1) := by decide +kernel
theorem dX4_blend_115 : decode cX4_blend 115 = .ok (.getfield 29, 3) := by decide +kernel
theorem dX4_blend_118 : decode cX4_blend 118 = .ok (.getfield 129, 3) := by decide +kernel
theorem dX4_blend_121 : decode cX4_blend 121 = .ok (.invokevirtual 121, 3) := by decide +kernel
theorem dX4_blend_124 : decode cX4_blend 124 = .ok (.ireturn, 1) := by decide +kernel
theorem dX4_blend_125 : decode cX4_blend 125 = .ok (.aload_n 0, 1) := by decide +kernel
theorem dX4_blend_126 : decode cX4_blend 126 = .ok (.getfield 29, 3) := by decide +kernel
theorem dX4_blend_129 : decode cX4_blend 129 = .ok (.aload_n 0, 1) := by decide +kernel
theorem dX4_blend_130 : decode cX4_blend 130 = .ok (.getfield 29, 3) := by decide +kernel
theorem dX4_blend_133 : decode cX4_blend 133 = .ok (.getfield 132, 3) := by decide +kernel
theorem dX4_blend_136 : decode cX4_blend 136 = .ok (.invokevirtual 121, 3) := by decide +kernel
theorem dX4_blend_139 : decode cX4_blend 139 = .ok (.ireturn, 1) := by decide +kernel
theorem dX4_blend_140 : decode cX4_blend 140 = .ok (.aload_n 0, 1) := by decide +kernel
theorem dX4_blend_141 : decode cX4_blend 141 = .ok (.getfield 29, 3) := by decide +kernel
theorem dX4_blend_144 : decode cX4_blend 144 = .ok (.getfield 135, 3) := by decide +kernel
theorem dX4_blend_147 : decode cX4_blend 147 = .ok (.ireturn, 1) := by decide +kernel
theorem dX4_blend_148 : decode cX4_blend 148 = .ok (.aload_n 0, 1) := by decide +kernel
theorem dX4_blend_149 : decode cX4_blend 149 = .ok (.getfield 22, 3) := by decide +kernel
theorem dX4_blend_152 : decode cX4_blend 152 = .ok (.aload_n 0, 1) := by decide +kernel
theorem dX4_blend_153 : decode cX4_blend 153 = .ok (.getfield 29, 3) := by decide +kernel
theorem dX4_blend_156 : decode cX4_blend 156 = .ok (.invokevirtual 137, 3) := by decide +kernel
theorem dX4_blend_159 : decode cX4_blend 159 = .ok (.ifCond .eq 7, 3) := by decide +kernel
theorem dX4_blend_162 : decode cX4_blend 162 = .ok (.iconst 1, 1) := by decide +kernel
theorem dX4_blend_163 : decode cX4_blend 163 = .ok (.goto 4, 3) := by decide +kernel
theorem dX4_blend_166 : decode cX4_blend 166 = .ok (.iconst 0, 1) := by decide +kernel
theorem dX4_blend_167 : decode cX4_blend 167 = .ok (.ireturn, 1) := by decide +kernel
theorem dX4_blend_168 : decode cX4_blend 168 = .ok (.iconst (-1), 1) := by decide +kernel
theorem dX4_blend_169 : decode cX4_blend 169 = .ok (.ireturn, 1) := by decide +kernel
theorem dX4_best_0 : decode cX4_best 0 = .ok (.iload_n 1, 1) := by decide +kernel
theorem dX4_best_1 : decode cX4_best 1 = .ok (.iconst 0, 1) := by decide +kernel
theorem dX4_best_2 : decode cX4_best 2 = .ok (.iconst 1, 1) := by decide +kernel
theorem dX4_best_3 : decode cX4_best 3 = .ok (.invokestatic 55, 3) := by decide +kernel
theorem dX4_best_6 : decode cX4_best 6 = .ok (.ifCond .ne 5, 3) := by decide +kernel
theorem dX4_best_9 : decode cX4_best 9 = .ok (.iconst (-1), 1) := by decide +kernel
theorem dX4_best_10 : decode cX4_best 10 = .ok (.ireturn, 1) := by decide +kernel
theorem dX4_best_11 : decode cX4_best 11 = .ok (.aload_n 0, 1) := by decide +kernel
theorem dX4_best_12 : decode cX4_best 12 = .ok (.invokevirtual 141, 3) := by decide +kernel
theorem dX4_best_15 : decode cX4_best 15 = .ok (.istore_n 2, 1) := by decide +kernel
theorem dX4_best_16 : decode cX4_best 16 = .ok (.iload_n 1, 1) := by decide +kernel
theorem dX4_best_17 : decode cX4_best 17 = .ok (.ifCond .eq 9, 3) := by decide +kernel
theorem dX4_best_20 : decode cX4_best 20 = .ok (.iload_n 2, 1) := by decide +kernel
theorem dX4_best_21 : decode cX4_best 21 = .ok (.bipush (-9), 2) := by decide +kernel
theorem dX4_best_23 : decode cX4_best 23 = .ok (.if_icmp .ne 5, 3) := by decide +kernel
theorem dX4_best_26 : decode cX4_best 26 = .ok (.iload_n 2, 1) := by decide +kernel
theorem dX4_best_27 : decode cX4_best 27 = .ok (.ireturn, 1) := by decide +kernel
theorem dX4_best_28 : decode cX4_best 28 = .ok (.aload_n 0, 1) := by decide +kernel
theorem dX4_best_29 : decode cX4_best 29 = .ok (.iload_n 2, 1) := by decide +kernel
theorem dX4_best_30 : decode cX4_best 30 = .ok (.invokevirtual 114, 3) := by decide +kernel
theorem dX4_best_33 : decode cX4_best 33 = .ok (.ifCond .eq 13, 3) := by decide +kernel
theorem dX4_best_36 : decode cX4_best 36 = .ok (.aload_n 0, 1) := by decide +kernel
theorem dX4_best_37 : decode cX4_best 37 = .ok (.getfield 29, 3) := by decide +kernel
theorem dX4_best_40 : decode cX4_best 40 = .ok (.getfield 135, 3) := by decide +kernel
theorem dX4_best_43 : decode cX4_best 43 = .ok (.goto 5, 3) := by decide +kernel
theorem dX4_best_46 : decode cX4_best 46 = .ok (.bipush (-9), 2) := by decide +kernel
theorem dX4_best_48 : decode cX4_best 48 = .ok (.ireturn, 1) := by decide +kernel
theorem dX4_lasts_0 : decode cX4_lasts 0 = .ok (.iload_n 1, 1) := by decide +kernel
theorem dX4_lasts_1 : decode cX4_lasts 1 = .ok (.iconst 1, 1) := by decide +kernel
theorem dX4_lasts_2 : decode cX4_lasts 2 = .ok (.sipush 9999, 3) := by decide +kernel
theorem dX4_lasts_5 : decode cX4_lasts 5 = .ok (.invokestatic 55, 3) := by decide +kernel
theorem dX4_lasts_8 : decode cX4_lasts 8 = .ok (.ifCond .eq 13, 3) := by decide +kernel
theorem dX4_lasts_11 : decode cX4_lasts 11 = .ok (.iload_n 2, 1) := by decide +kernel
theorem dX4_lasts_12 : decode cX4_lasts 12 = .ok (.iconst 0, 1) := by decide +kernel
theorem dX4_lasts_13 : decode cX4_lasts 13 = .ok (.bipush 60, 2) := by decide +kernel
theorem dX4_lasts_15 : decode cX4_lasts 15 = .ok (.invokestatic 55, 3) := by decide +kernel
theorem dX4_lasts_18 : decode cX4_lasts 18 = .ok (.ifCond .ne 5, 3) := by decide +kernel
theorem dX4_lasts_21 : decode cX4_lasts 21 = .ok (.iconst (-1), 1) := by decide +kernel
theorem dX4_lasts_22 : decode cX4_lasts 22 = .ok (.ireturn, 1) := by decide +kernel
theorem dX4_lasts_23 : decode cX4_lasts 23 = .ok (.iconst 0, 1) := by decide +kernel
theorem dX4_lasts_24 : decode cX4_lasts 24 = .ok (.istore_n 3, 1) := by decide +kernel
theorem dX4_lasts_25 : decode cX4_lasts 25 = .ok (.iload_n 3, 1) := by decide +kernel
theorem dX4_lasts_26 : decode cX4_lasts 26 = .ok (.aload_n 0, 1) := by decide +kernel
theorem dX4_lasts_27 : decode cX4_lasts 27 = .ok (.getfield 40, 3) := by decide +kernel
theorem dX4_lasts_30 : decode cX4_lasts 30 = .ok (.if_icmp .ge 24, 3) := by decide +kernel
theorem dX4_lasts_33 : decode cX4_lasts 33 = .ok (.aload_n 0, 1) := by decide +kernel
theorem dX4_lasts_34 : decode cX4_lasts 34 = .ok (.getfield 15, 3) := by decide +kernel
theorem dX4_lasts_37 : decode cX4_lasts 37 = .ok (.iload_n 3, 1) := by decide +kernel
theorem dX4_lasts_38 : decode cX4_lasts 38 = .ok (.aload_n 0, 1) := by decide +kernel
theorem dX4_lasts_39 : decode cX4_lasts 39 = .ok (.getfield 11, 3) := by decide +kernel
theorem dX4_lasts_42 : decode cX4_lasts 42 = .ok (.iload_n 3, 1) := by decide +kernel
theorem dX4_lasts_43 : decode cX4_lasts 43 = .ok (.aaload, 1) := by decide +kernel
theorem dX4_lasts_44 : decode cX4_lasts 44 = .ok (.getfield 80, 3) := by decide +kernel
theorem dX4_lasts_47 : decode cX4_lasts 47 = .ok (.iastore, 1) := by decide +kernel
theorem dX4_lasts_48 : decode cX4_lasts 48 = .ok (.iinc 3 1, 3) := by decide +kernel
theorem dX4_lasts_51 : decode cX4_lasts 51 = .ok (.goto (-26), 3) := by decide +kernel
theorem dX4_lasts_54 : decode cX4_lasts 54 = .ok (.iconst 0, 1) := by decide +kernel
theorem dX4_lasts_55 : decode cX4_lasts 55 = .ok (.istore_n 3, 1) := by decide +kernel
theorem dX4_lasts_56 : decode cX4_lasts 56 = .ok (.iload_n 3, 1) := by decide +kernel
theorem dX4_lasts_57 : decode cX4_lasts 57 = .ok (.bipush 30, 2) := by decide +kernel
theorem dX4_lasts_59 : decode cX4_lasts 59 = .ok (.if_icmp .ge 36, 3) := by decide +kernel
theorem dX4_lasts_62 : decode cX4_lasts 62 = .ok (.aload_n 0, 1) := by decide +kernel
theorem dX4_lasts_63 : decode cX4_lasts 63 = .ok (.iload_n 1, 1) := by decide +kernel
theorem dX4_lasts_64 : decode cX4_lasts 64 = .ok (.iload_n 2, 1) := by decide +kernel
theorem dX4_lasts_65 : decode cX4_lasts 65 = .ok (.aload_n 0, 1) := by decide +kernel
theorem dX4_lasts_66 : decode cX4_lasts 66 = .ok (.getfield 44, 3) := by decide +kernel
theorem dX4_lasts_69 : decode cX4_lasts 69 = .ok (.iload_n 3, 1) := by decide +kernel
theorem dX4_lasts_70 : decode cX4_lasts 70 = .ok (.iadd, 1) := by decide +kernel
theorem dX4_lasts_71 : decode cX4_lasts 71 = .ok (.invokevirtual 145, 3) := by decide +kernel
theorem dX4_lasts_74 : decode cX4_lasts 74 = .ok (.ifCond .ne 5, 3) := by decide +kernel
theorem dX4_lasts_77 : decode cX4_lasts 77 = .ok (.iload_n 3, 1) := by decide +kernel
theorem dX4_lasts_78 : decode cX4_lasts 78 = .ok (.ireturn, 1) := by decide +kernel
theorem dX4_lasts_79 : decode cX4_lasts 79 = .ok (.aload_n 0, 1) := by decide +kernel
theorem dX4_lasts_80 : decode cX4_lasts 80 = .ok (.aload_n 0, 1) := by decide +kernel
theorem dX4_lasts_81 : decode cX4_lasts 81 = .ok (.getfield 44, 3) := by decide +kernel
theorem dX4_lasts_84 : decode cX4_lasts 84 = .ok (.iload_n 3, 1) := by decide +kernel
theorem dX4_lasts_85 : decode cX4_lasts 85 = .ok (.iadd, 1) := by decide +kernel
theorem dX4_lasts_86 : decode cX4_lasts 86 = .ok (.invokevirtual 148, 3) := by decide +kernel
theorem dX4_lasts_89 : decode cX4_lasts 89 = .ok (.iinc 3 1, 3) := by decide +kernel
theorem dX4_lasts_92 : decode cX4_lasts 92 = .ok (.goto (-36), 3) := by decide +kernel
theorem dX4_lasts_95 : decode cX4_lasts 95 = .ok (.bipush 30, 2) := by decide +kernel
theorem dX4_lasts_97 : decode cX4_lasts 97 = .ok (.ireturn, 1) := by decide +kernel
theorem dX4_cut_0 : decode cX4_cut 0 = .ok (.aload_n 0, 1) := by decide +kernel
theorem dX4_cut_1 : decode cX4_cut 1 = .ok (.iload_n 1, 1) := by decide +kernel
theorem dX4_cut_2 : decode cX4_cut 2 = .ok (.invokevirtual 66, 3) := by decide +kernel
theorem dX4_cut_5 : decode cX4_cut 5 = .ok (.ifCond .eq 16, 3) := by decide +kernel
theorem dX4_cut_8 : decode cX4_cut 8 = .ok (.iload_n 2, 1) := by decide +kernel
theorem dX4_cut_9 : decode cX4_cut 9 = .ok (.sipush 300, 3) := by decide +kernel
theorem dX4_cut_12 : decode cX4_cut 12 = .ok (.sipush 700, 3) := by decide +kernel
theorem dX4_cut_15 : decode cX4_cut 15 = .ok (.invokestatic 55, 3) := by decide +kernel
theorem dX4_cut_18 : decode cX4_cut 18 = .ok (.ifCond .ne 5, 3) := by decide +kernel
theorem dX4_cut_21 : decode cX4_cut 21 = .ok (.iconst (-1), 1) := by decide +kernel
theorem dX4_cut_22 : decode cX4_cut 22 = .ok (.ireturn, 1) := by decide +kernel
theorem dX4_cut_23 : decode cX4_cut 23 = .ok (.iconst 0, 1) := by decide +kernel
theorem dX4_cut_24 : decode cX4_cut 24 = .ok (.aload_n 0, 1) := by decide +kernel
theorem dX4_cut_25 : decode cX4_cut 25 = .ok (.getfield 11, 3) := by decide +kernel
theorem dX4_cut_28 : decode cX4_cut 28 = .ok (.iload_n 1, 1) := by decide +kernel
theorem dX4_cut_29 : decode cX4_cut 29 = .ok (.aaload, 1) := by decide +kernel
theorem dX4_cut_30 : decode cX4_cut 30 = .ok (.getfield 83, 3) := by decide +kernel
theorem dX4_cut_33 : decode cX4_cut 33 = .ok (.iload_n 2, 1) := by decide +kernel
theorem dX4_cut_34 : decode cX4_cut 34 = .ok (.isub, 1) := by decide +kernel
theorem dX4_cut_35 : decode cX4_cut 35 = .ok (.invokestatic 152, 3) := by decide +kernel
theorem dX4_cut_38 : decode cX4_cut 38 = .ok (.istore_n 3, 1) := by decide +kernel
theorem dX4_cut_39 : decode cX4_cut 39 = .ok (.aload_n 0, 1) := by decide +kernel
theorem dX4_cut_40 : decode cX4_cut 40 = .ok (.getfield 11, 3) := by decide +kernel
theorem dX4_cut_43 : decode cX4_cut 43 = .ok (.iload_n 1, 1) := by decide +kernel
theorem dX4_cut_44 : decode cX4_cut 44 = .ok (.aaload, 1) := by decide +kernel
theorem dX4_cut_45 : decode cX4_cut 45 = .ok (.getfield 80, 3) := by decide +kernel
theorem dX4_cut_48 : decode cX4_cut 48 = .ok (.iload_n 3, 1) := by decide +kernel
theorem dX4_cut_49 : decode cX4_cut 49 = .ok (.imul, 1) := by decide +kernel
