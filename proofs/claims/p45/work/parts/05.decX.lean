theorem dX0_init_0 : decode cX0_init 0 = .ok (.aload_n 0, 1) := by decide +kernel
theorem dX0_init_1 : decode cX0_init 1 = .ok (.invokespecial 3, 3) := by decide +kernel
theorem dX0_init_4 : decode cX0_init 4 = .ok (.aload_n 0, 1) := by decide +kernel
theorem dX0_init_5 : decode cX0_init 5 = .ok (.bipush 50, 2) := by decide +kernel
theorem dX0_init_7 : decode cX0_init 7 = .ok (.newarray .int, 2) := by decide +kernel
theorem dX0_init_9 : decode cX0_init 9 = .ok (.putfield 11, 3) := by decide +kernel
theorem dX0_init_12 : decode cX0_init 12 = .ok (.aload_n 0, 1) := by decide +kernel
theorem dX0_init_13 : decode cX0_init 13 = .ok (.bipush 24, 2) := by decide +kernel
theorem dX0_init_15 : decode cX0_init 15 = .ok (.newarray .int, 2) := by decide +kernel
theorem dX0_init_17 : decode cX0_init 17 = .ok (.putfield 15, 3) := by decide +kernel
theorem dX0_init_20 : decode cX0_init 20 = .ok (.return_, 1) := by decide +kernel
theorem dX1_init_0 : decode cX1_init 0 = .ok (.aload_n 0, 1) := by decide +kernel
theorem dX1_init_1 : decode cX1_init 1 = .ok (.invokespecial 3, 3) := by decide +kernel
theorem dX1_init_4 : decode cX1_init 4 = .ok (.aload_n 0, 1) := by decide +kernel
theorem dX1_init_5 : decode cX1_init 5 = .ok (.aload_n 1, 1) := by decide +kernel
theorem dX1_init_6 : decode cX1_init 6 = .ok (.putfield 9, 3) := by decide +kernel
theorem dX1_init_9 : decode cX1_init 9 = .ok (.aload_n 0, 1) := by decide +kernel
theorem dX1_init_10 : decode cX1_init 10 = .ok (.aload_n 2, 1) := by decide +kernel
theorem dX1_init_11 : decode cX1_init 11 = .ok (.putfield 15, 3) := by decide +kernel
theorem dX1_init_14 : decode cX1_init 14 = .ok (.return_, 1) := by decide +kernel
theorem dX1_judged_0 : decode cX1_judged 0 = .ok (.aload_n 0, 1) := by decide +kernel
theorem dX1_judged_1 : decode cX1_judged 1 = .ok (.getfield 15, 3) := by decide +kernel
theorem dX1_judged_4 : decode cX1_judged 4 = .ok (.aload_n 0, 1) := by decide +kernel
theorem dX1_judged_5 : decode cX1_judged 5 = .ok (.getfield 9, 3) := by decide +kernel
theorem dX1_judged_8 : decode cX1_judged 8 = .ok (.invokevirtual 18, 3) := by decide +kernel
theorem dX1_judged_11 : decode cX1_judged 11 = .ok (.aload_n 0, 1) := by decide +kernel
theorem dX1_judged_12 : decode cX1_judged 12 = .ok (.aload_n 1, 1) := by decide +kernel
theorem dX1_judged_13 : decode cX1_judged 13 = .ok (.iload_n 2, 1) := by decide +kernel
theorem dX1_judged_14 : decode cX1_judged 14 = .ok (.invokevirtual 24, 3) := by decide +kernel
theorem dX1_judged_17 : decode cX1_judged 17 = .ok (.ireturn, 1) := by decide +kernel
theorem dX1_fitting_0 : decode cX1_fitting 0 = .ok (.iconst 0, 1) := by decide +kernel
theorem dX1_fitting_1 : decode cX1_fitting 1 = .ok (.istore 4, 2) := by decide +kernel
theorem dX1_fitting_3 : decode cX1_fitting 3 = .ok (.iconst 0, 1) := by decide +kernel
theorem dX1_fitting_4 : decode cX1_fitting 4 = .ok (.istore 5, 2) := by decide +kernel
theorem dX1_fitting_6 : decode cX1_fitting 6 = .ok (.iload 5, 2) := by decide +kernel
theorem dX1_fitting_8 : decode cX1_fitting 8 = .ok (.getstatic 28, 3) := by decide +kernel
theorem dX1_fitting_11 : decode cX1_fitting 11 = .ok (.iload_n 3, 1) := by decide +kernel
theorem dX1_fitting_12 : decode cX1_fitting 12 = .ok (.iaload, 1) := by decide +kernel
theorem dX1_fitting_13 : decode cX1_fitting 13 = .ok (.if_icmp .gt 57, 3) := by decide +kernel
theorem dX1_fitting_16 : decode cX1_fitting 16 = .ok (.aload_n 0, 1) := by decide +kernel
theorem dX1_fitting_17 : decode cX1_fitting 17 = .ok (.getfield 15, 3) := by decide +kernel
theorem dX1_fitting_20 : decode cX1_fitting 20 = .ok (.aload_n 0, 1) := by decide +kernel
theorem dX1_fitting_21 : decode cX1_fitting 21 = .ok (.getfield 9, 3) := by decide +kernel
theorem dX1_fitting_24 : decode cX1_fitting 24 = .ok (.invokevirtual 18, 3) := by decide +kernel
theorem dX1_fitting_27 : decode cX1_fitting 27 = .ok (.aload_n 0, 1) := by decide +kernel
theorem dX1_fitting_28 : decode cX1_fitting 28 = .ok (.getfield 15, 3) := by decide +kernel
theorem dX1_fitting_31 : decode cX1_fitting 31 = .ok (.iload_n 2, 1) := by decide +kernel
theorem dX1_fitting_32 : decode cX1_fitting 32 = .ok (.bipush 100, 2) := by decide +kernel
theorem dX1_fitting_34 : decode cX1_fitting 34 = .ok (.irem, 1) := by decide +kernel
theorem dX1_fitting_35 : decode cX1_fitting 35 = .ok (.iload_n 3, 1) := by decide +kernel
theorem dX1_fitting_36 : decode cX1_fitting 36 = .ok (.iload 5, 2) := by decide +kernel
theorem dX1_fitting_38 : decode cX1_fitting 38 = .ok (.invokevirtual 32, 3) := by decide +kernel
theorem dX1_fitting_41 : decode cX1_fitting 41 = .ok (.aload_n 0, 1) := by decide +kernel
theorem dX1_fitting_42 : decode cX1_fitting 42 = .ok (.aload_n 1, 1) := by decide +kernel
theorem dX1_fitting_43 : decode cX1_fitting 43 = .ok (.iload_n 2, 1) := by decide +kernel
theorem dX1_fitting_44 : decode cX1_fitting 44 = .ok (.bipush 100, 2) := by decide +kernel
theorem dX1_fitting_46 : decode cX1_fitting 46 = .ok (.idiv, 1) := by decide +kernel
theorem dX1_fitting_47 : decode cX1_fitting 47 = .ok (.invokevirtual 24, 3) := by decide +kernel
theorem dX1_fitting_50 : decode cX1_fitting 50 = .ok (.bipush (-2), 2) := by decide +kernel
theorem dX1_fitting_52 : decode cX1_fitting 52 = .ok (.if_icmp .ne 12, 3) := by decide +kernel
theorem dX1_fitting_55 : decode cX1_fitting 55 = .ok (.iload 4, 2) := by decide +kernel
theorem dX1_fitting_57 : decode cX1_fitting 57 = .ok (.iconst 1, 1) := by decide +kernel
theorem dX1_fitting_58 : decode cX1_fitting 58 = .ok (.iload 5, 2) := by decide +kernel
theorem dX1_fitting_60 : decode cX1_fitting 60 = .ok (.ishl, 1) := by decide +kernel
theorem dX1_fitting_61 : decode cX1_fitting 61 = .ok (.ior, 1) := by decide +kernel
theorem dX1_fitting_62 : decode cX1_fitting 62 = .ok (.istore 4, 2) := by decide +kernel
theorem dX1_fitting_64 : decode cX1_fitting 64 = .ok (.iinc 5 1, 3) := by decide +kernel
theorem dX1_fitting_67 : decode cX1_fitting 67 = .ok (.goto (-61), 3) := by decide +kernel
theorem dX1_fitting_70 : decode cX1_fitting 70 = .ok (.iload 4, 2) := by decide +kernel
theorem dX1_fitting_72 : decode cX1_fitting 72 = .ok (.ireturn, 1) := by decide +kernel
theorem dX1_firstWrong_0 : decode cX1_firstWrong 0 = .ok (.iconst 0, 1) := by decide +kernel
theorem dX1_firstWrong_1 : decode cX1_firstWrong 1 = .ok (.istore_n 3, 1) := by decide +kernel
theorem dX1_firstWrong_2 : decode cX1_firstWrong 2 = .ok (.iload_n 3, 1) := by decide +kernel
theorem dX1_firstWrong_3 : decode cX1_firstWrong 3 = .ok (.aload_n 1, 1) := by decide +kernel
theorem dX1_firstWrong_4 : decode cX1_firstWrong 4 = .ok (.getfield 36, 3) := by decide +kernel
theorem dX1_firstWrong_7 : decode cX1_firstWrong 7 = .ok (.if_icmp .ge 61, 3) := by decide +kernel
theorem dX1_firstWrong_10 : decode cX1_firstWrong 10 = .ok (.iload_n 3, 1) := by decide +kernel
theorem dX1_firstWrong_11 : decode cX1_firstWrong 11 = .ok (.bipush 41, 2) := by decide +kernel
theorem dX1_firstWrong_13 : decode cX1_firstWrong 13 = .ok (.if_icmp .ge 55, 3) := by decide +kernel
theorem dX1_firstWrong_16 : decode cX1_firstWrong 16 = .ok (.iload_n 3, 1) := by decide +kernel
theorem dX1_firstWrong_17 : decode cX1_firstWrong 17 = .ok (.ifCond .le 10, 3) := by decide +kernel
theorem dX1_firstWrong_20 : decode cX1_firstWrong 20 = .ok (.aload_n 0, 1) := by decide +kernel
theorem dX1_firstWrong_21 : decode cX1_firstWrong 21 = .ok (.getfield 15, 3) := by decide +kernel
theorem dX1_firstWrong_24 : decode cX1_firstWrong 24 = .ok (.invokevirtual 42, 3) := by decide +kernel
theorem dX1_firstWrong_27 : decode cX1_firstWrong 27 = .ok (.aload_n 1, 1) := by decide +kernel
theorem dX1_firstWrong_28 : decode cX1_firstWrong 28 = .ok (.getfield 45, 3) := by decide +kernel
theorem dX1_firstWrong_31 : decode cX1_firstWrong 31 = .ok (.iload_n 3, 1) := by decide +kernel
theorem dX1_firstWrong_32 : decode cX1_firstWrong 32 = .ok (.laload, 1) := by decide +kernel
theorem dX1_firstWrong_33 : decode cX1_firstWrong 33 = .ok (.lstore 4, 2) := by decide +kernel
theorem dX1_firstWrong_35 : decode cX1_firstWrong 35 = .ok (.lload 4, 2) := by decide +kernel
theorem dX1_firstWrong_37 : decode cX1_firstWrong 37 = .ok (.ldc2_w 49, 3) := by decide +kernel
theorem dX1_firstWrong_40 : decode cX1_firstWrong 40 = .ok (.lcmp, 1) := by decide +kernel
theorem dX1_firstWrong_41 : decode cX1_firstWrong 41 = .ok (.ifCond .eq 21, 3) := by decide +kernel
theorem dX1_firstWrong_44 : decode cX1_firstWrong 44 = .ok (.lload 4, 2) := by decide +kernel
theorem dX1_firstWrong_46 : decode cX1_firstWrong 46 = .ok (.aload_n 0, 1) := by decide +kernel
theorem dX1_firstWrong_47 : decode cX1_firstWrong 47 = .ok (.getfield 15, 3) := by decide +kernel
theorem dX1_firstWrong_50 : decode cX1_firstWrong 50 = .ok (.getfield 51, 3) := by decide +kernel
theorem dX1_firstWrong_53 : decode cX1_firstWrong 53 = .ok (.iload_n 2, 1) := by decide +kernel
theorem dX1_firstWrong_54 : decode cX1_firstWrong 54 = .ok (.iaload, 1) := by decide +kernel
theorem dX1_firstWrong_55 : decode cX1_firstWrong 55 = .ok (.i2l, 1) := by decide +kernel
theorem dX1_firstWrong_56 : decode cX1_firstWrong 56 = .ok (.lcmp, 1) := by decide +kernel
theorem dX1_firstWrong_57 : decode cX1_firstWrong 57 = .ok (.ifCond .eq 5, 3) := by decide +kernel
theorem dX1_firstWrong_60 : decode cX1_firstWrong 60 = .ok (.iload_n 3, 1) := by decide +kernel
theorem dX1_firstWrong_61 : decode cX1_firstWrong 61 = .ok (.ireturn, 1) := by decide +kernel
theorem dX1_firstWrong_62 : decode cX1_firstWrong 62 = .ok (.iinc 3 1, 3) := by decide +kernel
theorem dX1_firstWrong_65 : decode cX1_firstWrong 65 = .ok (.goto (-63), 3) := by decide +kernel
theorem dX1_firstWrong_68 : decode cX1_firstWrong 68 = .ok (.bipush (-2), 2) := by decide +kernel
theorem dX1_firstWrong_70 : decode cX1_firstWrong 70 = .ok (.ireturn, 1) := by decide +kernel
theorem dX2_init_0 : decode cX2_init 0 = .ok (.aload_n 0, 1) := by decide +kernel
theorem dX2_init_1 : decode cX2_init 1 = .ok (.invokespecial 3, 3) := by decide +kernel
theorem dX2_init_4 : decode cX2_init 4 = .ok (.aload_n 0, 1) := by decide +kernel
theorem dX2_init_5 : decode cX2_init 5 = .ok (.bipush 40, 2) := by decide +kernel
theorem dX2_init_7 : decode cX2_init 7 = .ok (.newarray .int, 2) := by decide +kernel
theorem dX2_init_9 : decode cX2_init 9 = .ok (.putfield 11, 3) := by decide +kernel
theorem dX2_init_12 : decode cX2_init 12 = .ok (.aload_n 0, 1) := by decide +kernel
theorem dX2_init_13 : decode cX2_init 13 = .ok (.bipush 40, 2) := by decide +kernel
theorem dX2_init_15 : decode cX2_init 15 = .ok (.newarray .int, 2) := by decide +kernel
theorem dX2_init_17 : decode cX2_init 17 = .ok (.putfield 15, 3) := by decide +kernel
theorem dX2_init_20 : decode cX2_init 20 = .ok (.aload_n 0, 1) := by decide +kernel
theorem dX2_init_21 : decode cX2_init 21 = .ok (.bipush 40, 2) := by decide +kernel
theorem dX2_init_23 : decode cX2_init 23 = .ok (.newarray .int, 2) := by decide +kernel
theorem dX2_init_25 : decode cX2_init 25 = .ok (.putfield 18, 3) := by decide +kernel
theorem dX2_init_28 : decode cX2_init 28 = .ok (.aload_n 0, 1) := by decide +kernel
theorem dX2_init_29 : decode cX2_init 29 = .ok (.bipush 40, 2) := by decide +kernel
theorem dX2_init_31 : decode cX2_init 31 = .ok (.newarray .int, 2) := by decide +kernel
theorem dX2_init_33 : decode cX2_init 33 = .ok (.putfield 21, 3) := by decide +kernel
theorem dX2_init_36 : decode cX2_init 36 = .ok (.return_, 1) := by decide +kernel
theorem dX2_add_0 : decode cX2_add 0 = .ok (.aload_n 0, 1) := by decide +kernel
theorem dX2_add_1 : decode cX2_add 1 = .ok (.getfield 24, 3) := by decide +kernel
theorem dX2_add_4 : decode cX2_add 4 = .ok (.bipush 40, 2) := by decide +kernel
theorem dX2_add_6 : decode cX2_add 6 = .ok (.if_icmp .lt 7, 3) := by decide +kernel
theorem dX2_add_9 : decode cX2_add 9 = .ok (.aload_n 0, 1) := by decide +kernel
theorem dX2_add_10 : decode cX2_add 10 = .ok (.invokevirtual 28, 3) := by decide +kernel
theorem dX2_add_13 : decode cX2_add 13 = .ok (.aload_n 0, 1) := by decide +kernel
theorem dX2_add_14 : decode cX2_add 14 = .ok (.getfield 11, 3) := by decide +kernel
theorem dX2_add_17 : decode cX2_add 17 = .ok (.aload_n 0, 1) := by decide +kernel
theorem dX2_add_18 : decode cX2_add 18 = .ok (.getfield 24, 3) := by decide +kernel
theorem dX2_add_21 : decode cX2_add 21 = .ok (.iload_n 1, 1) := by decide +kernel
theorem dX2_add_22 : decode cX2_add 22 = .ok (.iastore, 1) := by decide +kernel
theorem dX2_add_23 : decode cX2_add 23 = .ok (.aload_n 0, 1) := by decide +kernel
theorem dX2_add_24 : decode cX2_add 24 = .ok (.getfield 15, 3) := by decide +kernel
theorem dX2_add_27 : decode cX2_add 27 = .ok (.aload_n 0, 1) := by decide +kernel
theorem dX2_add_28 : decode cX2_add 28 = .ok (.getfield 24, 3) := by decide +kernel
theorem dX2_add_31 : decode cX2_add 31 = .ok (.iload_n 2, 1) := by decide +kernel
theorem dX2_add_32 : decode cX2_add 32 = .ok (.iastore, 1) := by decide +kernel
theorem dX2_add_33 : decode cX2_add 33 = .ok (.aload_n 0, 1) := by decide +kernel
theorem dX2_add_34 : decode cX2_add 34 = .ok (.getfield 18, 3) := by decide +kernel
theorem dX2_add_37 : decode cX2_add 37 = .ok (.aload_n 0, 1) := by decide +kernel
theorem dX2_add_38 : decode cX2_add 38 = .ok (.getfield 24, 3) := by decide +kernel
theorem dX2_add_41 : decode cX2_add 41 = .ok (.iload_n 3, 1) := by decide +kernel
theorem dX2_add_42 : decode cX2_add 42 = .ok (.iastore, 1) := by decide +kernel
theorem dX2_add_43 : decode cX2_add 43 = .ok (.aload_n 0, 1) := by decide +kernel
theorem dX2_add_44 : decode cX2_add 44 = .ok (.getfield 21, 3) := by decide +kernel
theorem dX2_add_47 : decode cX2_add 47 = .ok (.aload_n 0, 1) := by decide +kernel
theorem dX2_add_48 : decode cX2_add 48 = .ok (.getfield 24, 3) := by decide +kernel
theorem dX2_add_51 : decode cX2_add 51 = .ok (.iload 4, 2) := by decide +kernel
theorem dX2_add_53 : decode cX2_add 53 = .ok (.iastore, 1) := by decide +kernel
theorem dX2_add_54 : decode cX2_add 54 = .ok (.aload_n 0, 1) := by decide +kernel
theorem dX2_add_55 : decode cX2_add 55 = .ok (.dup, 1) := by decide +kernel
theorem dX2_add_56 : decode cX2_add 56 = .ok (.getfield 24, 3) := by decide +kernel
theorem dX2_add_59 : decode cX2_add 59 = .ok (.iconst 1, 1) := by decide +kernel
theorem dX2_add_60 : decode cX2_add 60 = .ok (.iadd, 1) := by decide +kernel
theorem dX2_add_61 : decode cX2_add 61 = .ok (.putfield 24, 3) := by decide +kernel
theorem dX2_add_64 : decode cX2_add 64 = .ok (.aload_n 0, 1) := by decide +kernel
theorem dX2_add_65 : decode cX2_add 65 = .ok (.aload_n 0, 1) := by decide +kernel
theorem dX2_add_66 : decode cX2_add 66 = .ok (.getfield 24, 3) := by decide +kernel
theorem dX2_add_69 : decode cX2_add 69 = .ok (.putfield 31, 3) := by decide +kernel
theorem dX2_add_72 : decode cX2_add 72 = .ok (.return_, 1) := by decide +kernel
theorem dX2_forgetFirst_0 : decode cX2_forgetFirst 0 = .ok (.aload_n 0, 1) := by decide +kernel
theorem dX2_forgetFirst_1 : decode cX2_forgetFirst 1 = .ok (.getfield 11, 3) := by decide +kernel
theorem dX2_forgetFirst_4 : decode cX2_forgetFirst 4 = .ok (.iconst 1, 1) := by decide +kernel
theorem dX2_forgetFirst_5 : decode cX2_forgetFirst 5 = .ok (.aload_n 0, 1) := by decide +kernel
theorem dX2_forgetFirst_6 : decode cX2_forgetFirst 6 = .ok (.getfield 11, 3) := by decide +kernel
theorem dX2_forgetFirst_9 : decode cX2_forgetFirst 9 = .ok (.iconst 0, 1) := by decide +kernel
theorem dX2_forgetFirst_10 : decode cX2_forgetFirst 10 = .ok (.bipush 39, 2) := by decide +kernel
theorem dX2_forgetFirst_12 : decode cX2_forgetFirst 12 = .ok (.invokestatic 34, 3) := by decide +kernel
theorem dX2_forgetFirst_15 : decode cX2_forgetFirst 15 = .ok (.aload_n 0, 1) := by decide +kernel
theorem dX2_forgetFirst_16 : decode cX2_forgetFirst 16 = .ok (.getfield 15, 3) := by decide +kernel
theorem dX2_forgetFirst_19 : decode cX2_forgetFirst 19 = .ok (.iconst 1, 1) := by decide +kernel
theorem dX2_forgetFirst_20 : decode cX2_forgetFirst 20 = .ok (.aload_n 0, 1) := by decide +kernel
theorem dX2_forgetFirst_21 : decode cX2_forgetFirst 21 = .ok (.getfield 15, 3) := by decide +kernel
theorem dX2_forgetFirst_24 : decode cX2_forgetFirst 24 = .ok (.iconst 0, 1) := by decide +kernel
theorem dX2_forgetFirst_25 : decode cX2_forgetFirst 25 = .ok (.bipush 39, 2) := by decide +kernel
theorem dX2_forgetFirst_27 : decode cX2_forgetFirst 27 = .ok (.invokestatic 34, 3) := by decide +kernel
theorem dX2_forgetFirst_30 : decode cX2_forgetFirst 30 = .ok (.aload_n 0, 1) := by decide +kernel
theorem dX2_forgetFirst_31 : decode cX2_forgetFirst 31 = .ok (.getfield 18, 3) := by decide +kernel
theorem dX2_forgetFirst_34 : decode cX2_forgetFirst 34 = .ok (.iconst 1, 1) := by decide +kernel
theorem dX2_forgetFirst_35 : decode cX2_forgetFirst 35 = .ok (.aload_n 0, 1) := by decide +kernel
theorem dX2_forgetFirst_36 : decode cX2_forgetFirst 36 = .ok (.getfield 18, 3) := by decide +kernel
theorem dX2_forgetFirst_39 : decode cX2_forgetFirst 39 = .ok (.iconst 0, 1) := by decide +kernel
theorem dX2_forgetFirst_40 : decode cX2_forgetFirst 40 = .ok (.bipush 39, 2) := by decide +kernel
theorem dX2_forgetFirst_42 : decode cX2_forgetFirst 42 = .ok (.invokestatic 34, 3) := by decide +kernel
theorem dX2_forgetFirst_45 : decode cX2_forgetFirst 45 = .ok (.aload_n 0, 1) := by decide +kernel
theorem dX2_forgetFirst_46 : decode cX2_forgetFirst 46 = .ok (.getfield 21, 3) := by decide +kernel
theorem dX2_forgetFirst_49 : decode cX2_forgetFirst 49 = .ok (.iconst 1, 1) := by decide +kernel
theorem dX2_forgetFirst_50 : decode cX2_forgetFirst 50 = .ok (.aload_n 0, 1) := by decide +kernel
theorem dX2_forgetFirst_51 : decode cX2_forgetFirst 51 = .ok (.getfield 21, 3) := by decide +kernel
theorem dX2_forgetFirst_54 : decode cX2_forgetFirst 54 = .ok (.iconst 0, 1) := by decide +kernel
theorem dX2_forgetFirst_55 : decode cX2_forgetFirst 55 = .ok (.bipush 39, 2) := by decide +kernel
theorem dX2_forgetFirst_57 : decode cX2_forgetFirst 57 = .ok (.invokestatic 34, 3) := by decide +kernel
theorem dX2_forgetFirst_60 : decode cX2_forgetFirst 60 = .ok (.aload_n 0, 1) := by decide +kernel
theorem dX2_forgetFirst_61 : decode cX2_forgetFirst 61 = .ok (.bipush 39, 2) := by decide +kernel
theorem dX2_forgetFirst_63 : decode cX2_forgetFirst 63 = .ok (.putfield 24, 3) := by decide +kernel
theorem dX2_forgetFirst_66 : decode cX2_forgetFirst 66 = .ok (.return_, 1) := by decide +kernel
theorem dX3_init_0 : decode cX3_init 0 = .ok (.aload_n 0, 1) := by decide +kernel
theorem dX3_init_1 : decode cX3_init 1 = .ok (.invokespecial 3, 3) := by decide +kernel
theorem dX3_init_4 : decode cX3_init 4 = .ok (.aload_n 0, 1) := by decide +kernel
theorem dX3_init_5 : decode cX3_init 5 = .ok (.iconst 4, 1) := by decide +kernel
theorem dX3_init_6 : decode cX3_init 6 = .ok (.anewarray 11, 3) := by decide +kernel
theorem dX3_init_9 : decode cX3_init 9 = .ok (.putfield 13, 3) := by decide +kernel
theorem dX3_init_12 : decode cX3_init 12 = .ok (.aload_n 0, 1) := by decide +kernel
theorem dX3_init_13 : decode cX3_init 13 = .ok (.aload_n 1, 1) := by decide +kernel
theorem dX3_init_14 : decode cX3_init 14 = .ok (.putfield 17, 3) := by decide +kernel
theorem dX3_init_17 : decode cX3_init 17 = .ok (.iconst 0, 1) := by decide +kernel
theorem dX3_init_18 : decode cX3_init 18 = .ok (.istore_n 3, 1) := by decide +kernel
theorem dX3_init_19 : decode cX3_init 19 = .ok (.iload_n 3, 1) := by decide +kernel
theorem dX3_init_20 : decode cX3_init 20 = .ok (.iconst 3, 1) := by decide +kernel
theorem dX3_init_21 : decode cX3_init 21 = .ok (.if_icmp .gt 23, 3) := by decide +kernel
theorem dX3_init_24 : decode cX3_init 24 = .ok (.aload_n 0, 1) := by decide +kernel
theorem dX3_init_25 : decode cX3_init 25 = .ok (.getfield 13, 3) := by decide +kernel
theorem dX3_init_28 : decode cX3_init 28 = .ok (.iload_n 3, 1) := by decide +kernel
theorem dX3_init_29 : decode cX3_init 29 = .ok (.new 11, 3) := by decide +kernel
theorem dX3_init_32 : decode cX3_init 32 = .ok (.dup, 1) := by decide +kernel
theorem dX3_init_33 : decode cX3_init 33 = .ok (.aload_n 2, 1) := by decide +kernel
theorem dX3_init_34 : decode cX3_init 34 = .ok (.invokespecial 21, 3) := by decide +kernel
theorem dX3_init_37 : decode cX3_init 37 = .ok (.aastore, 1) := by decide +kernel
theorem dX3_init_38 : decode cX3_init 38 = .ok (.iinc 3 1, 3) := by decide +kernel
theorem dX3_init_41 : decode cX3_init 41 = .ok (.goto (-22), 3) := by decide +kernel
theorem dX3_init_44 : decode cX3_init 44 = .ok (.return_, 1) := by decide +kernel
theorem dX3_play_0 : decode cX3_play 0 = .ok (.aload_n 0, 1) := by decide +kernel
theorem dX3_play_1 : decode cX3_play 1 = .ok (.bipush (-2), 2) := by decide +kernel
theorem dX3_play_3 : decode cX3_play 3 = .ok (.putfield 24, 3) := by decide +kernel
theorem dX3_play_6 : decode cX3_play 6 = .ok (.aload_n 0, 1) := by decide +kernel
theorem dX3_play_7 : decode cX3_play 7 = .ok (.bipush (-2), 2) := by decide +kernel
theorem dX3_play_9 : decode cX3_play 9 = .ok (.putfield 28, 3) := by decide +kernel
theorem dX3_play_12 : decode cX3_play 12 = .ok (.aload_n 0, 1) := by decide +kernel
theorem dX3_play_13 : decode cX3_play 13 = .ok (.getfield 17, 3) := by decide +kernel
theorem dX3_play_16 : decode cX3_play 16 = .ok (.invokevirtual 31, 3) := by decide +kernel
theorem dX3_play_19 : decode cX3_play 19 = .ok (.ifCond .le 47, 3) := by decide +kernel
theorem dX3_play_22 : decode cX3_play 22 = .ok (.aload_n 0, 1) := by decide +kernel
theorem dX3_play_23 : decode cX3_play 23 = .ok (.iconst 3, 1) := by decide +kernel
theorem dX3_play_24 : decode cX3_play 24 = .ok (.iload_n 1, 1) := by decide +kernel
theorem dX3_play_25 : decode cX3_play 25 = .ok (.invokestatic 35, 3) := by decide +kernel
theorem dX3_play_28 : decode cX3_play 28 = .ok (.putfield 41, 3) := by decide +kernel
theorem dX3_play_31 : decode cX3_play 31 = .ok (.aload_n 0, 1) := by decide +kernel
theorem dX3_play_32 : decode cX3_play 32 = .ok (.iload_n 2, 1) := by decide +kernel
theorem dX3_play_33 : decode cX3_play 33 = .ok (.putfield 44, 3) := by decide +kernel
theorem dX3_play_36 : decode cX3_play 36 = .ok (.aload_n 0, 1) := by decide +kernel
theorem dX3_play_37 : decode cX3_play 37 = .ok (.getfield 13, 3) := by decide +kernel
theorem dX3_play_40 : decode cX3_play 40 = .ok (.iconst 0, 1) := by decide +kernel
theorem dX3_play_41 : decode cX3_play 41 = .ok (.aaload, 1) := by decide +kernel
theorem dX3_play_42 : decode cX3_play 42 = .ok (.aload_n 0, 1) := by decide +kernel
theorem dX3_play_43 : decode cX3_play 43 = .ok (.getfield 17, 3) := by decide +kernel
theorem dX3_play_46 : decode cX3_play 46 = .ok (.invokevirtual 47, 3) := by decide +kernel
theorem dX3_play_49 : decode cX3_play 49 = .ok (.aload_n 0, 1) := by decide +kernel
theorem dX3_play_50 : decode cX3_play 50 = .ok (.aload_n 0, 1) := by decide +kernel
theorem dX3_play_51 : decode cX3_play 51 = .ok (.iconst 0, 1) := by decide +kernel
theorem dX3_play_52 : decode cX3_play 52 = .ok (.iconst (-1), 1) := by decide +kernel
theorem dX3_play_53 : decode cX3_play 53 = .ok (.getstatic 51, 3) := by decide +kernel
theorem dX3_play_56 : decode cX3_play 56 = .ok (.iconst 1, 1) := by decide +kernel
theorem dX3_play_57 : decode cX3_play 57 = .ok (.iaload, 1) := by decide +kernel
theorem dX3_play_58 : decode cX3_play 58 = .ok (.iconst 1, 1) := by decide +kernel
theorem dX3_play_59 : decode cX3_play 59 = .ok (.iadd, 1) := by decide +kernel
theorem dX3_play_60 : decode cX3_play 60 = .ok (.invokevirtual 55, 3) := by decide +kernel
theorem dX3_play_63 : decode cX3_play 63 = .ok (.putfield 24, 3) := by decide +kernel
theorem dX3_play_66 : decode cX3_play 66 = .ok (.return_, 1) := by decide +kernel
theorem dX3_outcome_0 : decode cX3_outcome 0 = .ok (.aload_n 0, 1) := by decide +kernel
theorem dX3_outcome_1 : decode cX3_outcome 1 = .ok (.getfield 13, 3) := by decide +kernel
theorem dX3_outcome_4 : decode cX3_outcome 4 = .ok (.iload_n 1, 1) := by decide +kernel
theorem dX3_outcome_5 : decode cX3_outcome 5 = .ok (.aaload, 1) := by decide +kernel
theorem dX3_outcome_6 : decode cX3_outcome 6 = .ok (.astore 4, 2) := by decide +kernel
theorem dX3_outcome_8 : decode cX3_outcome 8 = .ok (.iload_n 1, 1) := by decide +kernel
theorem dX3_outcome_9 : decode cX3_outcome 9 = .ok (.aload_n 0, 1) := by decide +kernel
theorem dX3_outcome_10 : decode cX3_outcome 10 = .ok (.getfield 41, 3) := by decide +kernel
theorem dX3_outcome_13 : decode cX3_outcome 13 = .ok (.if_icmp .lt 13, 3) := by decide +kernel
theorem dX3_outcome_16 : decode cX3_outcome 16 = .ok (.aload 4, 2) := by decide +kernel
theorem dX3_outcome_18 : decode cX3_outcome 18 = .ok (.aload_n 0, 1) := by decide +kernel
theorem dX3_outcome_19 : decode cX3_outcome 19 = .ok (.getfield 44, 3) := by decide +kernel
theorem dX3_outcome_22 : decode cX3_outcome 22 = .ok (.invokevirtual 59, 3) := by decide +kernel
theorem dX3_outcome_25 : decode cX3_outcome 25 = .ok (.ireturn, 1) := by decide +kernel
theorem dX3_outcome_26 : decode cX3_outcome 26 = .ok (.iload_n 1, 1) := by decide +kernel
theorem dX3_outcome_27 : decode cX3_outcome 27 = .ok (.iconst 2, 1) := by decide +kernel
theorem dX3_outcome_28 : decode cX3_outcome 28 = .ok (.irem, 1) := by decide +kernel
theorem dX3_outcome_29 : decode cX3_outcome 29 = .ok (.ifCond .ne 7, 3) := by decide +kernel
theorem dX3_outcome_32 : decode cX3_outcome 32 = .ok (.iconst 1, 1) := by decide +kernel
theorem dX3_outcome_33 : decode cX3_outcome 33 = .ok (.goto 4, 3) := by decide +kernel
theorem dX3_outcome_36 : decode cX3_outcome 36 = .ok (.iconst 0, 1) := by decide +kernel
theorem dX3_outcome_37 : decode cX3_outcome 37 = .ok (.istore 5, 2) := by decide +kernel
theorem dX3_outcome_39 : decode cX3_outcome 39 = .ok (.iload_n 2, 1) := by decide +kernel
theorem dX3_outcome_40 : decode cX3_outcome 40 = .ok (.istore 6, 2) := by decide +kernel
theorem dX3_outcome_42 : decode cX3_outcome 42 = .ok (.iload_n 3, 1) := by decide +kernel
theorem dX3_outcome_43 : decode cX3_outcome 43 = .ok (.istore 7, 2) := by decide +kernel
theorem dX3_outcome_45 : decode cX3_outcome 45 = .ok (.iconst 0, 1) := by decide +kernel
theorem dX3_outcome_46 : decode cX3_outcome 46 = .ok (.istore 8, 2) := by decide +kernel
theorem dX3_outcome_48 : decode cX3_outcome 48 = .ok (.iload 8, 2) := by decide +kernel
theorem dX3_outcome_50 : decode cX3_outcome 50 = .ok (.bipush 6, 2) := by decide +kernel
theorem dX3_outcome_52 : decode cX3_outcome 52 = .ok (.if_icmp .gt 179, 3) := by decide +kernel
theorem dX3_outcome_55 : decode cX3_outcome 55 = .ok (.iload 6, 2) := by decide +kernel
theorem dX3_outcome_57 : decode cX3_outcome 57 = .ok (.iload 7, 2) := by decide +kernel
theorem dX3_outcome_59 : decode cX3_outcome 59 = .ok (.if_icmp .ge 172, 3) := by decide +kernel
theorem dX3_outcome_62 : decode cX3_outcome 62 = .ok (.iload 8, 2) := by decide +kernel
theorem dX3_outcome_64 : decode cX3_outcome 64 = .ok (.ifCond .ne 8, 3) := by decide +kernel
theorem dX3_outcome_67 : decode cX3_outcome 67 = .ok (.bipush 6, 2) := by decide +kernel
theorem dX3_outcome_69 : decode cX3_outcome 69 = .ok (.goto 7, 3) := by decide +kernel
theorem dX3_outcome_72 : decode cX3_outcome 72 = .ok (.iload 8, 2) := by decide +kernel
theorem dX3_outcome_74 : decode cX3_outcome 74 = .ok (.iconst 1, 1) := by decide +kernel
theorem dX3_outcome_75 : decode cX3_outcome 75 = .ok (.isub, 1) := by decide +kernel
theorem dX3_outcome_76 : decode cX3_outcome 76 = .ok (.istore 9, 2) := by decide +kernel
theorem dX3_outcome_78 : decode cX3_outcome 78 = .ok (.iload 9, 2) := by decide +kernel
theorem dX3_outcome_80 : decode cX3_outcome 80 = .ok (.bipush 6, 2) := by decide +kernel
theorem dX3_outcome_82 : decode cX3_outcome 82 = .ok (.if_icmp .eq 17, 3) := by decide +kernel
theorem dX3_outcome_85 : decode cX3_outcome 85 = .ok (.aload 4, 2) := by decide +kernel
theorem dX3_outcome_87 : decode cX3_outcome 87 = .ok (.getfield 63, 3) := by decide +kernel
theorem dX3_outcome_90 : decode cX3_outcome 90 = .ok (.iload 9, 2) := by decide +kernel
theorem dX3_outcome_92 : decode cX3_outcome 92 = .ok (.iaload, 1) := by decide +kernel
theorem dX3_outcome_93 : decode cX3_outcome 93 = .ok (.ifCond .ne 6, 3) := by decide +kernel
theorem dX3_outcome_96 : decode cX3_outcome 96 = .ok (.goto 129, 3) := by decide +kernel
theorem dX3_outcome_99 : decode cX3_outcome 99 = .ok (.aload_n 0, 1) := by decide +kernel
theorem dX3_outcome_100 : decode cX3_outcome 100 = .ok (.getfield 13, 3) := by decide +kernel
theorem dX3_outcome_103 : decode cX3_outcome 103 = .ok (.iload_n 1, 1) := by decide +kernel
theorem dX3_outcome_104 : decode cX3_outcome 104 = .ok (.iconst 1, 1) := by decide +kernel
theorem dX3_outcome_105 : decode cX3_outcome 105 = .ok (.iadd, 1) := by decide +kernel
theorem dX3_outcome_106 : decode cX3_outcome 106 = .ok (.aaload, 1) := by decide +kernel
theorem dX3_outcome_107 : decode cX3_outcome 107 = .ok (.aload 4, 2) := by decide +kernel
theorem dX3_outcome_109 : decode cX3_outcome 109 = .ok (.invokevirtual 47, 3) := by decide +kernel
theorem dX3_outcome_112 : decode cX3_outcome 112 = .ok (.iload 9, 2) := by decide +kernel
theorem dX3_outcome_114 : decode cX3_outcome 114 = .ok (.bipush 6, 2) := by decide +kernel
theorem dX3_outcome_116 : decode cX3_outcome 116 = .ok (.if_icmp .eq 24, 3) := by decide +kernel
theorem dX3_outcome_119 : decode cX3_outcome 119 = .ok (.iload 5, 2) := by decide +kernel
theorem dX3_outcome_121 : decode cX3_outcome 121 = .ok (.ifCond .eq 19, 3) := by decide +kernel
theorem dX3_outcome_124 : decode cX3_outcome 124 = .ok (.aload_n 0, 1) := by decide +kernel
theorem dX3_outcome_125 : decode cX3_outcome 125 = .ok (.getfield 13, 3) := by decide +kernel
theorem dX3_outcome_128 : decode cX3_outcome 128 = .ok (.iload_n 1, 1) := by decide +kernel
theorem dX3_outcome_129 : decode cX3_outcome 129 = .ok (.iconst 1, 1) := by decide +kernel
theorem dX3_outcome_130 : decode cX3_outcome 130 = .ok (.iadd, 1) := by decide +kernel
theorem dX3_outcome_131 : decode cX3_outcome 131 = .ok (.aaload, 1) := by decide +kernel
theorem dX3_outcome_132 : decode cX3_outcome 132 = .ok (.iload 9, 2) := by decide +kernel
theorem dX3_outcome_134 : decode cX3_outcome 134 = .ok (.invokevirtual 66, 3) := by decide +kernel
theorem dX3_outcome_137 : decode cX3_outcome 137 = .ok (.goto 23, 3) := by decide +kernel
theorem dX3_outcome_140 : decode cX3_outcome 140 = .ok (.iload 9, 2) := by decide +kernel
theorem dX3_outcome_142 : decode cX3_outcome 142 = .ok (.bipush 6, 2) := by decide +kernel
theorem dX3_outcome_144 : decode cX3_outcome 144 = .ok (.if_icmp .eq 16, 3) := by decide +kernel
theorem dX3_outcome_147 : decode cX3_outcome 147 = .ok (.aload_n 0, 1) := by decide +kernel
theorem dX3_outcome_148 : decode cX3_outcome 148 = .ok (.getfield 13, 3) := by decide +kernel
theorem dX3_outcome_151 : decode cX3_outcome 151 = .ok (.iload_n 1, 1) := by decide +kernel
theorem dX3_outcome_152 : decode cX3_outcome 152 = .ok (.iconst 1, 1) := by decide +kernel
theorem dX3_outcome_153 : decode cX3_outcome 153 = .ok (.iadd, 1) := by decide +kernel
theorem dX3_outcome_154 : decode cX3_outcome 154 = .ok (.aaload, 1) := by decide +kernel
theorem dX3_outcome_155 : decode cX3_outcome 155 = .ok (.iload 9, 2) := by decide +kernel
theorem dX3_outcome_157 : decode cX3_outcome 157 = .ok (.invokevirtual 70, 3) := by decide +kernel
theorem dX3_outcome_160 : decode cX3_outcome 160 = .ok (.aload_n 0, 1) := by decide +kernel
theorem dX3_outcome_161 : decode cX3_outcome 161 = .ok (.iload_n 1, 1) := by decide +kernel
theorem dX3_outcome_162 : decode cX3_outcome 162 = .ok (.iconst 1, 1) := by decide +kernel
theorem dX3_outcome_163 : decode cX3_outcome 163 = .ok (.iadd, 1) := by decide +kernel
theorem dX3_outcome_164 : decode cX3_outcome 164 = .ok (.iload 6, 2) := by decide +kernel
theorem dX3_outcome_166 : decode cX3_outcome 166 = .ok (.iload 7, 2) := by decide +kernel
theorem dX3_outcome_168 : decode cX3_outcome 168 = .ok (.invokevirtual 55, 3) := by decide +kernel
theorem dX3_outcome_171 : decode cX3_outcome 171 = .ok (.istore 10, 2) := by decide +kernel
theorem dX3_outcome_173 : decode cX3_outcome 173 = .ok (.iload 5, 2) := by decide +kernel
theorem dX3_outcome_175 : decode cX3_outcome 175 = .ok (.ifCond .eq 34, 3) := by decide +kernel
theorem dX3_outcome_178 : decode cX3_outcome 178 = .ok (.iload 10, 2) := by decide +kernel
theorem dX3_outcome_180 : decode cX3_outcome 180 = .ok (.iload 7, 2) := by decide +kernel
theorem dX3_outcome_182 : decode cX3_outcome 182 = .ok (.if_icmp .ge 27, 3) := by decide +kernel
theorem dX3_outcome_185 : decode cX3_outcome 185 = .ok (.iload 10, 2) := by decide +kernel
theorem dX3_outcome_187 : decode cX3_outcome 187 = .ok (.istore 7, 2) := by decide +kernel
theorem dX3_outcome_189 : decode cX3_outcome 189 = .ok (.aload_n 0, 1) := by decide +kernel
theorem dX3_outcome_190 : decode cX3_outcome 190 = .ok (.iload_n 1, 1) := by decide +kernel
theorem dX3_outcome_191 : decode cX3_outcome 191 = .ok (.ifCond .ne 8, 3) := by decide +kernel
theorem dX3_outcome_194 : decode cX3_outcome 194 = .ok (.iload 9, 2) := by decide +kernel
theorem dX3_outcome_196 : decode cX3_outcome 196 = .ok (.goto 7, 3) := by decide +kernel
theorem dX3_outcome_199 : decode cX3_outcome 199 = .ok (.aload_n 0, 1) := by decide +kernel
theorem dX3_outcome_200 : decode cX3_outcome 200 = .ok (.getfield 28, 3) := by decide +kernel
theorem dX3_outcome_203 : decode cX3_outcome 203 = .ok (.putfield 28, 3) := by decide +kernel
theorem dX3_outcome_206 : decode cX3_outcome 206 = .ok (.goto 19, 3) := by decide +kernel
theorem dX3_outcome_209 : decode cX3_outcome 209 = .ok (.iload 5, 2) := by decide +kernel
theorem dX3_outcome_211 : decode cX3_outcome 211 = .ok (.ifCond .ne 14, 3) := by decide +kernel
theorem dX3_outcome_214 : decode cX3_outcome 214 = .ok (.iload 10, 2) := by decide +kernel
theorem dX3_outcome_216 : decode cX3_outcome 216 = .ok (.iload 6, 2) := by decide +kernel
theorem dX3_outcome_218 : decode cX3_outcome 218 = .ok (.if_icmp .le 7, 3) := by decide +kernel
theorem dX3_outcome_221 : decode cX3_outcome 221 = .ok (.iload 10, 2) := by decide +kernel
theorem dX3_outcome_223 : decode cX3_outcome 223 = .ok (.istore 6, 2) := by decide +kernel
theorem dX3_outcome_225 : decode cX3_outcome 225 = .ok (.iinc 8 1, 3) := by decide +kernel
theorem dX3_outcome_228 : decode cX3_outcome 228 = .ok (.goto (-180), 3) := by decide +kernel
theorem dX3_outcome_231 : decode cX3_outcome 231 = .ok (.iload 5, 2) := by decide +kernel
theorem dX3_outcome_233 : decode cX3_outcome 233 = .ok (.ifCond .eq 8, 3) := by decide +kernel
theorem dX3_outcome_236 : decode cX3_outcome 236 = .ok (.iload 7, 2) := by decide +kernel
theorem dX3_outcome_238 : decode cX3_outcome 238 = .ok (.goto 5, 3) := by decide +kernel
theorem dX3_outcome_241 : decode cX3_outcome 241 = .ok (.iload 6, 2) := by decide +kernel
theorem dX3_outcome_243 : decode cX3_outcome 243 = .ok (.ireturn, 1) := by decide +kernel
theorem dX4_init_0 : decode cX4_init 0 = .ok (.aload_n 0, 1) := by decide +kernel
theorem dX4_init_1 : decode cX4_init 1 = .ok (.invokespecial 3, 3) := by decide +kernel
theorem dX4_init_4 : decode cX4_init 4 = .ok (.aload_n 0, 1) := by decide +kernel
theorem dX4_init_5 : decode cX4_init 5 = .ok (.bipush 6, 2) := by decide +kernel
theorem dX4_init_7 : decode cX4_init 7 = .ok (.newarray .int, 2) := by decide +kernel
theorem dX4_init_9 : decode cX4_init 9 = .ok (.putfield 9, 3) := by decide +kernel
theorem dX4_init_12 : decode cX4_init 12 = .ok (.aload_n 0, 1) := by decide +kernel
theorem dX4_init_13 : decode cX4_init 13 = .ok (.bipush 6, 2) := by decide +kernel
theorem dX4_init_15 : decode cX4_init 15 = .ok (.newarray .int, 2) := by decide +kernel
theorem dX4_init_17 : decode cX4_init 17 = .ok (.putfield 15, 3) := by decide +kernel
theorem dX4_init_20 : decode cX4_init 20 = .ok (.aload_n 0, 1) := by decide +kernel
theorem dX4_init_21 : decode cX4_init 21 = .ok (.bipush 30, 2) := by decide +kernel
theorem dX4_init_23 : decode cX4_init 23 = .ok (.newarray .int, 2) := by decide +kernel
theorem dX4_init_25 : decode cX4_init 25 = .ok (.putfield 18, 3) := by decide +kernel
theorem dX4_init_28 : decode cX4_init 28 = .ok (.aload_n 0, 1) := by decide +kernel
theorem dX4_init_29 : decode cX4_init 29 = .ok (.bipush 30, 2) := by decide +kernel
theorem dX4_init_31 : decode cX4_init 31 = .ok (.newarray .int, 2) := by decide +kernel
theorem dX4_init_33 : decode cX4_init 33 = .ok (.putfield 21, 3) := by decide +kernel
theorem dX4_init_36 : decode cX4_init 36 = .ok (.aload_n 0, 1) := by decide +kernel
theorem dX4_init_37 : decode cX4_init 37 = .ok (.bipush 30, 2) := by decide +kernel
theorem dX4_init_39 : decode cX4_init 39 = .ok (.newarray .int, 2) := by decide +kernel
theorem dX4_init_41 : decode cX4_init 41 = .ok (.putfield 24, 3) := by decide +kernel
theorem dX4_init_44 : decode cX4_init 44 = .ok (.aload_n 0, 1) := by decide +kernel
theorem dX4_init_45 : decode cX4_init 45 = .ok (.bipush 30, 2) := by decide +kernel
theorem dX4_init_47 : decode cX4_init 47 = .ok (.newarray .int, 2) := by decide +kernel
theorem dX4_init_49 : decode cX4_init 49 = .ok (.putfield 27, 3) := by decide +kernel
theorem dX4_init_52 : decode cX4_init 52 = .ok (.aload_n 0, 1) := by decide +kernel
theorem dX4_init_53 : decode cX4_init 53 = .ok (.bipush 30, 2) := by decide +kernel
theorem dX4_init_55 : decode cX4_init 55 = .ok (.newarray .int, 2) := by decide +kernel
theorem dX4_init_57 : decode cX4_init 57 = .ok (.putfield 30, 3) := by decide +kernel
theorem dX4_init_60 : decode cX4_init 60 = .ok (.aload_n 0, 1) := by decide +kernel
theorem dX4_init_61 : decode cX4_init 61 = .ok (.bipush 6, 2) := by decide +kernel
theorem dX4_init_63 : decode cX4_init 63 = .ok (.newarray .int, 2) := by decide +kernel
theorem dX4_init_65 : decode cX4_init 65 = .ok (.dup, 1) := by decide +kernel
theorem dX4_init_66 : decode cX4_init 66 = .ok (.iconst 0, 1) := by decide +kernel
theorem dX4_init_67 : decode cX4_init 67 = .ok (.iconst 0, 1) := by decide +kernel
theorem dX4_init_68 : decode cX4_init 68 = .ok (.iastore, 1) := by decide +kernel
theorem dX4_init_69 : decode cX4_init 69 = .ok (.dup, 1) := by decide +kernel
theorem dX4_init_70 : decode cX4_init 70 = .ok (.iconst 1, 1) := by decide +kernel
theorem dX4_init_71 : decode cX4_init 71 = .ok (.iconst 0, 1) := by decide +kernel
theorem dX4_init_72 : decode cX4_init 72 = .ok (.iastore, 1) := by decide +kernel
theorem dX4_init_73 : decode cX4_init 73 = .ok (.dup, 1) := by decide +kernel
theorem dX4_init_74 : decode cX4_init 74 = .ok (.iconst 2, 1) := by decide +kernel
theorem dX4_init_75 : decode cX4_init 75 = .ok (.iconst 0, 1) := by decide +kernel
theorem dX4_init_76 : decode cX4_init 76 = .ok (.iastore, 1) := by decide +kernel
theorem dX4_init_77 : decode cX4_init 77 = .ok (.dup, 1) := by decide +kernel
theorem dX4_init_78 : decode cX4_init 78 = .ok (.iconst 3, 1) := by decide +kernel
theorem dX4_init_79 : decode cX4_init 79 = .ok (.iconst 0, 1) := by decide +kernel
theorem dX4_init_80 : decode cX4_init 80 = .ok (.iastore, 1) := by decide +kernel
theorem dX4_init_81 : decode cX4_init 81 = .ok (.dup, 1) := by decide +kernel
theorem dX4_init_82 : decode cX4_init 82 = .ok (.iconst 4, 1) := by decide +kernel
theorem dX4_init_83 : decode cX4_init 83 = .ok (.iconst 0, 1) := by decide +kernel
theorem dX4_init_84 : decode cX4_init 84 = .ok (.iastore, 1) := by decide +kernel
theorem dX4_init_85 : decode cX4_init 85 = .ok (.dup, 1) := by decide +kernel
theorem dX4_init_86 : decode cX4_init 86 = .ok (.iconst 5, 1) := by decide +kernel
theorem dX4_init_87 : decode cX4_init 87 = .ok (.bipush (-2), 2) := by decide +kernel
theorem dX4_init_89 : decode cX4_init 89 = .ok (.iastore, 1) := by decide +kernel
theorem dX4_init_90 : decode cX4_init 90 = .ok (.putfield 33, 3) := by decide +kernel
theorem dX4_init_93 : decode cX4_init 93 = .ok (.aload_n 0, 1) := by decide +kernel
theorem dX4_init_94 : decode cX4_init 94 = .ok (.bipush 30, 2) := by decide +kernel
theorem dX4_init_96 : decode cX4_init 96 = .ok (.newarray .int, 2) := by decide +kernel
theorem dX4_init_98 : decode cX4_init 98 = .ok (.putfield 36, 3) := by decide +kernel
theorem dX4_init_101 : decode cX4_init 101 = .ok (.aload_n 0, 1) := by decide +kernel
theorem dX4_init_102 : decode cX4_init 102 = .ok (.bipush 90, 2) := by decide +kernel
theorem dX4_init_104 : decode cX4_init 104 = .ok (.putfield 39, 3) := by decide +kernel
theorem dX4_init_107 : decode cX4_init 107 = .ok (.aload_n 0, 1) := by decide +kernel
theorem dX4_init_108 : decode cX4_init 108 = .ok (.aload_n 1, 1) := by decide +kernel
theorem dX4_init_109 : decode cX4_init 109 = .ok (.putfield 43, 3) := by decide +kernel
theorem dX4_init_112 : decode cX4_init 112 = .ok (.return_, 1) := by decide +kernel
theorem dX4_takeStack_0 : decode cX4_takeStack 0 = .ok (.aload_n 1, 1) := by decide +kernel
theorem dX4_takeStack_1 : decode cX4_takeStack 1 = .ok (.getfield 9, 3) := by decide +kernel
theorem dX4_takeStack_4 : decode cX4_takeStack 4 = .ok (.iconst 0, 1) := by decide +kernel
theorem dX4_takeStack_5 : decode cX4_takeStack 5 = .ok (.aload_n 0, 1) := by decide +kernel
theorem dX4_takeStack_6 : decode cX4_takeStack 6 = .ok (.getfield 9, 3) := by decide +kernel
theorem dX4_takeStack_9 : decode cX4_takeStack 9 = .ok (.iconst 0, 1) := by decide +kernel
theorem dX4_takeStack_10 : decode cX4_takeStack 10 = .ok (.bipush 6, 2) := by decide +kernel
theorem dX4_takeStack_12 : decode cX4_takeStack 12 = .ok (.invokestatic 47, 3) := by decide +kernel
theorem dX4_takeStack_15 : decode cX4_takeStack 15 = .ok (.aload_n 1, 1) := by decide +kernel
theorem dX4_takeStack_16 : decode cX4_takeStack 16 = .ok (.getfield 18, 3) := by decide +kernel
theorem dX4_takeStack_19 : decode cX4_takeStack 19 = .ok (.iconst 0, 1) := by decide +kernel
theorem dX4_takeStack_20 : decode cX4_takeStack 20 = .ok (.aload_n 0, 1) := by decide +kernel
theorem dX4_takeStack_21 : decode cX4_takeStack 21 = .ok (.getfield 18, 3) := by decide +kernel
theorem dX4_takeStack_24 : decode cX4_takeStack 24 = .ok (.iconst 0, 1) := by decide +kernel
theorem dX4_takeStack_25 : decode cX4_takeStack 25 = .ok (.bipush 30, 2) := by decide +kernel
theorem dX4_takeStack_27 : decode cX4_takeStack 27 = .ok (.invokestatic 47, 3) := by decide +kernel
theorem dX4_takeStack_30 : decode cX4_takeStack 30 = .ok (.aload_n 1, 1) := by decide +kernel
theorem dX4_takeStack_31 : decode cX4_takeStack 31 = .ok (.getfield 21, 3) := by decide +kernel
theorem dX4_takeStack_34 : decode cX4_takeStack 34 = .ok (.iconst 0, 1) := by decide +kernel
theorem dX4_takeStack_35 : decode cX4_takeStack 35 = .ok (.aload_n 0, 1) := by decide +kernel
theorem dX4_takeStack_36 : decode cX4_takeStack 36 = .ok (.getfield 21, 3) := by decide +kernel
theorem dX4_takeStack_39 : decode cX4_takeStack 39 = .ok (.iconst 0, 1) := by decide +kernel
theorem dX4_takeStack_40 : decode cX4_takeStack 40 = .ok (.bipush 30, 2) := by decide +kernel
theorem dX4_takeStack_42 : decode cX4_takeStack 42 = .ok (.invokestatic 47, 3) := by decide +kernel
theorem dX4_takeStack_45 : decode cX4_takeStack 45 = .ok (.aload_n 1, 1) := by decide +kernel
theorem dX4_takeStack_46 : decode cX4_takeStack 46 = .ok (.getfield 24, 3) := by decide +kernel
theorem dX4_takeStack_49 : decode cX4_takeStack 49 = .ok (.iconst 0, 1) := by decide +kernel
theorem dX4_takeStack_50 : decode cX4_takeStack 50 = .ok (.aload_n 0, 1) := by decide +kernel
theorem dX4_takeStack_51 : decode cX4_takeStack 51 = .ok (.getfield 24, 3) := by decide +kernel
theorem dX4_takeStack_54 : decode cX4_takeStack 54 = .ok (.iconst 0, 1) := by decide +kernel
theorem dX4_takeStack_55 : decode cX4_takeStack 55 = .ok (.bipush 30, 2) := by decide +kernel
theorem dX4_takeStack_57 : decode cX4_takeStack 57 = .ok (.invokestatic 47, 3) := by decide +kernel
theorem dX4_takeStack_60 : decode cX4_takeStack 60 = .ok (.aload_n 1, 1) := by decide +kernel
theorem dX4_takeStack_61 : decode cX4_takeStack 61 = .ok (.getfield 27, 3) := by decide +kernel
theorem dX4_takeStack_64 : decode cX4_takeStack 64 = .ok (.iconst 0, 1) := by decide +kernel
theorem dX4_takeStack_65 : decode cX4_takeStack 65 = .ok (.aload_n 0, 1) := by decide +kernel
theorem dX4_takeStack_66 : decode cX4_takeStack 66 = .ok (.getfield 27, 3) := by decide +kernel
theorem dX4_takeStack_69 : decode cX4_takeStack 69 = .ok (.iconst 0, 1) := by decide +kernel
theorem dX4_takeStack_70 : decode cX4_takeStack 70 = .ok (.bipush 30, 2) := by decide +kernel
theorem dX4_takeStack_72 : decode cX4_takeStack 72 = .ok (.invokestatic 47, 3) := by decide +kernel
theorem dX4_takeStack_75 : decode cX4_takeStack 75 = .ok (.aload_n 1, 1) := by decide +kernel
theorem dX4_takeStack_76 : decode cX4_takeStack 76 = .ok (.getfield 30, 3) := by decide +kernel
theorem dX4_takeStack_79 : decode cX4_takeStack 79 = .ok (.iconst 0, 1) := by decide +kernel
theorem dX4_takeStack_80 : decode cX4_takeStack 80 = .ok (.aload_n 0, 1) := by decide +kernel
theorem dX4_takeStack_81 : decode cX4_takeStack 81 = .ok (.getfield 30, 3) := by decide +kernel
theorem dX4_takeStack_84 : decode cX4_takeStack 84 = .ok (.iconst 0, 1) := by decide +kernel
theorem dX4_takeStack_85 : decode cX4_takeStack 85 = .ok (.bipush 30, 2) := by decide +kernel
theorem dX4_takeStack_87 : decode cX4_takeStack 87 = .ok (.invokestatic 47, 3) := by decide +kernel
theorem dX4_takeStack_90 : decode cX4_takeStack 90 = .ok (.aload_n 1, 1) := by decide +kernel
theorem dX4_takeStack_91 : decode cX4_takeStack 91 = .ok (.getfield 33, 3) := by decide +kernel
theorem dX4_takeStack_94 : decode cX4_takeStack 94 = .ok (.iconst 0, 1) := by decide +kernel
theorem dX4_takeStack_95 : decode cX4_takeStack 95 = .ok (.aload_n 0, 1) := by decide +kernel
theorem dX4_takeStack_96 : decode cX4_takeStack 96 = .ok (.getfield 33, 3) := by decide +kernel
theorem dX4_takeStack_99 : decode cX4_takeStack 99 = .ok (.iconst 0, 1) := by decide +kernel
theorem dX4_takeStack_100 : decode cX4_takeStack 100 = .ok (.aload_n 0, 1) := by decide +kernel
theorem dX4_takeStack_101 : decode cX4_takeStack 101 = .ok (.getfield 33, 3) := by decide +kernel
theorem dX4_takeStack_104 : decode cX4_takeStack 104 = .ok (.arraylength, 1) := by decide +kernel
theorem dX4_takeStack_105 : decode cX4_takeStack 105 = .ok (.invokestatic 47, 3) := by decide +kernel
theorem dX4_takeStack_108 : decode cX4_takeStack 108 = .ok (.aload_n 0, 1) := by decide +kernel
theorem dX4_takeStack_109 : decode cX4_takeStack 109 = .ok (.aload_n 1, 1) := by decide +kernel
theorem dX4_takeStack_110 : decode cX4_takeStack 110 = .ok (.getfield 53, 3) := by decide +kernel
theorem dX4_takeStack_113 : decode cX4_takeStack 113 = .ok (.putfield 53, 3) := by decide +kernel
theorem dX4_takeStack_116 : decode cX4_takeStack 116 = .ok (.return_, 1) := by decide +kernel
theorem dX4_takeAll_0 : decode cX4_takeAll 0 = .ok (.aload_n 0, 1) := by decide +kernel
theorem dX4_takeAll_1 : decode cX4_takeAll 1 = .ok (.aload_n 1, 1) := by decide +kernel
theorem dX4_takeAll_2 : decode cX4_takeAll 2 = .ok (.invokevirtual 56, 3) := by decide +kernel
theorem dX4_takeAll_5 : decode cX4_takeAll 5 = .ok (.aload_n 1, 1) := by decide +kernel
theorem dX4_takeAll_6 : decode cX4_takeAll 6 = .ok (.getfield 15, 3) := by decide +kernel
theorem dX4_takeAll_9 : decode cX4_takeAll 9 = .ok (.iconst 0, 1) := by decide +kernel
theorem dX4_takeAll_10 : decode cX4_takeAll 10 = .ok (.aload_n 0, 1) := by decide +kernel
theorem dX4_takeAll_11 : decode cX4_takeAll 11 = .ok (.getfield 15, 3) := by decide +kernel
theorem dX4_takeAll_14 : decode cX4_takeAll 14 = .ok (.iconst 0, 1) := by decide +kernel
theorem dX4_takeAll_15 : decode cX4_takeAll 15 = .ok (.bipush 6, 2) := by decide +kernel
theorem dX4_takeAll_17 : decode cX4_takeAll 17 = .ok (.invokestatic 47, 3) := by decide +kernel
theorem dX4_takeAll_20 : decode cX4_takeAll 20 = .ok (.aload_n 0, 1) := by decide +kernel
theorem dX4_takeAll_21 : decode cX4_takeAll 21 = .ok (.aload_n 1, 1) := by decide +kernel
theorem dX4_takeAll_22 : decode cX4_takeAll 22 = .ok (.getfield 39, 3) := by decide +kernel
theorem dX4_takeAll_25 : decode cX4_takeAll 25 = .ok (.putfield 39, 3) := by decide +kernel
theorem dX4_takeAll_28 : decode cX4_takeAll 28 = .ok (.return_, 1) := by decide +kernel
theorem dX4_has_0 : decode cX4_has 0 = .ok (.iload_n 1, 1) := by decide +kernel
theorem dX4_has_1 : decode cX4_has 1 = .ok (.ifCond .lt 27, 3) := by decide +kernel
theorem dX4_has_4 : decode cX4_has 4 = .ok (.iload_n 1, 1) := by decide +kernel
theorem dX4_has_5 : decode cX4_has 5 = .ok (.bipush 30, 2) := by decide +kernel
theorem dX4_has_7 : decode cX4_has 7 = .ok (.if_icmp .ge 21, 3) := by decide +kernel
theorem dX4_has_10 : decode cX4_has 10 = .ok (.iload_n 1, 1) := by decide +kernel
theorem dX4_has_11 : decode cX4_has 11 = .ok (.iconst 5, 1) := by decide +kernel
theorem dX4_has_12 : decode cX4_has 12 = .ok (.irem, 1) := by decide +kernel
theorem dX4_has_13 : decode cX4_has 13 = .ok (.aload_n 0, 1) := by decide +kernel
theorem dX4_has_14 : decode cX4_has 14 = .ok (.getfield 9, 3) := by decide +kernel
theorem dX4_has_17 : decode cX4_has 17 = .ok (.iload_n 1, 1) := by decide +kernel
theorem dX4_has_18 : decode cX4_has 18 = .ok (.iconst 5, 1) := by decide +kernel
theorem dX4_has_19 : decode cX4_has 19 = .ok (.idiv, 1) := by decide +kernel
theorem dX4_has_20 : decode cX4_has 20 = .ok (.iaload, 1) := by decide +kernel
theorem dX4_has_21 : decode cX4_has 21 = .ok (.if_icmp .ge 7, 3) := by decide +kernel
theorem dX4_has_24 : decode cX4_has 24 = .ok (.iconst 1, 1) := by decide +kernel
theorem dX4_has_25 : decode cX4_has 25 = .ok (.goto 4, 3) := by decide +kernel
theorem dX4_has_28 : decode cX4_has 28 = .ok (.iconst 0, 1) := by decide +kernel
theorem dX4_has_29 : decode cX4_has 29 = .ok (.ireturn, 1) := by decide +kernel
theorem dX4_cells_0 : decode cX4_cells 0 = .ok (.iconst 0, 1) := by decide +kernel
theorem dX4_cells_1 : decode cX4_cells 1 = .ok (.istore_n 1, 1) := by decide +kernel
theorem dX4_cells_2 : decode cX4_cells 2 = .ok (.iconst 0, 1) := by decide +kernel
theorem dX4_cells_3 : decode cX4_cells 3 = .ok (.istore_n 2, 1) := by decide +kernel
theorem dX4_cells_4 : decode cX4_cells 4 = .ok (.iload_n 2, 1) := by decide +kernel
theorem dX4_cells_5 : decode cX4_cells 5 = .ok (.bipush 6, 2) := by decide +kernel
theorem dX4_cells_7 : decode cX4_cells 7 = .ok (.if_icmp .ge 18, 3) := by decide +kernel
theorem dX4_cells_10 : decode cX4_cells 10 = .ok (.iload_n 1, 1) := by decide +kernel
theorem dX4_cells_11 : decode cX4_cells 11 = .ok (.aload_n 0, 1) := by decide +kernel
theorem dX4_cells_12 : decode cX4_cells 12 = .ok (.getfield 9, 3) := by decide +kernel
theorem dX4_cells_15 : decode cX4_cells 15 = .ok (.iload_n 2, 1) := by decide +kernel
theorem dX4_cells_16 : decode cX4_cells 16 = .ok (.iaload, 1) := by decide +kernel
theorem dX4_cells_17 : decode cX4_cells 17 = .ok (.iadd, 1) := by decide +kernel
theorem dX4_cells_18 : decode cX4_cells 18 = .ok (.istore_n 1, 1) := by decide +kernel
theorem dX4_cells_19 : decode cX4_cells 19 = .ok (.iinc 2 1, 3) := by decide +kernel
theorem dX4_cells_22 : decode cX4_cells 22 = .ok (.goto (-18), 3) := by decide +kernel
theorem dX4_cells_25 : decode cX4_cells 25 = .ok (.iload_n 1, 1) := by decide +kernel
theorem dX4_cells_26 : decode cX4_cells 26 = .ok (.ireturn, 1) := by decide +kernel
theorem dX4_numberOf_0 : decode cX4_numberOf 0 = .ok (.iload_n 2, 1) := by decide +kernel
theorem dX4_numberOf_1 : decode cX4_numberOf 1 = .ok (.tableswitch 90 0 6 #[43, 50, 57, 64, 71, 78, 85], 43) := by decide +kernel
theorem dX4_numberOf_44 : decode cX4_numberOf 44 = .ok (.aload_n 0, 1) := by decide +kernel
theorem dX4_numberOf_45 : decode cX4_numberOf 45 = .ok (.getfield 18, 3) := by decide +kernel
theorem dX4_numberOf_48 : decode cX4_numberOf 48 = .ok (.iload_n 1, 1) := by decide +kernel
theorem dX4_numberOf_49 : decode cX4_numberOf 49 = .ok (.iaload, 1) := by decide +kernel
theorem dX4_numberOf_50 : decode cX4_numberOf 50 = .ok (.ireturn, 1) := by decide +kernel
theorem dX4_numberOf_51 : decode cX4_numberOf 51 = .ok (.aload_n 0, 1) := by decide +kernel
theorem dX4_numberOf_52 : decode cX4_numberOf 52 = .ok (.getfield 21, 3) := by decide +kernel
theorem dX4_numberOf_55 : decode cX4_numberOf 55 = .ok (.iload_n 1, 1) := by decide +kernel
theorem dX4_numberOf_56 : decode cX4_numberOf 56 = .ok (.iaload, 1) := by decide +kernel
theorem dX4_numberOf_57 : decode cX4_numberOf 57 = .ok (.ireturn, 1) := by decide +kernel
theorem dX4_numberOf_58 : decode cX4_numberOf 58 = .ok (.aload_n 0, 1) := by decide +kernel
theorem dX4_numberOf_59 : decode cX4_numberOf 59 = .ok (.getfield 24, 3) := by decide +kernel
theorem dX4_numberOf_62 : decode cX4_numberOf 62 = .ok (.iload_n 1, 1) := by decide +kernel
theorem dX4_numberOf_63 : decode cX4_numberOf 63 = .ok (.iaload, 1) := by decide +kernel
theorem dX4_numberOf_64 : decode cX4_numberOf 64 = .ok (.ireturn, 1) := by decide +kernel
theorem dX4_numberOf_65 : decode cX4_numberOf 65 = .ok (.aload_n 0, 1) := by decide +kernel
theorem dX4_numberOf_66 : decode cX4_numberOf 66 = .ok (.getfield 27, 3) := by decide +kernel
theorem dX4_numberOf_69 : decode cX4_numberOf 69 = .ok (.iload_n 1, 1) := by decide +kernel
theorem dX4_numberOf_70 : decode cX4_numberOf 70 = .ok (.iaload, 1) := by decide +kernel
theorem dX4_numberOf_71 : decode cX4_numberOf 71 = .ok (.ireturn, 1) := by decide +kernel
theorem dX4_numberOf_72 : decode cX4_numberOf 72 = .ok (.aload_n 0, 1) := by decide +kernel
theorem dX4_numberOf_73 : decode cX4_numberOf 73 = .ok (.getfield 30, 3) := by decide +kernel
theorem dX4_numberOf_76 : decode cX4_numberOf 76 = .ok (.iload_n 1, 1) := by decide +kernel
theorem dX4_numberOf_77 : decode cX4_numberOf 77 = .ok (.iaload, 1) := by decide +kernel
theorem dX4_numberOf_78 : decode cX4_numberOf 78 = .ok (.ireturn, 1) := by decide +kernel
theorem dX4_numberOf_79 : decode cX4_numberOf 79 = .ok (.aload_n 0, 1) := by decide +kernel
theorem dX4_numberOf_80 : decode cX4_numberOf 80 = .ok (.getfield 15, 3) := by decide +kernel
theorem dX4_numberOf_83 : decode cX4_numberOf 83 = .ok (.iload_n 1, 1) := by decide +kernel
theorem dX4_numberOf_84 : decode cX4_numberOf 84 = .ok (.iaload, 1) := by decide +kernel
theorem dX4_numberOf_85 : decode cX4_numberOf 85 = .ok (.ireturn, 1) := by decide +kernel
theorem dX4_numberOf_86 : decode cX4_numberOf 86 = .ok (.aload_n 0, 1) := by decide +kernel
theorem dX4_numberOf_87 : decode cX4_numberOf 87 = .ok (.getfield 39, 3) := by decide +kernel
theorem dX4_numberOf_90 : decode cX4_numberOf 90 = .ok (.ireturn, 1) := by decide +kernel
theorem dX4_numberOf_91 : decode cX4_numberOf 91 = .ok (.aload_n 0, 1) := by decide +kernel
theorem dX4_numberOf_92 : decode cX4_numberOf 92 = .ok (.getfield 53, 3) := by decide +kernel
theorem dX4_numberOf_95 : decode cX4_numberOf 95 = .ok (.ireturn, 1) := by decide +kernel
theorem dX4_tell_0 : decode cX4_tell 0 = .ok (.iload_n 2, 1) := by decide +kernel
theorem dX4_tell_1 : decode cX4_tell 1 = .ok (.tableswitch 111 0 6 #[43, 53, 63, 73, 83, 93, 103], 43) := by decide +kernel
theorem dX4_tell_44 : decode cX4_tell 44 = .ok (.aload_n 0, 1) := by decide +kernel
theorem dX4_tell_45 : decode cX4_tell 45 = .ok (.getfield 18, 3) := by decide +kernel
theorem dX4_tell_48 : decode cX4_tell 48 = .ok (.iload_n 1, 1) := by decide +kernel
theorem dX4_tell_49 : decode cX4_tell 49 = .ok (.iload_n 3, 1) := by decide +kernel
theorem dX4_tell_50 : decode cX4_tell 50 = .ok (.iastore, 1) := by decide +kernel
theorem dX4_tell_51 : decode cX4_tell 51 = .ok (.goto 66, 3) := by decide +kernel
theorem dX4_tell_54 : decode cX4_tell 54 = .ok (.aload_n 0, 1) := by decide +kernel
theorem dX4_tell_55 : decode cX4_tell 55 = .ok (.getfield 21, 3) := by decide +kernel
theorem dX4_tell_58 : decode cX4_tell 58 = .ok (.iload_n 1, 1) := by decide +kernel
theorem dX4_tell_59 : decode cX4_tell 59 = .ok (.iload_n 3, 1) := by decide +kernel
theorem dX4_tell_60 : decode cX4_tell 60 = .ok (.iastore, 1) := by decide +kernel
theorem dX4_tell_61 : decode cX4_tell 61 = .ok (.goto 56, 3) := by decide +kernel
theorem dX4_tell_64 : decode cX4_tell 64 = .ok (.aload_n 0, 1) := by decide +kernel
theorem dX4_tell_65 : decode cX4_tell 65 = .ok (.getfield 24, 3) := by decide +kernel
theorem dX4_tell_68 : decode cX4_tell 68 = .ok (.iload_n 1, 1) := by decide +kernel
theorem dX4_tell_69 : decode cX4_tell 69 = .ok (.iload_n 3, 1) := by decide +kernel
theorem dX4_tell_70 : decode cX4_tell 70 = .ok (.iastore, 1) := by decide +kernel
theorem dX4_tell_71 : decode cX4_tell 71 = .ok (.goto 46, 3) := by decide +kernel
theorem dX4_tell_74 : decode cX4_tell 74 = .ok (.aload_n 0, 1) := by decide +kernel
theorem dX4_tell_75 : decode cX4_tell 75 = .ok (.getfield 27, 3) := by decide +kernel
theorem dX4_tell_78 : decode cX4_tell 78 = .ok (.iload_n 1, 1) := by decide +kernel
theorem dX4_tell_79 : decode cX4_tell 79 = .ok (.iload_n 3, 1) := by decide +kernel
theorem dX4_tell_80 : decode cX4_tell 80 = .ok (.iastore, 1) := by decide +kernel
theorem dX4_tell_81 : decode cX4_tell 81 = .ok (.goto 36, 3) := by decide +kernel
theorem dX4_tell_84 : decode cX4_tell 84 = .ok (.aload_n 0, 1) := by decide +kernel
theorem dX4_tell_85 : decode cX4_tell 85 = .ok (.getfield 30, 3) := by decide +kernel
theorem dX4_tell_88 : decode cX4_tell 88 = .ok (.iload_n 1, 1) := by decide +kernel
theorem dX4_tell_89 : decode cX4_tell 89 = .ok (.iload_n 3, 1) := by decide +kernel
theorem dX4_tell_90 : decode cX4_tell 90 = .ok (.iastore, 1) := by decide +kernel
theorem dX4_tell_91 : decode cX4_tell 91 = .ok (.goto 26, 3) := by decide +kernel
theorem dX4_tell_94 : decode cX4_tell 94 = .ok (.aload_n 0, 1) := by decide +kernel
theorem dX4_tell_95 : decode cX4_tell 95 = .ok (.getfield 15, 3) := by decide +kernel
theorem dX4_tell_98 : decode cX4_tell 98 = .ok (.iload_n 1, 1) := by decide +kernel
theorem dX4_tell_99 : decode cX4_tell 99 = .ok (.iload_n 3, 1) := by decide +kernel
theorem dX4_tell_100 : decode cX4_tell 100 = .ok (.iastore, 1) := by decide +kernel
theorem dX4_tell_101 : decode cX4_tell 101 = .ok (.goto 16, 3) := by decide +kernel
theorem dX4_tell_104 : decode cX4_tell 104 = .ok (.aload_n 0, 1) := by decide +kernel
theorem dX4_tell_105 : decode cX4_tell 105 = .ok (.iload_n 3, 1) := by decide +kernel
theorem dX4_tell_106 : decode cX4_tell 106 = .ok (.putfield 39, 3) := by decide +kernel
theorem dX4_tell_109 : decode cX4_tell 109 = .ok (.goto 8, 3) := by decide +kernel
theorem dX4_tell_112 : decode cX4_tell 112 = .ok (.aload_n 0, 1) := by decide +kernel
theorem dX4_tell_113 : decode cX4_tell 113 = .ok (.iload_n 3, 1) := by decide +kernel
theorem dX4_tell_114 : decode cX4_tell 114 = .ok (.putfield 53, 3) := by decide +kernel
theorem dX4_tell_117 : decode cX4_tell 117 = .ok (.return_, 1) := by decide +kernel
theorem dX4_pileOn_0 : decode cX4_pileOn 0 = .ok (.aload_n 0, 1) := by decide +kernel
theorem dX4_pileOn_1 : decode cX4_pileOn 1 = .ok (.getfield 9, 3) := by decide +kernel
theorem dX4_pileOn_4 : decode cX4_pileOn 4 = .ok (.iload_n 1, 1) := by decide +kernel
theorem dX4_pileOn_5 : decode cX4_pileOn 5 = .ok (.iaload, 1) := by decide +kernel
theorem dX4_pileOn_6 : decode cX4_pileOn 6 = .ok (.iconst 5, 1) := by decide +kernel
theorem dX4_pileOn_7 : decode cX4_pileOn 7 = .ok (.if_icmp .lt 6, 3) := by decide +kernel
theorem dX4_pileOn_10 : decode cX4_pileOn 10 = .ok (.bipush (-3), 2) := by decide +kernel
theorem dX4_pileOn_12 : decode cX4_pileOn 12 = .ok (.ireturn, 1) := by decide +kernel
theorem dX4_pileOn_13 : decode cX4_pileOn 13 = .ok (.iload_n 1, 1) := by decide +kernel
theorem dX4_pileOn_14 : decode cX4_pileOn 14 = .ok (.iconst 5, 1) := by decide +kernel
theorem dX4_pileOn_15 : decode cX4_pileOn 15 = .ok (.imul, 1) := by decide +kernel
theorem dX4_pileOn_16 : decode cX4_pileOn 16 = .ok (.aload_n 0, 1) := by decide +kernel
theorem dX4_pileOn_17 : decode cX4_pileOn 17 = .ok (.getfield 9, 3) := by decide +kernel
theorem dX4_pileOn_20 : decode cX4_pileOn 20 = .ok (.iload_n 1, 1) := by decide +kernel
theorem dX4_pileOn_21 : decode cX4_pileOn 21 = .ok (.iaload, 1) := by decide +kernel
theorem dX4_pileOn_22 : decode cX4_pileOn 22 = .ok (.iadd, 1) := by decide +kernel
theorem dX4_pileOn_23 : decode cX4_pileOn 23 = .ok (.istore 4, 2) := by decide +kernel
theorem dX4_pileOn_25 : decode cX4_pileOn 25 = .ok (.aload_n 0, 1) := by decide +kernel
theorem dX4_pileOn_26 : decode cX4_pileOn 26 = .ok (.getfield 18, 3) := by decide +kernel
theorem dX4_pileOn_29 : decode cX4_pileOn 29 = .ok (.iload 4, 2) := by decide +kernel
theorem dX4_pileOn_31 : decode cX4_pileOn 31 = .ok (.iload_n 2, 1) := by decide +kernel
theorem dX4_pileOn_32 : decode cX4_pileOn 32 = .ok (.iastore, 1) := by decide +kernel
theorem dX4_pileOn_33 : decode cX4_pileOn 33 = .ok (.aload_n 0, 1) := by decide +kernel
theorem dX4_pileOn_34 : decode cX4_pileOn 34 = .ok (.getfield 21, 3) := by decide +kernel
theorem dX4_pileOn_37 : decode cX4_pileOn 37 = .ok (.iload 4, 2) := by decide +kernel
theorem dX4_pileOn_39 : decode cX4_pileOn 39 = .ok (.bipush 20, 2) := by decide +kernel
theorem dX4_pileOn_41 : decode cX4_pileOn 41 = .ok (.iastore, 1) := by decide +kernel
theorem dX4_pileOn_42 : decode cX4_pileOn 42 = .ok (.aload_n 0, 1) := by decide +kernel
theorem dX4_pileOn_43 : decode cX4_pileOn 43 = .ok (.getfield 24, 3) := by decide +kernel
theorem dX4_pileOn_46 : decode cX4_pileOn 46 = .ok (.iload 4, 2) := by decide +kernel
theorem dX4_pileOn_48 : decode cX4_pileOn 48 = .ok (.bipush 99, 2) := by decide +kernel
theorem dX4_pileOn_50 : decode cX4_pileOn 50 = .ok (.iastore, 1) := by decide +kernel
theorem dX4_pileOn_51 : decode cX4_pileOn 51 = .ok (.aload_n 0, 1) := by decide +kernel
theorem dX4_pileOn_52 : decode cX4_pileOn 52 = .ok (.getfield 27, 3) := by decide +kernel
theorem dX4_pileOn_55 : decode cX4_pileOn 55 = .ok (.iload 4, 2) := by decide +kernel
theorem dX4_pileOn_57 : decode cX4_pileOn 57 = .ok (.iconst 0, 1) := by decide +kernel
theorem dX4_pileOn_58 : decode cX4_pileOn 58 = .ok (.iastore, 1) := by decide +kernel
theorem dX4_pileOn_59 : decode cX4_pileOn 59 = .ok (.aload_n 0, 1) := by decide +kernel
theorem dX4_pileOn_60 : decode cX4_pileOn 60 = .ok (.getfield 30, 3) := by decide +kernel
theorem dX4_pileOn_63 : decode cX4_pileOn 63 = .ok (.iload 4, 2) := by decide +kernel
theorem dX4_pileOn_65 : decode cX4_pileOn 65 = .ok (.iload_n 3, 1) := by decide +kernel
theorem dX4_pileOn_66 : decode cX4_pileOn 66 = .ok (.iastore, 1) := by decide +kernel
theorem dX4_pileOn_67 : decode cX4_pileOn 67 = .ok (.aload_n 0, 1) := by decide +kernel
theorem dX4_pileOn_68 : decode cX4_pileOn 68 = .ok (.getfield 9, 3) := by decide +kernel
theorem dX4_pileOn_71 : decode cX4_pileOn 71 = .ok (.iload_n 1, 1) := by decide +kernel
theorem dX4_pileOn_72 : decode cX4_pileOn 72 = .ok (.dup2, 1) := by decide +kernel
theorem dX4_pileOn_73 : decode cX4_pileOn 73 = .ok (.iaload, 1) := by decide +kernel
theorem dX4_pileOn_74 : decode cX4_pileOn 74 = .ok (.iconst 1, 1) := by decide +kernel
theorem dX4_pileOn_75 : decode cX4_pileOn 75 = .ok (.iadd, 1) := by decide +kernel
theorem dX4_pileOn_76 : decode cX4_pileOn 76 = .ok (.iastore, 1) := by decide +kernel
theorem dX4_pileOn_77 : decode cX4_pileOn 77 = .ok (.iload 4, 2) := by decide +kernel
theorem dX4_pileOn_79 : decode cX4_pileOn 79 = .ok (.ireturn, 1) := by decide +kernel
theorem dX4_turnColumn_0 : decode cX4_turnColumn 0 = .ok (.iconst 0, 1) := by decide +kernel
theorem dX4_turnColumn_1 : decode cX4_turnColumn 1 = .ok (.istore_n 2, 1) := by decide +kernel
theorem dX4_turnColumn_2 : decode cX4_turnColumn 2 = .ok (.iload_n 2, 1) := by decide +kernel
theorem dX4_turnColumn_3 : decode cX4_turnColumn 3 = .ok (.aload_n 0, 1) := by decide +kernel
theorem dX4_turnColumn_4 : decode cX4_turnColumn 4 = .ok (.getfield 9, 3) := by decide +kernel
theorem dX4_turnColumn_7 : decode cX4_turnColumn 7 = .ok (.iload_n 1, 1) := by decide +kernel
theorem dX4_turnColumn_8 : decode cX4_turnColumn 8 = .ok (.iaload, 1) := by decide +kernel
theorem dX4_turnColumn_9 : decode cX4_turnColumn 9 = .ok (.if_icmp .ge 41, 3) := by decide +kernel
theorem dX4_turnColumn_12 : decode cX4_turnColumn 12 = .ok (.iload_n 1, 1) := by decide +kernel
theorem dX4_turnColumn_13 : decode cX4_turnColumn 13 = .ok (.iconst 5, 1) := by decide +kernel
theorem dX4_turnColumn_14 : decode cX4_turnColumn 14 = .ok (.imul, 1) := by decide +kernel
theorem dX4_turnColumn_15 : decode cX4_turnColumn 15 = .ok (.iload_n 2, 1) := by decide +kernel
theorem dX4_turnColumn_16 : decode cX4_turnColumn 16 = .ok (.iadd, 1) := by decide +kernel
theorem dX4_turnColumn_17 : decode cX4_turnColumn 17 = .ok (.istore_n 3, 1) := by decide +kernel
theorem dX4_turnColumn_18 : decode cX4_turnColumn 18 = .ok (.aload_n 0, 1) := by decide +kernel
theorem dX4_turnColumn_19 : decode cX4_turnColumn 19 = .ok (.getfield 21, 3) := by decide +kernel
theorem dX4_turnColumn_22 : decode cX4_turnColumn 22 = .ok (.iload_n 3, 1) := by decide +kernel
theorem dX4_turnColumn_23 : decode cX4_turnColumn 23 = .ok (.bipush 20, 2) := by decide +kernel
theorem dX4_turnColumn_25 : decode cX4_turnColumn 25 = .ok (.iastore, 1) := by decide +kernel
theorem dX4_turnColumn_26 : decode cX4_turnColumn 26 = .ok (.aload_n 0, 1) := by decide +kernel
theorem dX4_turnColumn_27 : decode cX4_turnColumn 27 = .ok (.getfield 18, 3) := by decide +kernel
theorem dX4_turnColumn_30 : decode cX4_turnColumn 30 = .ok (.iload_n 3, 1) := by decide +kernel
theorem dX4_turnColumn_31 : decode cX4_turnColumn 31 = .ok (.iconst 0, 1) := by decide +kernel
theorem dX4_turnColumn_32 : decode cX4_turnColumn 32 = .ok (.aload_n 0, 1) := by decide +kernel
theorem dX4_turnColumn_33 : decode cX4_turnColumn 33 = .ok (.getfield 18, 3) := by decide +kernel
theorem dX4_turnColumn_36 : decode cX4_turnColumn 36 = .ok (.iload_n 3, 1) := by decide +kernel
theorem dX4_turnColumn_37 : decode cX4_turnColumn 37 = .ok (.iaload, 1) := by decide +kernel
theorem dX4_turnColumn_38 : decode cX4_turnColumn 38 = .ok (.iconst 1, 1) := by decide +kernel
theorem dX4_turnColumn_39 : decode cX4_turnColumn 39 = .ok (.isub, 1) := by decide +kernel
theorem dX4_turnColumn_40 : decode cX4_turnColumn 40 = .ok (.invokestatic 60, 3) := by decide +kernel
theorem dX4_turnColumn_43 : decode cX4_turnColumn 43 = .ok (.iastore, 1) := by decide +kernel
theorem dX4_turnColumn_44 : decode cX4_turnColumn 44 = .ok (.iinc 2 1, 3) := by decide +kernel
theorem dX4_turnColumn_47 : decode cX4_turnColumn 47 = .ok (.goto (-45), 3) := by decide +kernel
theorem dX4_turnColumn_50 : decode cX4_turnColumn 50 = .ok (.return_, 1) := by decide +kernel
theorem dX4_wetColumn_0 : decode cX4_wetColumn 0 = .ok (.aload_n 0, 1) := by decide +kernel
theorem dX4_wetColumn_1 : decode cX4_wetColumn 1 = .ok (.getfield 9, 3) := by decide +kernel
theorem dX4_wetColumn_4 : decode cX4_wetColumn 4 = .ok (.iload_n 1, 1) := by decide +kernel
theorem dX4_wetColumn_5 : decode cX4_wetColumn 5 = .ok (.iaload, 1) := by decide +kernel
theorem dX4_wetColumn_6 : decode cX4_wetColumn 6 = .ok (.ifCond .le 35, 3) := by decide +kernel
theorem dX4_wetColumn_9 : decode cX4_wetColumn 9 = .ok (.iload_n 1, 1) := by decide +kernel
theorem dX4_wetColumn_10 : decode cX4_wetColumn 10 = .ok (.iconst 5, 1) := by decide +kernel
theorem dX4_wetColumn_11 : decode cX4_wetColumn 11 = .ok (.imul, 1) := by decide +kernel
theorem dX4_wetColumn_12 : decode cX4_wetColumn 12 = .ok (.aload_n 0, 1) := by decide +kernel
theorem dX4_wetColumn_13 : decode cX4_wetColumn 13 = .ok (.getfield 9, 3) := by decide +kernel
theorem dX4_wetColumn_16 : decode cX4_wetColumn 16 = .ok (.iload_n 1, 1) := by decide +kernel
theorem dX4_wetColumn_17 : decode cX4_wetColumn 17 = .ok (.iaload, 1) := by decide +kernel
theorem dX4_wetColumn_18 : decode cX4_wetColumn 18 = .ok (.iadd, 1) := by decide +kernel
theorem dX4_wetColumn_19 : decode cX4_wetColumn 19 = .ok (.iconst 1, 1) := by decide +kernel
theorem dX4_wetColumn_20 : decode cX4_wetColumn 20 = .ok (.isub, 1) := by decide +kernel
theorem dX4_wetColumn_21 : decode cX4_wetColumn 21 = .ok (.istore_n 2, 1) := by decide +kernel
theorem dX4_wetColumn_22 : decode cX4_wetColumn 22 = .ok (.aload_n 0, 1) := by decide +kernel
theorem dX4_wetColumn_23 : decode cX4_wetColumn 23 = .ok (.getfield 18, 3) := by decide +kernel
theorem dX4_wetColumn_26 : decode cX4_wetColumn 26 = .ok (.iload_n 2, 1) := by decide +kernel
theorem dX4_wetColumn_27 : decode cX4_wetColumn 27 = .ok (.bipush 9, 2) := by decide +kernel
theorem dX4_wetColumn_29 : decode cX4_wetColumn 29 = .ok (.aload_n 0, 1) := by decide +kernel
theorem dX4_wetColumn_30 : decode cX4_wetColumn 30 = .ok (.getfield 18, 3) := by decide +kernel
theorem dX4_wetColumn_33 : decode cX4_wetColumn 33 = .ok (.iload_n 2, 1) := by decide +kernel
theorem dX4_wetColumn_34 : decode cX4_wetColumn 34 = .ok (.iaload, 1) := by decide +kernel
theorem dX4_wetColumn_35 : decode cX4_wetColumn 35 = .ok (.iconst 2, 1) := by decide +kernel
theorem dX4_wetColumn_36 : decode cX4_wetColumn 36 = .ok (.iadd, 1) := by decide +kernel
theorem dX4_wetColumn_37 : decode cX4_wetColumn 37 = .ok (.invokestatic 66, 3) := by decide +kernel
theorem dX4_wetColumn_40 : decode cX4_wetColumn 40 = .ok (.iastore, 1) := by decide +kernel
theorem dX4_wetColumn_41 : decode cX4_wetColumn 41 = .ok (.return_, 1) := by decide +kernel
theorem dX4_isBeyond_0 : decode cX4_isBeyond 0 = .ok (.iload_n 1, 1) := by decide +kernel
theorem dX4_isBeyond_1 : decode cX4_isBeyond 1 = .ok (.ifCond .lt 19, 3) := by decide +kernel
theorem dX4_isBeyond_4 : decode cX4_isBeyond 4 = .ok (.iload_n 1, 1) := by decide +kernel
theorem dX4_isBeyond_5 : decode cX4_isBeyond 5 = .ok (.bipush 6, 2) := by decide +kernel
theorem dX4_isBeyond_7 : decode cX4_isBeyond 7 = .ok (.if_icmp .ge 13, 3) := by decide +kernel
theorem dX4_isBeyond_10 : decode cX4_isBeyond 10 = .ok (.iload_n 2, 1) := by decide +kernel
theorem dX4_isBeyond_11 : decode cX4_isBeyond 11 = .ok (.aload_n 0, 1) := by decide +kernel
theorem dX4_isBeyond_12 : decode cX4_isBeyond 12 = .ok (.getfield 9, 3) := by decide +kernel
theorem dX4_isBeyond_15 : decode cX4_isBeyond 15 = .ok (.iload_n 1, 1) := by decide +kernel
theorem dX4_isBeyond_16 : decode cX4_isBeyond 16 = .ok (.iaload, 1) := by decide +kernel
theorem dX4_isBeyond_17 : decode cX4_isBeyond 17 = .ok (.if_icmp .lt 7, 3) := by decide +kernel
theorem dX4_isBeyond_20 : decode cX4_isBeyond 20 = .ok (.iconst 1, 1) := by decide +kernel
theorem dX4_isBeyond_21 : decode cX4_isBeyond 21 = .ok (.goto 4, 3) := by decide +kernel
theorem dX4_isBeyond_24 : decode cX4_isBeyond 24 = .ok (.iconst 0, 1) := by decide +kernel
theorem dX4_isBeyond_25 : decode cX4_isBeyond 25 = .ok (.ireturn, 1) := by decide +kernel
theorem dX4_airOf_0 : decode cX4_airOf 0 = .ok (.iload_n 1, 1) := by decide +kernel
theorem dX4_airOf_1 : decode cX4_airOf 1 = .ok (.iconst 5, 1) := by decide +kernel
theorem dX4_airOf_2 : decode cX4_airOf 2 = .ok (.idiv, 1) := by decide +kernel
theorem dX4_airOf_3 : decode cX4_airOf 3 = .ok (.istore_n 2, 1) := by decide +kernel
theorem dX4_airOf_4 : decode cX4_airOf 4 = .ok (.iload_n 1, 1) := by decide +kernel
theorem dX4_airOf_5 : decode cX4_airOf 5 = .ok (.iconst 5, 1) := by decide +kernel
theorem dX4_airOf_6 : decode cX4_airOf 6 = .ok (.irem, 1) := by decide +kernel
theorem dX4_airOf_7 : decode cX4_airOf 7 = .ok (.istore_n 3, 1) := by decide +kernel
theorem dX4_airOf_8 : decode cX4_airOf 8 = .ok (.iconst 2, 1) := by decide +kernel
theorem dX4_airOf_9 : decode cX4_airOf 9 = .ok (.aload_n 0, 1) := by decide +kernel
theorem dX4_airOf_10 : decode cX4_airOf 10 = .ok (.getfield 15, 3) := by decide +kernel
theorem dX4_airOf_13 : decode cX4_airOf 13 = .ok (.iload_n 2, 1) := by decide +kernel
theorem dX4_airOf_14 : decode cX4_airOf 14 = .ok (.iaload, 1) := by decide +kernel
theorem dX4_airOf_15 : decode cX4_airOf 15 = .ok (.imul, 1) := by decide +kernel
theorem dX4_airOf_16 : decode cX4_airOf 16 = .ok (.istore 4, 2) := by decide +kernel
theorem dX4_airOf_18 : decode cX4_airOf 18 = .ok (.aload_n 0, 1) := by decide +kernel
theorem dX4_airOf_19 : decode cX4_airOf 19 = .ok (.iload_n 2, 1) := by decide +kernel
theorem dX4_airOf_20 : decode cX4_airOf 20 = .ok (.iload_n 3, 1) := by decide +kernel
theorem dX4_airOf_21 : decode cX4_airOf 21 = .ok (.iconst 1, 1) := by decide +kernel
theorem dX4_airOf_22 : decode cX4_airOf 22 = .ok (.iadd, 1) := by decide +kernel
theorem dX4_airOf_23 : decode cX4_airOf 23 = .ok (.invokevirtual 69, 3) := by decide +kernel
theorem dX4_airOf_26 : decode cX4_airOf 26 = .ok (.ifCond .eq 6, 3) := by decide +kernel
theorem dX4_airOf_29 : decode cX4_airOf 29 = .ok (.iinc 4 1, 3) := by decide +kernel
theorem dX4_airOf_32 : decode cX4_airOf 32 = .ok (.aload_n 0, 1) := by decide +kernel
theorem dX4_airOf_33 : decode cX4_airOf 33 = .ok (.iload_n 2, 1) := by decide +kernel
theorem dX4_airOf_34 : decode cX4_airOf 34 = .ok (.iconst 1, 1) := by decide +kernel
theorem dX4_airOf_35 : decode cX4_airOf 35 = .ok (.isub, 1) := by decide +kernel
theorem dX4_airOf_36 : decode cX4_airOf 36 = .ok (.iload_n 3, 1) := by decide +kernel
theorem dX4_airOf_37 : decode cX4_airOf 37 = .ok (.invokevirtual 69, 3) := by decide +kernel
theorem dX4_airOf_40 : decode cX4_airOf 40 = .ok (.ifCond .eq 6, 3) := by decide +kernel
theorem dX4_airOf_43 : decode cX4_airOf 43 = .ok (.iinc 4 1, 3) := by decide +kernel
theorem dX4_airOf_46 : decode cX4_airOf 46 = .ok (.aload_n 0, 1) := by decide +kernel
theorem dX4_airOf_47 : decode cX4_airOf 47 = .ok (.iload_n 2, 1) := by decide +kernel
theorem dX4_airOf_48 : decode cX4_airOf 48 = .ok (.iconst 1, 1) := by decide +kernel
theorem dX4_airOf_49 : decode cX4_airOf 49 = .ok (.iadd, 1) := by decide +kernel
theorem dX4_airOf_50 : decode cX4_airOf 50 = .ok (.iload_n 3, 1) := by decide +kernel
theorem dX4_airOf_51 : decode cX4_airOf 51 = .ok (.invokevirtual 69, 3) := by decide +kernel
theorem dX4_airOf_54 : decode cX4_airOf 54 = .ok (.ifCond .eq 10, 3) := by decide +kernel
theorem dX4_airOf_57 : decode cX4_airOf 57 = .ok (.iload 4, 2) := by decide +kernel
theorem dX4_airOf_59 : decode cX4_airOf 59 = .ok (.iconst 1, 1) := by decide +kernel
theorem dX4_airOf_60 : decode cX4_airOf 60 = .ok (.iadd, 1) := by decide +kernel
theorem dX4_airOf_61 : decode cX4_airOf 61 = .ok (.goto 5, 3) := by decide +kernel
theorem dX4_airOf_64 : decode cX4_airOf 64 = .ok (.iload 4, 2) := by decide +kernel
theorem dX4_airOf_66 : decode cX4_airOf 66 = .ok (.ireturn, 1) := by decide +kernel
theorem dX4_meanBeside_0 : decode cX4_meanBeside 0 = .ok (.iload_n 1, 1) := by decide +kernel
theorem dX4_meanBeside_1 : decode cX4_meanBeside 1 = .ok (.iconst 5, 1) := by decide +kernel
theorem dX4_meanBeside_2 : decode cX4_meanBeside 2 = .ok (.idiv, 1) := by decide +kernel
theorem dX4_meanBeside_3 : decode cX4_meanBeside 3 = .ok (.istore_n 2, 1) := by decide +kernel
theorem dX4_meanBeside_4 : decode cX4_meanBeside 4 = .ok (.iload_n 1, 1) := by decide +kernel
theorem dX4_meanBeside_5 : decode cX4_meanBeside 5 = .ok (.iconst 5, 1) := by decide +kernel
theorem dX4_meanBeside_6 : decode cX4_meanBeside 6 = .ok (.irem, 1) := by decide +kernel
theorem dX4_meanBeside_7 : decode cX4_meanBeside 7 = .ok (.istore_n 3, 1) := by decide +kernel
theorem dX4_meanBeside_8 : decode cX4_meanBeside 8 = .ok (.iconst 0, 1) := by decide +kernel
theorem dX4_meanBeside_9 : decode cX4_meanBeside 9 = .ok (.istore 4, 2) := by decide +kernel
theorem dX4_meanBeside_11 : decode cX4_meanBeside 11 = .ok (.iconst 0, 1) := by decide +kernel
theorem dX4_meanBeside_12 : decode cX4_meanBeside 12 = .ok (.istore 5, 2) := by decide +kernel
theorem dX4_meanBeside_14 : decode cX4_meanBeside 14 = .ok (.iload_n 3, 1) := by decide +kernel
theorem dX4_meanBeside_15 : decode cX4_meanBeside 15 = .ok (.ifCond .le 19, 3) := by decide +kernel
theorem dX4_meanBeside_18 : decode cX4_meanBeside 18 = .ok (.iload 4, 2) := by decide +kernel
theorem dX4_meanBeside_20 : decode cX4_meanBeside 20 = .ok (.aload_n 0, 1) := by decide +kernel
theorem dX4_meanBeside_21 : decode cX4_meanBeside 21 = .ok (.getfield 21, 3) := by decide +kernel
theorem dX4_meanBeside_24 : decode cX4_meanBeside 24 = .ok (.iload_n 1, 1) := by decide +kernel
theorem dX4_meanBeside_25 : decode cX4_meanBeside 25 = .ok (.iconst 1, 1) := by decide +kernel
theorem dX4_meanBeside_26 : decode cX4_meanBeside 26 = .ok (.isub, 1) := by decide +kernel
theorem dX4_meanBeside_27 : decode cX4_meanBeside 27 = .ok (.iaload, 1) := by decide +kernel
theorem dX4_meanBeside_28 : decode cX4_meanBeside 28 = .ok (.iadd, 1) := by decide +kernel
theorem dX4_meanBeside_29 : decode cX4_meanBeside 29 = .ok (.istore 4, 2) := by decide +kernel
theorem dX4_meanBeside_31 : decode cX4_meanBeside 31 = .ok (.iinc 5 1, 3) := by decide +kernel
theorem dX4_meanBeside_34 : decode cX4_meanBeside 34 = .ok (.aload_n 0, 1) := by decide +kernel
theorem dX4_meanBeside_35 : decode cX4_meanBeside 35 = .ok (.iload_n 2, 1) := by decide +kernel
theorem dX4_meanBeside_36 : decode cX4_meanBeside 36 = .ok (.iload_n 3, 1) := by decide +kernel
theorem dX4_meanBeside_37 : decode cX4_meanBeside 37 = .ok (.iconst 1, 1) := by decide +kernel
theorem dX4_meanBeside_38 : decode cX4_meanBeside 38 = .ok (.iadd, 1) := by decide +kernel
theorem dX4_meanBeside_39 : decode cX4_meanBeside 39 = .ok (.invokevirtual 69, 3) := by decide +kernel
theorem dX4_meanBeside_42 : decode cX4_meanBeside 42 = .ok (.ifCond .ne 19, 3) := by decide +kernel
theorem dX4_meanBeside_45 : decode cX4_meanBeside 45 = .ok (.iload 4, 2) := by decide +kernel
theorem dX4_meanBeside_47 : decode cX4_meanBeside 47 = .ok (.aload_n 0, 1) := by decide +kernel
theorem dX4_meanBeside_48 : decode cX4_meanBeside 48 = .ok (.getfield 21, 3) := by decide +kernel
theorem dX4_meanBeside_51 : decode cX4_meanBeside 51 = .ok (.iload_n 1, 1) := by decide +kernel
theorem dX4_meanBeside_52 : decode cX4_meanBeside 52 = .ok (.iconst 1, 1) := by decide +kernel
theorem dX4_meanBeside_53 : decode cX4_meanBeside 53 = .ok (.iadd, 1) := by decide +kernel
theorem dX4_meanBeside_54 : decode cX4_meanBeside 54 = .ok (.iaload, 1) := by decide +kernel
theorem dX4_meanBeside_55 : decode cX4_meanBeside 55 = .ok (.iadd, 1) := by decide +kernel
theorem dX4_meanBeside_56 : decode cX4_meanBeside 56 = .ok (.istore 4, 2) := by decide +kernel
theorem dX4_meanBeside_58 : decode cX4_meanBeside 58 = .ok (.iinc 5 1, 3) := by decide +kernel
theorem dX4_meanBeside_61 : decode cX4_meanBeside 61 = .ok (.aload_n 0, 1) := by decide +kernel
theorem dX4_meanBeside_62 : decode cX4_meanBeside 62 = .ok (.iload_n 2, 1) := by decide +kernel
theorem dX4_meanBeside_63 : decode cX4_meanBeside 63 = .ok (.iconst 1, 1) := by decide +kernel
theorem dX4_meanBeside_64 : decode cX4_meanBeside 64 = .ok (.isub, 1) := by decide +kernel
theorem dX4_meanBeside_65 : decode cX4_meanBeside 65 = .ok (.iload_n 3, 1) := by decide +kernel
theorem dX4_meanBeside_66 : decode cX4_meanBeside 66 = .ok (.invokevirtual 69, 3) := by decide +kernel
theorem dX4_meanBeside_69 : decode cX4_meanBeside 69 = .ok (.ifCond .ne 19, 3) := by decide +kernel
theorem dX4_meanBeside_72 : decode cX4_meanBeside 72 = .ok (.iload 4, 2) := by decide +kernel
theorem dX4_meanBeside_74 : decode cX4_meanBeside 74 = .ok (.aload_n 0, 1) := by decide +kernel
theorem dX4_meanBeside_75 : decode cX4_meanBeside 75 = .ok (.getfield 21, 3) := by decide +kernel
theorem dX4_meanBeside_78 : decode cX4_meanBeside 78 = .ok (.iload_n 1, 1) := by decide +kernel
theorem dX4_meanBeside_79 : decode cX4_meanBeside 79 = .ok (.iconst 5, 1) := by decide +kernel
theorem dX4_meanBeside_80 : decode cX4_meanBeside 80 = .ok (.isub, 1) := by decide +kernel
theorem dX4_meanBeside_81 : decode cX4_meanBeside 81 = .ok (.iaload, 1) := by decide +kernel
theorem dX4_meanBeside_82 : decode cX4_meanBeside 82 = .ok (.iadd, 1) := by decide +kernel
theorem dX4_meanBeside_83 : decode cX4_meanBeside 83 = .ok (.istore 4, 2) := by decide +kernel
theorem dX4_meanBeside_85 : decode cX4_meanBeside 85 = .ok (.iinc 5 1, 3) := by decide +kernel
theorem dX4_meanBeside_88 : decode cX4_meanBeside 88 = .ok (.aload_n 0, 1) := by decide +kernel
theorem dX4_meanBeside_89 : decode cX4_meanBeside 89 = .ok (.iload_n 2, 1) := by decide +kernel
theorem dX4_meanBeside_90 : decode cX4_meanBeside 90 = .ok (.iconst 1, 1) := by decide +kernel
theorem dX4_meanBeside_91 : decode cX4_meanBeside 91 = .ok (.iadd, 1) := by decide +kernel
theorem dX4_meanBeside_92 : decode cX4_meanBeside 92 = .ok (.iload_n 3, 1) := by decide +kernel
theorem dX4_meanBeside_93 : decode cX4_meanBeside 93 = .ok (.invokevirtual 69, 3) := by decide +kernel
theorem dX4_meanBeside_96 : decode cX4_meanBeside 96 = .ok (.ifCond .ne 19, 3) := by decide +kernel
theorem dX4_meanBeside_99 : decode cX4_meanBeside 99 = .ok (.iload 4, 2) := by decide +kernel
theorem dX4_meanBeside_101 : decode cX4_meanBeside 101 = .ok (.aload_n 0, 1) := by decide +kernel
theorem dX4_meanBeside_102 : decode cX4_meanBeside 102 = .ok (.getfield 21, 3) := by decide +kernel
theorem dX4_meanBeside_105 : decode cX4_meanBeside 105 = .ok (.iload_n 1, 1) := by decide +kernel
theorem dX4_meanBeside_106 : decode cX4_meanBeside 106 = .ok (.iconst 5, 1) := by decide +kernel
theorem dX4_meanBeside_107 : decode cX4_meanBeside 107 = .ok (.iadd, 1) := by decide +kernel
theorem dX4_meanBeside_108 : decode cX4_meanBeside 108 = .ok (.iaload, 1) := by decide +kernel
theorem dX4_meanBeside_109 : decode cX4_meanBeside 109 = .ok (.iadd, 1) := by decide +kernel
theorem dX4_meanBeside_110 : decode cX4_meanBeside 110 = .ok (.istore 4, 2) := by decide +kernel
theorem dX4_meanBeside_112 : decode cX4_meanBeside 112 = .ok (.iinc 5 1, 3) := by decide +kernel
theorem dX4_meanBeside_115 : decode cX4_meanBeside 115 = .ok (.iload 5, 2) := by decide +kernel
theorem dX4_meanBeside_117 : decode cX4_meanBeside 117 = .ok (.ifCond .ne 8, 3) := by decide +kernel
theorem dX4_meanBeside_120 : decode cX4_meanBeside 120 = .ok (.bipush 20, 2) := by decide +kernel
theorem dX4_meanBeside_122 : decode cX4_meanBeside 122 = .ok (.goto 8, 3) := by decide +kernel
theorem dX4_meanBeside_125 : decode cX4_meanBeside 125 = .ok (.iload 4, 2) := by decide +kernel
theorem dX4_meanBeside_127 : decode cX4_meanBeside 127 = .ok (.iload 5, 2) := by decide +kernel
theorem dX4_meanBeside_129 : decode cX4_meanBeside 129 = .ok (.idiv, 1) := by decide +kernel
theorem dX4_meanBeside_130 : decode cX4_meanBeside 130 = .ok (.ireturn, 1) := by decide +kernel
theorem dX4_around_0 : decode cX4_around 0 = .ok (.iload_n 1, 1) := by decide +kernel
theorem dX4_around_1 : decode cX4_around 1 = .ok (.iconst 5, 1) := by decide +kernel
theorem dX4_around_2 : decode cX4_around 2 = .ok (.idiv, 1) := by decide +kernel
theorem dX4_around_3 : decode cX4_around 3 = .ok (.istore_n 2, 1) := by decide +kernel
theorem dX4_around_4 : decode cX4_around 4 = .ok (.iload_n 1, 1) := by decide +kernel
theorem dX4_around_5 : decode cX4_around 5 = .ok (.iconst 5, 1) := by decide +kernel
theorem dX4_around_6 : decode cX4_around 6 = .ok (.irem, 1) := by decide +kernel
theorem dX4_around_7 : decode cX4_around 7 = .ok (.istore_n 3, 1) := by decide +kernel
theorem dX4_around_8 : decode cX4_around 8 = .ok (.iconst 1, 1) := by decide +kernel
theorem dX4_around_9 : decode cX4_around 9 = .ok (.iload_n 1, 1) := by decide +kernel
theorem dX4_around_10 : decode cX4_around 10 = .ok (.ishl, 1) := by decide +kernel
theorem dX4_around_11 : decode cX4_around 11 = .ok (.istore 4, 2) := by decide +kernel
theorem dX4_around_13 : decode cX4_around 13 = .ok (.iload_n 3, 1) := by decide +kernel
theorem dX4_around_14 : decode cX4_around 14 = .ok (.ifCond .le 13, 3) := by decide +kernel
theorem dX4_around_17 : decode cX4_around 17 = .ok (.iload 4, 2) := by decide +kernel
theorem dX4_around_19 : decode cX4_around 19 = .ok (.iconst 1, 1) := by decide +kernel
theorem dX4_around_20 : decode cX4_around 20 = .ok (.iload_n 1, 1) := by decide +kernel
theorem dX4_around_21 : decode cX4_around 21 = .ok (.iconst 1, 1) := by decide +kernel
theorem dX4_around_22 : decode cX4_around 22 = .ok (.isub, 1) := by decide +kernel
theorem dX4_around_23 : decode cX4_around 23 = .ok (.ishl, 1) := by decide +kernel
theorem dX4_around_24 : decode cX4_around 24 = .ok (.ior, 1) := by decide +kernel
theorem dX4_around_25 : decode cX4_around 25 = .ok (.istore 4, 2) := by decide +kernel
theorem dX4_around_27 : decode cX4_around 27 = .ok (.aload_n 0, 1) := by decide +kernel
theorem dX4_around_28 : decode cX4_around 28 = .ok (.iload_n 2, 1) := by decide +kernel
theorem dX4_around_29 : decode cX4_around 29 = .ok (.iload_n 3, 1) := by decide +kernel
theorem dX4_around_30 : decode cX4_around 30 = .ok (.iconst 1, 1) := by decide +kernel
theorem dX4_around_31 : decode cX4_around 31 = .ok (.iadd, 1) := by decide +kernel
theorem dX4_around_32 : decode cX4_around 32 = .ok (.invokevirtual 69, 3) := by decide +kernel
theorem dX4_around_35 : decode cX4_around 35 = .ok (.ifCond .ne 13, 3) := by decide +kernel
theorem dX4_around_38 : decode cX4_around 38 = .ok (.iload 4, 2) := by decide +kernel
theorem dX4_around_40 : decode cX4_around 40 = .ok (.iconst 1, 1) := by decide +kernel
theorem dX4_around_41 : decode cX4_around 41 = .ok (.iload_n 1, 1) := by decide +kernel
theorem dX4_around_42 : decode cX4_around 42 = .ok (.iconst 1, 1) := by decide +kernel
theorem dX4_around_43 : decode cX4_around 43 = .ok (.iadd, 1) := by decide +kernel
theorem dX4_around_44 : decode cX4_around 44 = .ok (.ishl, 1) := by decide +kernel
theorem dX4_around_45 : decode cX4_around 45 = .ok (.ior, 1) := by decide +kernel
theorem dX4_around_46 : decode cX4_around 46 = .ok (.istore 4, 2) := by decide +kernel
theorem dX4_around_48 : decode cX4_around 48 = .ok (.aload_n 0, 1) := by decide +kernel
theorem dX4_around_49 : decode cX4_around 49 = .ok (.iload_n 2, 1) := by decide +kernel
theorem dX4_around_50 : decode cX4_around 50 = .ok (.iconst 1, 1) := by decide +kernel
theorem dX4_around_51 : decode cX4_around 51 = .ok (.isub, 1) := by decide +kernel
theorem dX4_around_52 : decode cX4_around 52 = .ok (.iload_n 3, 1) := by decide +kernel
theorem dX4_around_53 : decode cX4_around 53 = .ok (.invokevirtual 69, 3) := by decide +kernel
theorem dX4_around_56 : decode cX4_around 56 = .ok (.ifCond .ne 13, 3) := by decide +kernel
theorem dX4_around_59 : decode cX4_around 59 = .ok (.iload 4, 2) := by decide +kernel
theorem dX4_around_61 : decode cX4_around 61 = .ok (.iconst 1, 1) := by decide +kernel
theorem dX4_around_62 : decode cX4_around 62 = .ok (.iload_n 1, 1) := by decide +kernel
theorem dX4_around_63 : decode cX4_around 63 = .ok (.iconst 5, 1) := by decide +kernel
theorem dX4_around_64 : decode cX4_around 64 = .ok (.isub, 1) := by decide +kernel
theorem dX4_around_65 : decode cX4_around 65 = .ok (.ishl, 1) := by decide +kernel
theorem dX4_around_66 : decode cX4_around 66 = .ok (.ior, 1) := by decide +kernel
theorem dX4_around_67 : decode cX4_around 67 = .ok (.istore 4, 2) := by decide +kernel
theorem dX4_around_69 : decode cX4_around 69 = .ok (.aload_n 0, 1) := by decide +kernel
theorem dX4_around_70 : decode cX4_around 70 = .ok (.iload_n 2, 1) := by decide +kernel
theorem dX4_around_71 : decode cX4_around 71 = .ok (.iconst 1, 1) := by decide +kernel
theorem dX4_around_72 : decode cX4_around 72 = .ok (.iadd, 1) := by decide +kernel
theorem dX4_around_73 : decode cX4_around 73 = .ok (.iload_n 3, 1) := by decide +kernel
theorem dX4_around_74 : decode cX4_around 74 = .ok (.invokevirtual 69, 3) := by decide +kernel
theorem dX4_around_77 : decode cX4_around 77 = .ok (.ifCond .eq 8, 3) := by decide +kernel
theorem dX4_around_80 : decode cX4_around 80 = .ok (.iload 4, 2) := by decide +kernel
theorem dX4_around_82 : decode cX4_around 82 = .ok (.goto 11, 3) := by decide +kernel
theorem dX4_around_85 : decode cX4_around 85 = .ok (.iload 4, 2) := by decide +kernel
theorem dX4_around_87 : decode cX4_around 87 = .ok (.iconst 1, 1) := by decide +kernel
theorem dX4_around_88 : decode cX4_around 88 = .ok (.iload_n 1, 1) := by decide +kernel
theorem dX4_around_89 : decode cX4_around 89 = .ok (.iconst 5, 1) := by decide +kernel
theorem dX4_around_90 : decode cX4_around 90 = .ok (.iadd, 1) := by decide +kernel
theorem dX4_around_91 : decode cX4_around 91 = .ok (.ishl, 1) := by decide +kernel
theorem dX4_around_92 : decode cX4_around 92 = .ok (.ior, 1) := by decide +kernel
theorem dX4_around_93 : decode cX4_around 93 = .ok (.ireturn, 1) := by decide +kernel
theorem dX4_passDay_0 : decode cX4_passDay 0 = .ok (.iconst 0, 1) := by decide +kernel
theorem dX4_passDay_1 : decode cX4_passDay 1 = .ok (.istore_n 1, 1) := by decide +kernel
theorem dX4_passDay_2 : decode cX4_passDay 2 = .ok (.iload_n 1, 1) := by decide +kernel
theorem dX4_passDay_3 : decode cX4_passDay 3 = .ok (.bipush 30, 2) := by decide +kernel
theorem dX4_passDay_5 : decode cX4_passDay 5 = .ok (.if_icmp .ge 32, 3) := by decide +kernel
theorem dX4_passDay_8 : decode cX4_passDay 8 = .ok (.aload_n 0, 1) := by decide +kernel
theorem dX4_passDay_9 : decode cX4_passDay 9 = .ok (.iload_n 1, 1) := by decide +kernel
theorem dX4_passDay_10 : decode cX4_passDay 10 = .ok (.invokevirtual 73, 3) := by decide +kernel
theorem dX4_passDay_13 : decode cX4_passDay 13 = .ok (.ifCond .eq 18, 3) := by decide +kernel
theorem dX4_passDay_16 : decode cX4_passDay 16 = .ok (.aload_n 0, 1) := by decide +kernel
theorem dX4_passDay_17 : decode cX4_passDay 17 = .ok (.getfield 36, 3) := by decide +kernel
theorem dX4_passDay_20 : decode cX4_passDay 20 = .ok (.iload_n 1, 1) := by decide +kernel
theorem dX4_passDay_21 : decode cX4_passDay 21 = .ok (.aload_n 0, 1) := by decide +kernel
theorem dX4_passDay_22 : decode cX4_passDay 22 = .ok (.getfield 43, 3) := by decide +kernel
theorem dX4_passDay_25 : decode cX4_passDay 25 = .ok (.aload_n 0, 1) := by decide +kernel
theorem dX4_passDay_26 : decode cX4_passDay 26 = .ok (.iload_n 1, 1) := by decide +kernel
theorem dX4_passDay_27 : decode cX4_passDay 27 = .ok (.invokevirtual 77, 3) := by decide +kernel
theorem dX4_passDay_30 : decode cX4_passDay 30 = .ok (.iastore, 1) := by decide +kernel
theorem dX4_passDay_31 : decode cX4_passDay 31 = .ok (.iinc 1 1, 3) := by decide +kernel
theorem dX4_passDay_34 : decode cX4_passDay 34 = .ok (.goto (-32), 3) := by decide +kernel
theorem dX4_passDay_37 : decode cX4_passDay 37 = .ok (.iconst 0, 1) := by decide +kernel
theorem dX4_passDay_38 : decode cX4_passDay 38 = .ok (.istore_n 1, 1) := by decide +kernel
theorem dX4_passDay_39 : decode cX4_passDay 39 = .ok (.iload_n 1, 1) := by decide +kernel
theorem dX4_passDay_40 : decode cX4_passDay 40 = .ok (.bipush 30, 2) := by decide +kernel
theorem dX4_passDay_42 : decode cX4_passDay 42 = .ok (.if_icmp .ge 28, 3) := by decide +kernel
theorem dX4_passDay_45 : decode cX4_passDay 45 = .ok (.aload_n 0, 1) := by decide +kernel
theorem dX4_passDay_46 : decode cX4_passDay 46 = .ok (.iload_n 1, 1) := by decide +kernel
theorem dX4_passDay_47 : decode cX4_passDay 47 = .ok (.invokevirtual 73, 3) := by decide +kernel
theorem dX4_passDay_50 : decode cX4_passDay 50 = .ok (.ifCond .eq 14, 3) := by decide +kernel
theorem dX4_passDay_53 : decode cX4_passDay 53 = .ok (.aload_n 0, 1) := by decide +kernel
theorem dX4_passDay_54 : decode cX4_passDay 54 = .ok (.iload_n 1, 1) := by decide +kernel
theorem dX4_passDay_55 : decode cX4_passDay 55 = .ok (.aload_n 0, 1) := by decide +kernel
theorem dX4_passDay_56 : decode cX4_passDay 56 = .ok (.getfield 36, 3) := by decide +kernel
theorem dX4_passDay_59 : decode cX4_passDay 59 = .ok (.iload_n 1, 1) := by decide +kernel
theorem dX4_passDay_60 : decode cX4_passDay 60 = .ok (.iaload, 1) := by decide +kernel
theorem dX4_passDay_61 : decode cX4_passDay 61 = .ok (.invokevirtual 83, 3) := by decide +kernel
theorem dX4_passDay_64 : decode cX4_passDay 64 = .ok (.iinc 1 1, 3) := by decide +kernel
theorem dX4_passDay_67 : decode cX4_passDay 67 = .ok (.goto (-28), 3) := by decide +kernel
theorem dX4_passDay_70 : decode cX4_passDay 70 = .ok (.aload_n 0, 1) := by decide +kernel
theorem dX4_passDay_71 : decode cX4_passDay 71 = .ok (.getstatic 87, 3) := by decide +kernel
theorem dX4_passDay_74 : decode cX4_passDay 74 = .ok (.bipush 7, 2) := by decide +kernel
theorem dX4_passDay_76 : decode cX4_passDay 76 = .ok (.iaload, 1) := by decide +kernel
theorem dX4_passDay_77 : decode cX4_passDay 77 = .ok (.aload_n 0, 1) := by decide +kernel
theorem dX4_passDay_78 : decode cX4_passDay 78 = .ok (.getfield 53, 3) := by decide +kernel
theorem dX4_passDay_81 : decode cX4_passDay 81 = .ok (.iconst 1, 1) := by decide +kernel
theorem dX4_passDay_82 : decode cX4_passDay 82 = .ok (.iadd, 1) := by decide +kernel
theorem dX4_passDay_83 : decode cX4_passDay 83 = .ok (.invokestatic 66, 3) := by decide +kernel
theorem dX4_passDay_86 : decode cX4_passDay 86 = .ok (.putfield 53, 3) := by decide +kernel
theorem dX4_passDay_89 : decode cX4_passDay 89 = .ok (.return_, 1) := by decide +kernel
theorem dX4_warm_0 : decode cX4_warm 0 = .ok (.iconst 0, 1) := by decide +kernel
theorem dX4_warm_1 : decode cX4_warm 1 = .ok (.getstatic 87, 3) := by decide +kernel
theorem dX4_warm_4 : decode cX4_warm 4 = .ok (.iconst 1, 1) := by decide +kernel
theorem dX4_warm_5 : decode cX4_warm 5 = .ok (.iaload, 1) := by decide +kernel
theorem dX4_warm_6 : decode cX4_warm 6 = .ok (.aload_n 0, 1) := by decide +kernel
theorem dX4_warm_7 : decode cX4_warm 7 = .ok (.getfield 21, 3) := by decide +kernel
theorem dX4_warm_10 : decode cX4_warm 10 = .ok (.iload_n 1, 1) := by decide +kernel
theorem dX4_warm_11 : decode cX4_warm 11 = .ok (.iaload, 1) := by decide +kernel
theorem dX4_warm_12 : decode cX4_warm 12 = .ok (.iload_n 2, 1) := by decide +kernel
theorem dX4_warm_13 : decode cX4_warm 13 = .ok (.iadd, 1) := by decide +kernel
theorem dX4_warm_14 : decode cX4_warm 14 = .ok (.invokestatic 66, 3) := by decide +kernel
theorem dX4_warm_17 : decode cX4_warm 17 = .ok (.invokestatic 60, 3) := by decide +kernel
theorem dX4_warm_20 : decode cX4_warm 20 = .ok (.istore_n 3, 1) := by decide +kernel
theorem dX4_warm_21 : decode cX4_warm 21 = .ok (.aload_n 0, 1) := by decide +kernel
theorem dX4_warm_22 : decode cX4_warm 22 = .ok (.getfield 21, 3) := by decide +kernel
theorem dX4_warm_25 : decode cX4_warm 25 = .ok (.iload_n 1, 1) := by decide +kernel
theorem dX4_warm_26 : decode cX4_warm 26 = .ok (.iload_n 3, 1) := by decide +kernel
theorem dX4_warm_27 : decode cX4_warm 27 = .ok (.iastore, 1) := by decide +kernel
theorem dX4_warm_28 : decode cX4_warm 28 = .ok (.iload_n 3, 1) := by decide +kernel
theorem dX4_warm_29 : decode cX4_warm 29 = .ok (.bipush 40, 2) := by decide +kernel
theorem dX4_warm_31 : decode cX4_warm 31 = .ok (.if_icmp .lt 24, 3) := by decide +kernel
theorem dX4_warm_34 : decode cX4_warm 34 = .ok (.aload_n 0, 1) := by decide +kernel
theorem dX4_warm_35 : decode cX4_warm 35 = .ok (.getfield 24, 3) := by decide +kernel
theorem dX4_warm_38 : decode cX4_warm 38 = .ok (.iload_n 1, 1) := by decide +kernel
theorem dX4_warm_39 : decode cX4_warm 39 = .ok (.iconst 0, 1) := by decide +kernel
theorem dX4_warm_40 : decode cX4_warm 40 = .ok (.aload_n 0, 1) := by decide +kernel
theorem dX4_warm_41 : decode cX4_warm 41 = .ok (.getfield 24, 3) := by decide +kernel
theorem dX4_warm_44 : decode cX4_warm 44 = .ok (.iload_n 1, 1) := by decide +kernel
theorem dX4_warm_45 : decode cX4_warm 45 = .ok (.iaload, 1) := by decide +kernel
theorem dX4_warm_46 : decode cX4_warm 46 = .ok (.iload_n 3, 1) := by decide +kernel
theorem dX4_warm_47 : decode cX4_warm 47 = .ok (.bipush 20, 2) := by decide +kernel
theorem dX4_warm_49 : decode cX4_warm 49 = .ok (.idiv, 1) := by decide +kernel
theorem dX4_warm_50 : decode cX4_warm 50 = .ok (.isub, 1) := by decide +kernel
theorem dX4_warm_51 : decode cX4_warm 51 = .ok (.invokestatic 60, 3) := by decide +kernel
theorem dX4_warm_54 : decode cX4_warm 54 = .ok (.iastore, 1) := by decide +kernel
theorem dX4_warm_55 : decode cX4_warm 55 = .ok (.iload_n 3, 1) := by decide +kernel
theorem dX4_warm_56 : decode cX4_warm 56 = .ok (.bipush 50, 2) := by decide +kernel
theorem dX4_warm_58 : decode cX4_warm 58 = .ok (.if_icmp .lt 21, 3) := by decide +kernel
theorem dX4_warm_61 : decode cX4_warm 61 = .ok (.aload_n 0, 1) := by decide +kernel
theorem dX4_warm_62 : decode cX4_warm 62 = .ok (.getfield 18, 3) := by decide +kernel
theorem dX4_warm_65 : decode cX4_warm 65 = .ok (.iload_n 1, 1) := by decide +kernel
theorem dX4_warm_66 : decode cX4_warm 66 = .ok (.iconst 0, 1) := by decide +kernel
theorem dX4_warm_67 : decode cX4_warm 67 = .ok (.aload_n 0, 1) := by decide +kernel
theorem dX4_warm_68 : decode cX4_warm 68 = .ok (.getfield 18, 3) := by decide +kernel
theorem dX4_warm_71 : decode cX4_warm 71 = .ok (.iload_n 1, 1) := by decide +kernel
theorem dX4_warm_72 : decode cX4_warm 72 = .ok (.iaload, 1) := by decide +kernel
theorem dX4_warm_73 : decode cX4_warm 73 = .ok (.iconst 1, 1) := by decide +kernel
theorem dX4_warm_74 : decode cX4_warm 74 = .ok (.isub, 1) := by decide +kernel
theorem dX4_warm_75 : decode cX4_warm 75 = .ok (.invokestatic 60, 3) := by decide +kernel
theorem dX4_warm_78 : decode cX4_warm 78 = .ok (.iastore, 1) := by decide +kernel
theorem dX4_warm_79 : decode cX4_warm 79 = .ok (.return_, 1) := by decide +kernel
theorem dX4_hottestCell_0 : decode cX4_hottestCell 0 = .ok (.bipush (-2), 2) := by decide +kernel
theorem dX4_hottestCell_2 : decode cX4_hottestCell 2 = .ok (.istore_n 1, 1) := by decide +kernel
theorem dX4_hottestCell_3 : decode cX4_hottestCell 3 = .ok (.iconst 0, 1) := by decide +kernel
theorem dX4_hottestCell_4 : decode cX4_hottestCell 4 = .ok (.istore_n 2, 1) := by decide +kernel
theorem dX4_hottestCell_5 : decode cX4_hottestCell 5 = .ok (.iload_n 2, 1) := by decide +kernel
theorem dX4_hottestCell_6 : decode cX4_hottestCell 6 = .ok (.bipush 30, 2) := by decide +kernel
theorem dX4_hottestCell_8 : decode cX4_hottestCell 8 = .ok (.if_icmp .ge 40, 3) := by decide +kernel
theorem dX4_hottestCell_11 : decode cX4_hottestCell 11 = .ok (.aload_n 0, 1) := by decide +kernel
theorem dX4_hottestCell_12 : decode cX4_hottestCell 12 = .ok (.iload_n 2, 1) := by decide +kernel
theorem dX4_hottestCell_13 : decode cX4_hottestCell 13 = .ok (.invokevirtual 73, 3) := by decide +kernel
theorem dX4_hottestCell_16 : decode cX4_hottestCell 16 = .ok (.ifCond .eq 26, 3) := by decide +kernel
theorem dX4_hottestCell_19 : decode cX4_hottestCell 19 = .ok (.iload_n 1, 1) := by decide +kernel
theorem dX4_hottestCell_20 : decode cX4_hottestCell 20 = .ok (.bipush (-2), 2) := by decide +kernel
theorem dX4_hottestCell_22 : decode cX4_hottestCell 22 = .ok (.if_icmp .eq 18, 3) := by decide +kernel
theorem dX4_hottestCell_25 : decode cX4_hottestCell 25 = .ok (.aload_n 0, 1) := by decide +kernel
theorem dX4_hottestCell_26 : decode cX4_hottestCell 26 = .ok (.getfield 21, 3) := by decide +kernel
theorem dX4_hottestCell_29 : decode cX4_hottestCell 29 = .ok (.iload_n 2, 1) := by decide +kernel
theorem dX4_hottestCell_30 : decode cX4_hottestCell 30 = .ok (.iaload, 1) := by decide +kernel
theorem dX4_hottestCell_31 : decode cX4_hottestCell 31 = .ok (.aload_n 0, 1) := by decide +kernel
theorem dX4_hottestCell_32 : decode cX4_hottestCell 32 = .ok (.getfield 21, 3) := by decide +kernel
theorem dX4_hottestCell_35 : decode cX4_hottestCell 35 = .ok (.iload_n 1, 1) := by decide +kernel
theorem dX4_hottestCell_36 : decode cX4_hottestCell 36 = .ok (.iaload, 1) := by decide +kernel
theorem dX4_hottestCell_37 : decode cX4_hottestCell 37 = .ok (.if_icmp .le 5, 3) := by decide +kernel
theorem dX4_hottestCell_40 : decode cX4_hottestCell 40 = .ok (.iload_n 2, 1) := by decide +kernel
theorem dX4_hottestCell_41 : decode cX4_hottestCell 41 = .ok (.istore_n 1, 1) := by decide +kernel
theorem dX4_hottestCell_42 : decode cX4_hottestCell 42 = .ok (.iinc 2 1, 3) := by decide +kernel
theorem dX4_hottestCell_45 : decode cX4_hottestCell 45 = .ok (.goto (-40), 3) := by decide +kernel
theorem dX4_hottestCell_48 : decode cX4_hottestCell 48 = .ok (.iload_n 1, 1) := by decide +kernel
theorem dX4_hottestCell_49 : decode cX4_hottestCell 49 = .ok (.ireturn, 1) := by decide +kernel
theorem dX4_hottestHeat_0 : decode cX4_hottestHeat 0 = .ok (.aload_n 0, 1) := by decide +kernel
theorem dX4_hottestHeat_1 : decode cX4_hottestHeat 1 = .ok (.invokevirtual 90, 3) := by decide +kernel
theorem dX4_hottestHeat_4 : decode cX4_hottestHeat 4 = .ok (.istore_n 1, 1) := by decide +kernel
theorem dX4_hottestHeat_5 : decode cX4_hottestHeat 5 = .ok (.iload_n 1, 1) := by decide +kernel
theorem dX4_hottestHeat_6 : decode cX4_hottestHeat 6 = .ok (.ifCond .ge 8, 3) := by decide +kernel
theorem dX4_hottestHeat_9 : decode cX4_hottestHeat 9 = .ok (.bipush (-2), 2) := by decide +kernel
theorem dX4_hottestHeat_11 : decode cX4_hottestHeat 11 = .ok (.goto 9, 3) := by decide +kernel
theorem dX4_hottestHeat_14 : decode cX4_hottestHeat 14 = .ok (.aload_n 0, 1) := by decide +kernel
theorem dX4_hottestHeat_15 : decode cX4_hottestHeat 15 = .ok (.getfield 21, 3) := by decide +kernel
theorem dX4_hottestHeat_18 : decode cX4_hottestHeat 18 = .ok (.iload_n 1, 1) := by decide +kernel
theorem dX4_hottestHeat_19 : decode cX4_hottestHeat 19 = .ok (.iaload, 1) := by decide +kernel
theorem dX4_hottestHeat_20 : decode cX4_hottestHeat 20 = .ok (.ireturn, 1) := by decide +kernel
theorem dX4_hottestBehind_0 : decode cX4_hottestBehind 0 = .ok (.iconst 0, 1) := by decide +kernel
theorem dX4_hottestBehind_1 : decode cX4_hottestBehind 1 = .ok (.istore_n 2, 1) := by decide +kernel
theorem dX4_hottestBehind_2 : decode cX4_hottestBehind 2 = .ok (.iload_n 2, 1) := by decide +kernel
theorem dX4_hottestBehind_3 : decode cX4_hottestBehind 3 = .ok (.iload_n 1, 1) := by decide +kernel
theorem dX4_hottestBehind_4 : decode cX4_hottestBehind 4 = .ok (.if_icmp .ge 13, 3) := by decide +kernel
theorem dX4_hottestBehind_7 : decode cX4_hottestBehind 7 = .ok (.aload_n 0, 1) := by decide +kernel
theorem dX4_hottestBehind_8 : decode cX4_hottestBehind 8 = .ok (.invokevirtual 94, 3) := by decide +kernel
theorem dX4_hottestBehind_11 : decode cX4_hottestBehind 11 = .ok (.iinc 2 1, 3) := by decide +kernel
theorem dX4_hottestBehind_14 : decode cX4_hottestBehind 14 = .ok (.goto (-12), 3) := by decide +kernel
theorem dX4_hottestBehind_17 : decode cX4_hottestBehind 17 = .ok (.aload_n 0, 1) := by decide +kernel
theorem dX4_hottestBehind_18 : decode cX4_hottestBehind 18 = .ok (.invokevirtual 97, 3) := by decide +kernel
theorem dX4_hottestBehind_21 : decode cX4_hottestBehind 21 = .ok (.ireturn, 1) := by decide +kernel
theorem dX4_glowing_0 : decode cX4_glowing 0 = .ok (.iconst 0, 1) := by decide +kernel
theorem dX4_glowing_1 : decode cX4_glowing 1 = .ok (.istore_n 1, 1) := by decide +kernel
theorem dX4_glowing_2 : decode cX4_glowing 2 = .ok (.iconst 0, 1) := by decide +kernel
theorem dX4_glowing_3 : decode cX4_glowing 3 = .ok (.istore_n 2, 1) := by decide +kernel
theorem dX4_glowing_4 : decode cX4_glowing 4 = .ok (.iload_n 2, 1) := by decide +kernel
theorem dX4_glowing_5 : decode cX4_glowing 5 = .ok (.bipush 30, 2) := by decide +kernel
theorem dX4_glowing_7 : decode cX4_glowing 7 = .ok (.if_icmp .ge 33, 3) := by decide +kernel
theorem dX4_glowing_10 : decode cX4_glowing 10 = .ok (.aload_n 0, 1) := by decide +kernel
theorem dX4_glowing_11 : decode cX4_glowing 11 = .ok (.iload_n 2, 1) := by decide +kernel
theorem dX4_glowing_12 : decode cX4_glowing 12 = .ok (.invokevirtual 73, 3) := by decide +kernel
theorem dX4_glowing_15 : decode cX4_glowing 15 = .ok (.ifCond .eq 19, 3) := by decide +kernel
theorem dX4_glowing_18 : decode cX4_glowing 18 = .ok (.aload_n 0, 1) := by decide +kernel
theorem dX4_glowing_19 : decode cX4_glowing 19 = .ok (.getfield 21, 3) := by decide +kernel
theorem dX4_glowing_22 : decode cX4_glowing 22 = .ok (.iload_n 2, 1) := by decide +kernel
theorem dX4_glowing_23 : decode cX4_glowing 23 = .ok (.iaload, 1) := by decide +kernel
theorem dX4_glowing_24 : decode cX4_glowing 24 = .ok (.aload_n 0, 1) := by decide +kernel
theorem dX4_glowing_25 : decode cX4_glowing 25 = .ok (.getfield 39, 3) := by decide +kernel
theorem dX4_glowing_28 : decode cX4_glowing 28 = .ok (.if_icmp .lt 6, 3) := by decide +kernel
theorem dX4_glowing_31 : decode cX4_glowing 31 = .ok (.iinc 1 1, 3) := by decide +kernel
theorem dX4_glowing_34 : decode cX4_glowing 34 = .ok (.iinc 2 1, 3) := by decide +kernel
theorem dX4_glowing_37 : decode cX4_glowing 37 = .ok (.goto (-33), 3) := by decide +kernel
theorem dX4_glowing_40 : decode cX4_glowing 40 = .ok (.iload_n 1, 1) := by decide +kernel
theorem dX4_glowing_41 : decode cX4_glowing 41 = .ok (.ireturn, 1) := by decide +kernel
theorem dX4_goodOfAll_0 : decode cX4_goodOfAll 0 = .ok (.iconst 0, 1) := by decide +kernel
theorem dX4_goodOfAll_1 : decode cX4_goodOfAll 1 = .ok (.istore_n 1, 1) := by decide +kernel
theorem dX4_goodOfAll_2 : decode cX4_goodOfAll 2 = .ok (.iconst 0, 1) := by decide +kernel
theorem dX4_goodOfAll_3 : decode cX4_goodOfAll 3 = .ok (.istore_n 2, 1) := by decide +kernel
theorem dX4_goodOfAll_4 : decode cX4_goodOfAll 4 = .ok (.iload_n 2, 1) := by decide +kernel
theorem dX4_goodOfAll_5 : decode cX4_goodOfAll 5 = .ok (.bipush 30, 2) := by decide +kernel
theorem dX4_goodOfAll_7 : decode cX4_goodOfAll 7 = .ok (.if_icmp .ge 26, 3) := by decide +kernel
theorem dX4_goodOfAll_10 : decode cX4_goodOfAll 10 = .ok (.aload_n 0, 1) := by decide +kernel
theorem dX4_goodOfAll_11 : decode cX4_goodOfAll 11 = .ok (.iload_n 2, 1) := by decide +kernel
theorem dX4_goodOfAll_12 : decode cX4_goodOfAll 12 = .ok (.invokevirtual 73, 3) := by decide +kernel
theorem dX4_goodOfAll_15 : decode cX4_goodOfAll 15 = .ok (.ifCond .eq 12, 3) := by decide +kernel
theorem dX4_goodOfAll_18 : decode cX4_goodOfAll 18 = .ok (.iload_n 1, 1) := by decide +kernel
theorem dX4_goodOfAll_19 : decode cX4_goodOfAll 19 = .ok (.aload_n 0, 1) := by decide +kernel
theorem dX4_goodOfAll_20 : decode cX4_goodOfAll 20 = .ok (.getfield 24, 3) := by decide +kernel
theorem dX4_goodOfAll_23 : decode cX4_goodOfAll 23 = .ok (.iload_n 2, 1) := by decide +kernel
theorem dX4_goodOfAll_24 : decode cX4_goodOfAll 24 = .ok (.iaload, 1) := by decide +kernel
theorem dX4_goodOfAll_25 : decode cX4_goodOfAll 25 = .ok (.iadd, 1) := by decide +kernel
theorem dX4_goodOfAll_26 : decode cX4_goodOfAll 26 = .ok (.istore_n 1, 1) := by decide +kernel
theorem dX4_goodOfAll_27 : decode cX4_goodOfAll 27 = .ok (.iinc 2 1, 3) := by decide +kernel
theorem dX4_goodOfAll_30 : decode cX4_goodOfAll 30 = .ok (.goto (-26), 3) := by decide +kernel
theorem dX4_goodOfAll_33 : decode cX4_goodOfAll 33 = .ok (.iload_n 1, 1) := by decide +kernel
theorem dX4_goodOfAll_34 : decode cX4_goodOfAll 34 = .ok (.ireturn, 1) := by decide +kernel
theorem dX4_value_0 : decode cX4_value 0 = .ok (.iconst 0, 1) := by decide +kernel
theorem dX4_value_1 : decode cX4_value 1 = .ok (.istore_n 1, 1) := by decide +kernel
theorem dX4_value_2 : decode cX4_value 2 = .ok (.iconst 0, 1) := by decide +kernel
theorem dX4_value_3 : decode cX4_value 3 = .ok (.istore_n 2, 1) := by decide +kernel
theorem dX4_value_4 : decode cX4_value 4 = .ok (.iload_n 2, 1) := by decide +kernel
theorem dX4_value_5 : decode cX4_value 5 = .ok (.bipush 30, 2) := by decide +kernel
theorem dX4_value_7 : decode cX4_value 7 = .ok (.if_icmp .ge 42, 3) := by decide +kernel
theorem dX4_value_10 : decode cX4_value 10 = .ok (.aload_n 0, 1) := by decide +kernel
theorem dX4_value_11 : decode cX4_value 11 = .ok (.iload_n 2, 1) := by decide +kernel
theorem dX4_value_12 : decode cX4_value 12 = .ok (.invokevirtual 73, 3) := by decide +kernel
theorem dX4_value_15 : decode cX4_value 15 = .ok (.ifCond .eq 28, 3) := by decide +kernel
theorem dX4_value_18 : decode cX4_value 18 = .ok (.aload_n 0, 1) := by decide +kernel
theorem dX4_value_19 : decode cX4_value 19 = .ok (.getfield 21, 3) := by decide +kernel
theorem dX4_value_22 : decode cX4_value 22 = .ok (.iload_n 2, 1) := by decide +kernel
theorem dX4_value_23 : decode cX4_value 23 = .ok (.iaload, 1) := by decide +kernel
theorem dX4_value_24 : decode cX4_value 24 = .ok (.aload_n 0, 1) := by decide +kernel
theorem dX4_value_25 : decode cX4_value 25 = .ok (.getfield 39, 3) := by decide +kernel
theorem dX4_value_28 : decode cX4_value 28 = .ok (.if_icmp .ge 15, 3) := by decide +kernel
theorem dX4_value_31 : decode cX4_value 31 = .ok (.iload_n 1, 1) := by decide +kernel
theorem dX4_value_32 : decode cX4_value 32 = .ok (.aload_n 0, 1) := by decide +kernel
theorem dX4_value_33 : decode cX4_value 33 = .ok (.getfield 24, 3) := by decide +kernel
theorem dX4_value_36 : decode cX4_value 36 = .ok (.iload_n 2, 1) := by decide +kernel
theorem dX4_value_37 : decode cX4_value 37 = .ok (.iaload, 1) := by decide +kernel
theorem dX4_value_38 : decode cX4_value 38 = .ok (.bipush 9, 2) := by decide +kernel
theorem dX4_value_40 : decode cX4_value 40 = .ok (.idiv, 1) := by decide +kernel
theorem dX4_value_41 : decode cX4_value 41 = .ok (.iadd, 1) := by decide +kernel
theorem dX4_value_42 : decode cX4_value 42 = .ok (.istore_n 1, 1) := by decide +kernel
theorem dX4_value_43 : decode cX4_value 43 = .ok (.iinc 2 1, 3) := by decide +kernel
theorem dX4_value_46 : decode cX4_value 46 = .ok (.goto (-42), 3) := by decide +kernel
theorem dX4_value_49 : decode cX4_value 49 = .ok (.iload_n 1, 1) := by decide +kernel
theorem dX4_value_50 : decode cX4_value 50 = .ok (.ireturn, 1) := by decide +kernel
theorem dX5_init_0 : decode cX5_init 0 = .ok (.aload_n 0, 1) := by decide +kernel
theorem dX5_init_1 : decode cX5_init 1 = .ok (.invokespecial 3, 3) := by decide +kernel
theorem dX5_init_4 : decode cX5_init 4 = .ok (.aload_n 0, 1) := by decide +kernel
theorem dX5_init_5 : decode cX5_init 5 = .ok (.bipush 120, 2) := by decide +kernel
theorem dX5_init_7 : decode cX5_init 7 = .ok (.newarray .int, 2) := by decide +kernel
theorem dX5_init_9 : decode cX5_init 9 = .ok (.putfield 11, 3) := by decide +kernel
theorem dX5_init_12 : decode cX5_init 12 = .ok (.aload_n 0, 1) := by decide +kernel
theorem dX5_init_13 : decode cX5_init 13 = .ok (.bipush 120, 2) := by decide +kernel
theorem dX5_init_15 : decode cX5_init 15 = .ok (.newarray .int, 2) := by decide +kernel
theorem dX5_init_17 : decode cX5_init 17 = .ok (.putfield 17, 3) := by decide +kernel
theorem dX5_init_20 : decode cX5_init 20 = .ok (.aload_n 0, 1) := by decide +kernel
theorem dX5_init_21 : decode cX5_init 21 = .ok (.bipush 120, 2) := by decide +kernel
theorem dX5_init_23 : decode cX5_init 23 = .ok (.newarray .int, 2) := by decide +kernel
theorem dX5_init_25 : decode cX5_init 25 = .ok (.putfield 20, 3) := by decide +kernel
theorem dX5_init_28 : decode cX5_init 28 = .ok (.aload_n 0, 1) := by decide +kernel
theorem dX5_init_29 : decode cX5_init 29 = .ok (.bipush 120, 2) := by decide +kernel
theorem dX5_init_31 : decode cX5_init 31 = .ok (.newarray .int, 2) := by decide +kernel
theorem dX5_init_33 : decode cX5_init 33 = .ok (.putfield 23, 3) := by decide +kernel
theorem dX5_init_36 : decode cX5_init 36 = .ok (.aload_n 0, 1) := by decide +kernel
theorem dX5_init_37 : decode cX5_init 37 = .ok (.bipush 8, 2) := by decide +kernel
theorem dX5_init_39 : decode cX5_init 39 = .ok (.newarray .int, 2) := by decide +kernel
theorem dX5_init_41 : decode cX5_init 41 = .ok (.putfield 26, 3) := by decide +kernel
theorem dX5_init_44 : decode cX5_init 44 = .ok (.aload_n 0, 1) := by decide +kernel
theorem dX5_init_45 : decode cX5_init 45 = .ok (.bipush 64, 2) := by decide +kernel
theorem dX5_init_47 : decode cX5_init 47 = .ok (.newarray .int, 2) := by decide +kernel
theorem dX5_init_49 : decode cX5_init 49 = .ok (.putfield 29, 3) := by decide +kernel
theorem dX5_init_52 : decode cX5_init 52 = .ok (.aload_n 0, 1) := by decide +kernel
theorem dX5_init_53 : decode cX5_init 53 = .ok (.sipush 2048, 3) := by decide +kernel
theorem dX5_init_56 : decode cX5_init 56 = .ok (.newarray .int, 2) := by decide +kernel
theorem dX5_init_58 : decode cX5_init 58 = .ok (.putfield 32, 3) := by decide +kernel
theorem dX5_init_61 : decode cX5_init 61 = .ok (.return_, 1) := by decide +kernel
theorem dX5_become_0 : decode cX5_become 0 = .ok (.aload_n 0, 1) := by decide +kernel
theorem dX5_become_1 : decode cX5_become 1 = .ok (.aload_n 1, 1) := by decide +kernel
theorem dX5_become_2 : decode cX5_become 2 = .ok (.getfield 35, 3) := by decide +kernel
theorem dX5_become_5 : decode cX5_become 5 = .ok (.putfield 39, 3) := by decide +kernel
theorem dX5_become_8 : decode cX5_become 8 = .ok (.aload_n 1, 1) := by decide +kernel
theorem dX5_become_9 : decode cX5_become 9 = .ok (.getfield 40, 3) := by decide +kernel
theorem dX5_become_12 : decode cX5_become 12 = .ok (.iconst 0, 1) := by decide +kernel
theorem dX5_become_13 : decode cX5_become 13 = .ok (.aload_n 0, 1) := by decide +kernel
theorem dX5_become_14 : decode cX5_become 14 = .ok (.getfield 11, 3) := by decide +kernel
theorem dX5_become_17 : decode cX5_become 17 = .ok (.iconst 0, 1) := by decide +kernel
theorem dX5_become_18 : decode cX5_become 18 = .ok (.bipush 120, 2) := by decide +kernel
theorem dX5_become_20 : decode cX5_become 20 = .ok (.invokestatic 41, 3) := by decide +kernel
theorem dX5_become_23 : decode cX5_become 23 = .ok (.aload_n 1, 1) := by decide +kernel
theorem dX5_become_24 : decode cX5_become 24 = .ok (.getfield 47, 3) := by decide +kernel
theorem dX5_become_27 : decode cX5_become 27 = .ok (.iconst 0, 1) := by decide +kernel
theorem dX5_become_28 : decode cX5_become 28 = .ok (.aload_n 0, 1) := by decide +kernel
theorem dX5_become_29 : decode cX5_become 29 = .ok (.getfield 17, 3) := by decide +kernel
theorem dX5_become_32 : decode cX5_become 32 = .ok (.iconst 0, 1) := by decide +kernel
theorem dX5_become_33 : decode cX5_become 33 = .ok (.bipush 120, 2) := by decide +kernel
theorem dX5_become_35 : decode cX5_become 35 = .ok (.invokestatic 41, 3) := by decide +kernel
theorem dX5_become_38 : decode cX5_become 38 = .ok (.aload_n 1, 1) := by decide +kernel
theorem dX5_become_39 : decode cX5_become 39 = .ok (.getfield 48, 3) := by decide +kernel
theorem dX5_become_42 : decode cX5_become 42 = .ok (.iconst 0, 1) := by decide +kernel
theorem dX5_become_43 : decode cX5_become 43 = .ok (.aload_n 0, 1) := by decide +kernel
theorem dX5_become_44 : decode cX5_become 44 = .ok (.getfield 20, 3) := by decide +kernel
theorem dX5_become_47 : decode cX5_become 47 = .ok (.iconst 0, 1) := by decide +kernel
theorem dX5_become_48 : decode cX5_become 48 = .ok (.bipush 120, 2) := by decide +kernel
theorem dX5_become_50 : decode cX5_become 50 = .ok (.invokestatic 41, 3) := by decide +kernel
theorem dX5_become_53 : decode cX5_become 53 = .ok (.aload_n 1, 1) := by decide +kernel
theorem dX5_become_54 : decode cX5_become 54 = .ok (.getfield 49, 3) := by decide +kernel
theorem dX5_become_57 : decode cX5_become 57 = .ok (.iconst 0, 1) := by decide +kernel
theorem dX5_become_58 : decode cX5_become 58 = .ok (.aload_n 0, 1) := by decide +kernel
theorem dX5_become_59 : decode cX5_become 59 = .ok (.getfield 23, 3) := by decide +kernel
theorem dX5_become_62 : decode cX5_become 62 = .ok (.iconst 0, 1) := by decide +kernel
theorem dX5_become_63 : decode cX5_become 63 = .ok (.bipush 120, 2) := by decide +kernel
theorem dX5_become_65 : decode cX5_become 65 = .ok (.invokestatic 41, 3) := by decide +kernel
theorem dX5_become_68 : decode cX5_become 68 = .ok (.iconst 0, 1) := by decide +kernel
theorem dX5_become_69 : decode cX5_become 69 = .ok (.istore_n 2, 1) := by decide +kernel
theorem dX5_become_70 : decode cX5_become 70 = .ok (.iload_n 2, 1) := by decide +kernel
theorem dX5_become_71 : decode cX5_become 71 = .ok (.sipush 2048, 3) := by decide +kernel
theorem dX5_become_74 : decode cX5_become 74 = .ok (.if_icmp .ge 16, 3) := by decide +kernel
theorem dX5_become_77 : decode cX5_become 77 = .ok (.aload_n 0, 1) := by decide +kernel
theorem dX5_become_78 : decode cX5_become 78 = .ok (.getfield 32, 3) := by decide +kernel
theorem dX5_become_81 : decode cX5_become 81 = .ok (.iload_n 2, 1) := by decide +kernel
theorem dX5_become_82 : decode cX5_become 82 = .ok (.iconst 0, 1) := by decide +kernel
theorem dX5_become_83 : decode cX5_become 83 = .ok (.iastore, 1) := by decide +kernel
theorem dX5_become_84 : decode cX5_become 84 = .ok (.iinc 2 1, 3) := by decide +kernel
theorem dX5_become_87 : decode cX5_become 87 = .ok (.goto (-17), 3) := by decide +kernel
theorem dX5_become_90 : decode cX5_become 90 = .ok (.return_, 1) := by decide +kernel
theorem dX5_gives_0 : decode cX5_gives 0 = .ok (.aload_n 1, 1) := by decide +kernel
theorem dX5_gives_1 : decode cX5_gives 1 = .ok (.getfield 50, 3) := by decide +kernel
theorem dX5_gives_4 : decode cX5_gives 4 = .ok (.iload_n 2, 1) := by decide +kernel
theorem dX5_gives_5 : decode cX5_gives 5 = .ok (.iaload, 1) := by decide +kernel
theorem dX5_gives_6 : decode cX5_gives 6 = .ok (.istore_n 3, 1) := by decide +kernel
theorem dX5_gives_7 : decode cX5_gives 7 = .ok (.aload_n 1, 1) := by decide +kernel
theorem dX5_gives_8 : decode cX5_gives 8 = .ok (.getfield 55, 3) := by decide +kernel
theorem dX5_gives_11 : decode cX5_gives 11 = .ok (.iload_n 2, 1) := by decide +kernel
theorem dX5_gives_12 : decode cX5_gives 12 = .ok (.iaload, 1) := by decide +kernel
theorem dX5_gives_13 : decode cX5_gives 13 = .ok (.istore 4, 2) := by decide +kernel
theorem dX5_gives_15 : decode cX5_gives 15 = .ok (.aload_n 1, 1) := by decide +kernel
theorem dX5_gives_16 : decode cX5_gives 16 = .ok (.getfield 58, 3) := by decide +kernel
theorem dX5_gives_19 : decode cX5_gives 19 = .ok (.iload_n 2, 1) := by decide +kernel
theorem dX5_gives_20 : decode cX5_gives 20 = .ok (.iaload, 1) := by decide +kernel
theorem dX5_gives_21 : decode cX5_gives 21 = .ok (.istore 5, 2) := by decide +kernel
theorem dX5_gives_23 : decode cX5_gives 23 = .ok (.aload_n 1, 1) := by decide +kernel
theorem dX5_gives_24 : decode cX5_gives 24 = .ok (.iload_n 2, 1) := by decide +kernel
theorem dX5_gives_25 : decode cX5_gives 25 = .ok (.invokevirtual 61, 3) := by decide +kernel
theorem dX5_gives_28 : decode cX5_gives 28 = .ok (.istore 6, 2) := by decide +kernel
theorem dX5_gives_30 : decode cX5_gives 30 = .ok (.aload_n 1, 1) := by decide +kernel
theorem dX5_gives_31 : decode cX5_gives 31 = .ok (.iload_n 2, 1) := by decide +kernel
theorem dX5_gives_32 : decode cX5_gives 32 = .ok (.invokevirtual 65, 3) := by decide +kernel
theorem dX5_gives_35 : decode cX5_gives 35 = .ok (.istore 7, 2) := by decide +kernel
theorem dX5_gives_37 : decode cX5_gives 37 = .ok (.iload_n 2, 1) := by decide +kernel
theorem dX5_gives_38 : decode cX5_gives 38 = .ok (.iconst 5, 1) := by decide +kernel
theorem dX5_gives_39 : decode cX5_gives 39 = .ok (.irem, 1) := by decide +kernel
theorem dX5_gives_40 : decode cX5_gives 40 = .ok (.istore 8, 2) := by decide +kernel
theorem dX5_gives_42 : decode cX5_gives 42 = .ok (.aload_n 0, 1) := by decide +kernel
theorem dX5_gives_43 : decode cX5_gives 43 = .ok (.getfield 39, 3) := by decide +kernel
theorem dX5_gives_46 : decode cX5_gives 46 = .ok (.ifCond .ne 26, 3) := by decide +kernel
theorem dX5_gives_49 : decode cX5_gives 49 = .ok (.iconst 2, 1) := by decide +kernel
theorem dX5_gives_50 : decode cX5_gives 50 = .ok (.iload_n 3, 1) := by decide +kernel
theorem dX5_gives_51 : decode cX5_gives 51 = .ok (.imul, 1) := by decide +kernel
theorem dX5_gives_52 : decode cX5_gives 52 = .ok (.iload 6, 2) := by decide +kernel
theorem dX5_gives_54 : decode cX5_gives 54 = .ok (.isub, 1) := by decide +kernel
theorem dX5_gives_55 : decode cX5_gives 55 = .ok (.iconst 4, 1) := by decide +kernel
theorem dX5_gives_56 : decode cX5_gives 56 = .ok (.iload 5, 2) := by decide +kernel
theorem dX5_gives_58 : decode cX5_gives 58 = .ok (.imul, 1) := by decide +kernel
theorem dX5_gives_59 : decode cX5_gives 59 = .ok (.isub, 1) := by decide +kernel
theorem dX5_gives_60 : decode cX5_gives 60 = .ok (.iload 7, 2) := by decide +kernel
theorem dX5_gives_62 : decode cX5_gives 62 = .ok (.iload 4, 2) := by decide +kernel
theorem dX5_gives_64 : decode cX5_gives 64 = .ok (.isub, 1) := by decide +kernel
theorem dX5_gives_65 : decode cX5_gives 65 = .ok (.iconst 4, 1) := by decide +kernel
theorem dX5_gives_66 : decode cX5_gives 66 = .ok (.idiv, 1) := by decide +kernel
theorem dX5_gives_67 : decode cX5_gives 67 = .ok (.iadd, 1) := by decide +kernel
theorem dX5_gives_68 : decode cX5_gives 68 = .ok (.invokestatic 68, 3) := by decide +kernel
theorem dX5_gives_71 : decode cX5_gives 71 = .ok (.ireturn, 1) := by decide +kernel
theorem dX5_gives_72 : decode cX5_gives 72 = .ok (.iconst 1, 1) := by decide +kernel
theorem dX5_gives_73 : decode cX5_gives 73 = .ok (.iload_n 3, 1) := by decide +kernel
theorem dX5_gives_74 : decode cX5_gives 74 = .ok (.bipush 100, 2) := by decide +kernel
theorem dX5_gives_76 : decode cX5_gives 76 = .ok (.imul, 1) := by decide +kernel
theorem dX5_gives_77 : decode cX5_gives 77 = .ok (.iload 4, 2) := by decide +kernel
theorem dX5_gives_79 : decode cX5_gives 79 = .ok (.iadd, 1) := by decide +kernel
theorem dX5_gives_80 : decode cX5_gives 80 = .ok (.bipush 100, 2) := by decide +kernel
theorem dX5_gives_82 : decode cX5_gives 82 = .ok (.imul, 1) := by decide +kernel
theorem dX5_gives_83 : decode cX5_gives 83 = .ok (.iload 7, 2) := by decide +kernel
theorem dX5_gives_85 : decode cX5_gives 85 = .ok (.iadd, 1) := by decide +kernel
theorem dX5_gives_86 : decode cX5_gives 86 = .ok (.bipush 6, 2) := by decide +kernel
theorem dX5_gives_88 : decode cX5_gives 88 = .ok (.imul, 1) := by decide +kernel
theorem dX5_gives_89 : decode cX5_gives 89 = .ok (.iload 6, 2) := by decide +kernel
theorem dX5_gives_91 : decode cX5_gives 91 = .ok (.iadd, 1) := by decide +kernel
theorem dX5_gives_92 : decode cX5_gives 92 = .ok (.iconst 2, 1) := by decide +kernel
theorem dX5_gives_93 : decode cX5_gives 93 = .ok (.imul, 1) := by decide +kernel
theorem dX5_gives_94 : decode cX5_gives 94 = .ok (.iload 5, 2) := by decide +kernel
theorem dX5_gives_96 : decode cX5_gives 96 = .ok (.iadd, 1) := by decide +kernel
theorem dX5_gives_97 : decode cX5_gives 97 = .ok (.iconst 5, 1) := by decide +kernel
theorem dX5_gives_98 : decode cX5_gives 98 = .ok (.imul, 1) := by decide +kernel
theorem dX5_gives_99 : decode cX5_gives 99 = .ok (.iadd, 1) := by decide +kernel
theorem dX5_gives_100 : decode cX5_gives 100 = .ok (.iload 8, 2) := by decide +kernel
theorem dX5_gives_102 : decode cX5_gives 102 = .ok (.iadd, 1) := by decide +kernel
theorem dX5_gives_103 : decode cX5_gives 103 = .ok (.istore 9, 2) := by decide +kernel
theorem dX5_gives_105 : decode cX5_gives 105 = .ok (.iload 9, 2) := by decide +kernel
theorem dX5_gives_107 : decode cX5_gives 107 = .ok (.ldc 71, 2) := by decide +kernel
theorem dX5_gives_109 : decode cX5_gives 109 = .ok (.imul, 1) := by decide +kernel
theorem dX5_gives_110 : decode cX5_gives 110 = .ok (.bipush 21, 2) := by decide +kernel
theorem dX5_gives_112 : decode cX5_gives 112 = .ok (.iushr, 1) := by decide +kernel
theorem dX5_gives_113 : decode cX5_gives 113 = .ok (.sipush 2048, 3) := by decide +kernel
theorem dX5_gives_116 : decode cX5_gives 116 = .ok (.irem, 1) := by decide +kernel
theorem dX5_gives_117 : decode cX5_gives 117 = .ok (.istore 10, 2) := by decide +kernel
theorem dX5_gives_119 : decode cX5_gives 119 = .ok (.aload_n 0, 1) := by decide +kernel
theorem dX5_gives_120 : decode cX5_gives 120 = .ok (.getfield 32, 3) := by decide +kernel
theorem dX5_gives_123 : decode cX5_gives 123 = .ok (.iload 10, 2) := by decide +kernel
theorem dX5_gives_125 : decode cX5_gives 125 = .ok (.iaload, 1) := by decide +kernel
theorem dX5_gives_126 : decode cX5_gives 126 = .ok (.bipush 6, 2) := by decide +kernel
theorem dX5_gives_128 : decode cX5_gives 128 = .ok (.ishr, 1) := by decide +kernel
theorem dX5_gives_129 : decode cX5_gives 129 = .ok (.iload 9, 2) := by decide +kernel
theorem dX5_gives_131 : decode cX5_gives 131 = .ok (.if_icmp .eq 73, 3) := by decide +kernel
theorem dX5_gives_134 : decode cX5_gives 134 = .ok (.aload_n 0, 1) := by decide +kernel
theorem dX5_gives_135 : decode cX5_gives 135 = .ok (.getfield 26, 3) := by decide +kernel
theorem dX5_gives_138 : decode cX5_gives 138 = .ok (.iconst 0, 1) := by decide +kernel
theorem dX5_gives_139 : decode cX5_gives 139 = .ok (.iload_n 3, 1) := by decide +kernel
theorem dX5_gives_140 : decode cX5_gives 140 = .ok (.iastore, 1) := by decide +kernel
theorem dX5_gives_141 : decode cX5_gives 141 = .ok (.aload_n 0, 1) := by decide +kernel
theorem dX5_gives_142 : decode cX5_gives 142 = .ok (.getfield 26, 3) := by decide +kernel
theorem dX5_gives_145 : decode cX5_gives 145 = .ok (.iconst 1, 1) := by decide +kernel
theorem dX5_gives_146 : decode cX5_gives 146 = .ok (.iload 4, 2) := by decide +kernel
theorem dX5_gives_148 : decode cX5_gives 148 = .ok (.iastore, 1) := by decide +kernel
theorem dX5_gives_149 : decode cX5_gives 149 = .ok (.aload_n 0, 1) := by decide +kernel
theorem dX5_gives_150 : decode cX5_gives 150 = .ok (.getfield 26, 3) := by decide +kernel
theorem dX5_gives_153 : decode cX5_gives 153 = .ok (.iconst 2, 1) := by decide +kernel
theorem dX5_gives_154 : decode cX5_gives 154 = .ok (.iload 6, 2) := by decide +kernel
theorem dX5_gives_156 : decode cX5_gives 156 = .ok (.iastore, 1) := by decide +kernel
theorem dX5_gives_157 : decode cX5_gives 157 = .ok (.aload_n 0, 1) := by decide +kernel
theorem dX5_gives_158 : decode cX5_gives 158 = .ok (.getfield 26, 3) := by decide +kernel
theorem dX5_gives_161 : decode cX5_gives 161 = .ok (.iconst 3, 1) := by decide +kernel
theorem dX5_gives_162 : decode cX5_gives 162 = .ok (.iload 5, 2) := by decide +kernel
theorem dX5_gives_164 : decode cX5_gives 164 = .ok (.iastore, 1) := by decide +kernel
theorem dX5_gives_165 : decode cX5_gives 165 = .ok (.aload_n 0, 1) := by decide +kernel
theorem dX5_gives_166 : decode cX5_gives 166 = .ok (.getfield 26, 3) := by decide +kernel
theorem dX5_gives_169 : decode cX5_gives 169 = .ok (.iconst 4, 1) := by decide +kernel
theorem dX5_gives_170 : decode cX5_gives 170 = .ok (.iload 7, 2) := by decide +kernel
theorem dX5_gives_172 : decode cX5_gives 172 = .ok (.iastore, 1) := by decide +kernel
theorem dX5_gives_173 : decode cX5_gives 173 = .ok (.aload_n 0, 1) := by decide +kernel
theorem dX5_gives_174 : decode cX5_gives 174 = .ok (.getfield 26, 3) := by decide +kernel
theorem dX5_gives_177 : decode cX5_gives 177 = .ok (.iconst 5, 1) := by decide +kernel
theorem dX5_gives_178 : decode cX5_gives 178 = .ok (.iload 8, 2) := by decide +kernel
theorem dX5_gives_180 : decode cX5_gives 180 = .ok (.iastore, 1) := by decide +kernel
theorem dX5_gives_181 : decode cX5_gives 181 = .ok (.aload_n 0, 1) := by decide +kernel
theorem dX5_gives_182 : decode cX5_gives 182 = .ok (.getfield 32, 3) := by decide +kernel
theorem dX5_gives_185 : decode cX5_gives 185 = .ok (.iload 10, 2) := by decide +kernel
theorem dX5_gives_187 : decode cX5_gives 187 = .ok (.iload 9, 2) := by decide +kernel
theorem dX5_gives_189 : decode cX5_gives 189 = .ok (.bipush 6, 2) := by decide +kernel
theorem dX5_gives_191 : decode cX5_gives 191 = .ok (.ishl, 1) := by decide +kernel
theorem dX5_gives_192 : decode cX5_gives 192 = .ok (.aload_n 0, 1) := by decide +kernel
theorem dX5_gives_193 : decode cX5_gives 193 = .ok (.invokevirtual 72, 3) := by decide +kernel
theorem dX5_gives_196 : decode cX5_gives 196 = .ok (.invokestatic 68, 3) := by decide +kernel
theorem dX5_gives_199 : decode cX5_gives 199 = .ok (.bipush 20, 2) := by decide +kernel
theorem dX5_gives_201 : decode cX5_gives 201 = .ok (.iadd, 1) := by decide +kernel
theorem dX5_gives_202 : decode cX5_gives 202 = .ok (.ior, 1) := by decide +kernel
theorem dX5_gives_203 : decode cX5_gives 203 = .ok (.iastore, 1) := by decide +kernel
theorem dX5_gives_204 : decode cX5_gives 204 = .ok (.aload_n 0, 1) := by decide +kernel
theorem dX5_gives_205 : decode cX5_gives 205 = .ok (.getfield 32, 3) := by decide +kernel
theorem dX5_gives_208 : decode cX5_gives 208 = .ok (.iload 10, 2) := by decide +kernel
theorem dX5_gives_210 : decode cX5_gives 210 = .ok (.iaload, 1) := by decide +kernel
theorem dX5_gives_211 : decode cX5_gives 211 = .ok (.bipush 63, 2) := by decide +kernel
theorem dX5_gives_213 : decode cX5_gives 213 = .ok (.iand, 1) := by decide +kernel
theorem dX5_gives_214 : decode cX5_gives 214 = .ok (.bipush 20, 2) := by decide +kernel
theorem dX5_gives_216 : decode cX5_gives 216 = .ok (.isub, 1) := by decide +kernel
theorem dX5_gives_217 : decode cX5_gives 217 = .ok (.ireturn, 1) := by decide +kernel
theorem dX5_held_0 : decode cX5_held 0 = .ok (.bipush (-20), 2) := by decide +kernel
theorem dX5_held_2 : decode cX5_held 2 = .ok (.bipush 20, 2) := by decide +kernel
theorem dX5_held_4 : decode cX5_held 4 = .ok (.iload_n 0, 1) := by decide +kernel
theorem dX5_held_5 : decode cX5_held 5 = .ok (.invokestatic 76, 3) := by decide +kernel
theorem dX5_held_8 : decode cX5_held 8 = .ok (.invokestatic 82, 3) := by decide +kernel
theorem dX5_held_11 : decode cX5_held 11 = .ok (.ireturn, 1) := by decide +kernel
theorem dX5_worked_0 : decode cX5_worked 0 = .ok (.iconst 0, 1) := by decide +kernel
theorem dX5_worked_1 : decode cX5_worked 1 = .ok (.istore_n 1, 1) := by decide +kernel
theorem dX5_worked_2 : decode cX5_worked 2 = .ok (.iconst 0, 1) := by decide +kernel
theorem dX5_worked_3 : decode cX5_worked 3 = .ok (.istore_n 2, 1) := by decide +kernel
theorem dX5_worked_4 : decode cX5_worked 4 = .ok (.iload_n 2, 1) := by decide +kernel
theorem dX5_worked_5 : decode cX5_worked 5 = .ok (.aload_n 0, 1) := by decide +kernel
theorem dX5_worked_6 : decode cX5_worked 6 = .ok (.getfield 39, 3) := by decide +kernel
theorem dX5_worked_9 : decode cX5_worked 9 = .ok (.if_icmp .ge 49, 3) := by decide +kernel
theorem dX5_worked_12 : decode cX5_worked 12 = .ok (.aload_n 0, 1) := by decide +kernel
theorem dX5_worked_13 : decode cX5_worked 13 = .ok (.getfield 20, 3) := by decide +kernel
theorem dX5_worked_16 : decode cX5_worked 16 = .ok (.iload_n 2, 1) := by decide +kernel
theorem dX5_worked_17 : decode cX5_worked 17 = .ok (.iaload, 1) := by decide +kernel
theorem dX5_worked_18 : decode cX5_worked 18 = .ok (.istore_n 3, 1) := by decide +kernel
theorem dX5_worked_19 : decode cX5_worked 19 = .ok (.iload_n 3, 1) := by decide +kernel
theorem dX5_worked_20 : decode cX5_worked 20 = .ok (.iload_n 1, 1) := by decide +kernel
theorem dX5_worked_21 : decode cX5_worked 21 = .ok (.if_icmp .eq 12, 3) := by decide +kernel
theorem dX5_worked_24 : decode cX5_worked 24 = .ok (.aload_n 0, 1) := by decide +kernel
theorem dX5_worked_25 : decode cX5_worked 25 = .ok (.iload_n 1, 1) := by decide +kernel
theorem dX5_worked_26 : decode cX5_worked 26 = .ok (.iload_n 3, 1) := by decide +kernel
theorem dX5_worked_27 : decode cX5_worked 27 = .ok (.invokevirtual 85, 3) := by decide +kernel
theorem dX5_worked_30 : decode cX5_worked 30 = .ok (.ifCond .eq 15, 3) := by decide +kernel
theorem dX5_worked_33 : decode cX5_worked 33 = .ok (.aload_n 0, 1) := by decide +kernel
theorem dX5_worked_34 : decode cX5_worked 34 = .ok (.iload_n 3, 1) := by decide +kernel
theorem dX5_worked_35 : decode cX5_worked 35 = .ok (.aload_n 0, 1) := by decide +kernel
theorem dX5_worked_36 : decode cX5_worked 36 = .ok (.getfield 23, 3) := by decide +kernel
theorem dX5_worked_39 : decode cX5_worked 39 = .ok (.iload_n 2, 1) := by decide +kernel
theorem dX5_worked_40 : decode cX5_worked 40 = .ok (.iaload, 1) := by decide +kernel
theorem dX5_worked_41 : decode cX5_worked 41 = .ok (.invokevirtual 85, 3) := by decide +kernel
theorem dX5_worked_44 : decode cX5_worked 44 = .ok (.ireturn, 1) := by decide +kernel
theorem dX5_worked_45 : decode cX5_worked 45 = .ok (.aload_n 0, 1) := by decide +kernel
theorem dX5_worked_46 : decode cX5_worked 46 = .ok (.getfield 23, 3) := by decide +kernel
theorem dX5_worked_49 : decode cX5_worked 49 = .ok (.iload_n 2, 1) := by decide +kernel
theorem dX5_worked_50 : decode cX5_worked 50 = .ok (.iaload, 1) := by decide +kernel
theorem dX5_worked_51 : decode cX5_worked 51 = .ok (.istore_n 1, 1) := by decide +kernel
theorem dX5_worked_52 : decode cX5_worked 52 = .ok (.iinc 2 1, 3) := by decide +kernel
theorem dX5_worked_55 : decode cX5_worked 55 = .ok (.goto (-51), 3) := by decide +kernel
theorem dX5_worked_58 : decode cX5_worked 58 = .ok (.iconst 0, 1) := by decide +kernel
theorem dX5_worked_59 : decode cX5_worked 59 = .ok (.ireturn, 1) := by decide +kernel
theorem dX5_run_0 : decode cX5_run 0 = .ok (.iconst (-1), 1) := by decide +kernel
theorem dX5_run_1 : decode cX5_run 1 = .ok (.istore_n 3, 1) := by decide +kernel
theorem dX5_run_2 : decode cX5_run 2 = .ok (.iload_n 1, 1) := by decide +kernel
theorem dX5_run_3 : decode cX5_run 3 = .ok (.istore 4, 2) := by decide +kernel
theorem dX5_run_5 : decode cX5_run 5 = .ok (.iload 4, 2) := by decide +kernel
theorem dX5_run_7 : decode cX5_run 7 = .ok (.iload_n 2, 1) := by decide +kernel
theorem dX5_run_8 : decode cX5_run 8 = .ok (.if_icmp .ge 424, 3) := by decide +kernel
theorem dX5_run_11 : decode cX5_run 11 = .ok (.iload 4, 2) := by decide +kernel
theorem dX5_run_13 : decode cX5_run 13 = .ok (.bipush 120, 2) := by decide +kernel
theorem dX5_run_15 : decode cX5_run 15 = .ok (.if_icmp .ge 417, 3) := by decide +kernel
theorem dX5_run_18 : decode cX5_run 18 = .ok (.aload_n 0, 1) := by decide +kernel
theorem dX5_run_19 : decode cX5_run 19 = .ok (.getfield 11, 3) := by decide +kernel
theorem dX5_run_22 : decode cX5_run 22 = .ok (.iload 4, 2) := by decide +kernel
theorem dX5_run_24 : decode cX5_run 24 = .ok (.iaload, 1) := by decide +kernel
theorem dX5_run_25 : decode cX5_run 25 = .ok (.istore 5, 2) := by decide +kernel
theorem dX5_run_27 : decode cX5_run 27 = .ok (.aload_n 0, 1) := by decide +kernel
theorem dX5_run_28 : decode cX5_run 28 = .ok (.getfield 29, 3) := by decide +kernel
theorem dX5_run_31 : decode cX5_run 31 = .ok (.iload_n 3, 1) := by decide +kernel
theorem dX5_run_32 : decode cX5_run 32 = .ok (.bipush 63, 2) := by decide +kernel
theorem dX5_run_34 : decode cX5_run 34 = .ok (.iand, 1) := by decide +kernel
theorem dX5_run_35 : decode cX5_run 35 = .ok (.iaload, 1) := by decide +kernel
theorem dX5_run_36 : decode cX5_run 36 = .ok (.istore 6, 2) := by decide +kernel
theorem dX5_run_38 : decode cX5_run 38 = .ok (.iload 5, 2) := by decide +kernel
theorem dX5_run_40 : decode cX5_run 40 = .ok (.bipush 35, 2) := by decide +kernel
theorem dX5_run_42 : decode cX5_run 42 = .ok (.if_icmp .eq 10, 3) := by decide +kernel
theorem dX5_run_45 : decode cX5_run 45 = .ok (.iload 5, 2) := by decide +kernel
theorem dX5_run_47 : decode cX5_run 47 = .ok (.bipush 64, 2) := by decide +kernel
theorem dX5_run_49 : decode cX5_run 49 = .ok (.if_icmp .ne 50, 3) := by decide +kernel
theorem dX5_run_52 : decode cX5_run 52 = .ok (.iinc 3 1, 3) := by decide +kernel
theorem dX5_run_55 : decode cX5_run 55 = .ok (.aload_n 0, 1) := by decide +kernel
theorem dX5_run_56 : decode cX5_run 56 = .ok (.getfield 29, 3) := by decide +kernel
theorem dX5_run_59 : decode cX5_run 59 = .ok (.iload_n 3, 1) := by decide +kernel
theorem dX5_run_60 : decode cX5_run 60 = .ok (.bipush 63, 2) := by decide +kernel
theorem dX5_run_62 : decode cX5_run 62 = .ok (.iand, 1) := by decide +kernel
theorem dX5_run_63 : decode cX5_run 63 = .ok (.iload 5, 2) := by decide +kernel
theorem dX5_run_65 : decode cX5_run 65 = .ok (.bipush 35, 2) := by decide +kernel
theorem dX5_run_67 : decode cX5_run 67 = .ok (.if_icmp .ne 13, 3) := by decide +kernel
theorem dX5_run_70 : decode cX5_run 70 = .ok (.aload_n 0, 1) := by decide +kernel
theorem dX5_run_71 : decode cX5_run 71 = .ok (.getfield 17, 3) := by decide +kernel
theorem dX5_run_74 : decode cX5_run 74 = .ok (.iload 4, 2) := by decide +kernel
theorem dX5_run_76 : decode cX5_run 76 = .ok (.iaload, 1) := by decide +kernel
theorem dX5_run_77 : decode cX5_run 77 = .ok (.goto 18, 3) := by decide +kernel
theorem dX5_run_80 : decode cX5_run 80 = .ok (.aload_n 0, 1) := by decide +kernel
theorem dX5_run_81 : decode cX5_run 81 = .ok (.getfield 26, 3) := by decide +kernel
theorem dX5_run_84 : decode cX5_run 84 = .ok (.aload_n 0, 1) := by decide +kernel
theorem dX5_run_85 : decode cX5_run 85 = .ok (.getfield 17, 3) := by decide +kernel
theorem dX5_run_88 : decode cX5_run 88 = .ok (.iload 4, 2) := by decide +kernel
theorem dX5_run_90 : decode cX5_run 90 = .ok (.iaload, 1) := by decide +kernel
theorem dX5_run_91 : decode cX5_run 91 = .ok (.bipush 7, 2) := by decide +kernel
theorem dX5_run_93 : decode cX5_run 93 = .ok (.iand, 1) := by decide +kernel
theorem dX5_run_94 : decode cX5_run 94 = .ok (.iaload, 1) := by decide +kernel
theorem dX5_run_95 : decode cX5_run 95 = .ok (.iastore, 1) := by decide +kernel
theorem dX5_run_96 : decode cX5_run 96 = .ok (.goto 330, 3) := by decide +kernel
theorem dX5_run_99 : decode cX5_run 99 = .ok (.iload 5, 2) := by decide +kernel
theorem dX5_run_101 : decode cX5_run 101 = .ok (.bipush 126, 2) := by decide +kernel
theorem dX5_run_103 : decode cX5_run 103 = .ok (.if_icmp .eq 10, 3) := by decide +kernel
theorem dX5_run_106 : decode cX5_run 106 = .ok (.iload 5, 2) := by decide +kernel
theorem dX5_run_108 : decode cX5_run 108 = .ok (.bipush 33, 2) := by decide +kernel
theorem dX5_run_110 : decode cX5_run 110 = .ok (.if_icmp .ne 38, 3) := by decide +kernel
theorem dX5_run_113 : decode cX5_run 113 = .ok (.aload_n 0, 1) := by decide +kernel
theorem dX5_run_114 : decode cX5_run 114 = .ok (.getfield 29, 3) := by decide +kernel
theorem dX5_run_117 : decode cX5_run 117 = .ok (.iload_n 3, 1) := by decide +kernel
theorem dX5_run_118 : decode cX5_run 118 = .ok (.bipush 63, 2) := by decide +kernel
theorem dX5_run_120 : decode cX5_run 120 = .ok (.iand, 1) := by decide +kernel
theorem dX5_run_121 : decode cX5_run 121 = .ok (.iload 5, 2) := by decide +kernel
theorem dX5_run_123 : decode cX5_run 123 = .ok (.bipush 126, 2) := by decide +kernel
theorem dX5_run_125 : decode cX5_run 125 = .ok (.if_icmp .ne 9, 3) := by decide +kernel
theorem dX5_run_128 : decode cX5_run 128 = .ok (.iload 6, 2) := by decide +kernel
theorem dX5_run_130 : decode cX5_run 130 = .ok (.ineg, 1) := by decide +kernel
theorem dX5_run_131 : decode cX5_run 131 = .ok (.goto 13, 3) := by decide +kernel
theorem dX5_run_134 : decode cX5_run 134 = .ok (.iload 6, 2) := by decide +kernel
theorem dX5_run_136 : decode cX5_run 136 = .ok (.ifCond .ne 7, 3) := by decide +kernel
theorem dX5_run_139 : decode cX5_run 139 = .ok (.iconst 1, 1) := by decide +kernel
theorem dX5_run_140 : decode cX5_run 140 = .ok (.goto 4, 3) := by decide +kernel
theorem dX5_run_143 : decode cX5_run 143 = .ok (.iconst 0, 1) := by decide +kernel
theorem dX5_run_144 : decode cX5_run 144 = .ok (.iastore, 1) := by decide +kernel
theorem dX5_run_145 : decode cX5_run 145 = .ok (.goto 281, 3) := by decide +kernel
theorem dX5_run_148 : decode cX5_run 148 = .ok (.iinc 3 (-1), 3) := by decide +kernel
theorem dX5_run_151 : decode cX5_run 151 = .ok (.aload_n 0, 1) := by decide +kernel
theorem dX5_run_152 : decode cX5_run 152 = .ok (.getfield 29, 3) := by decide +kernel
theorem dX5_run_155 : decode cX5_run 155 = .ok (.iload_n 3, 1) := by decide +kernel
theorem dX5_run_156 : decode cX5_run 156 = .ok (.bipush 63, 2) := by decide +kernel
theorem dX5_run_158 : decode cX5_run 158 = .ok (.iand, 1) := by decide +kernel
theorem dX5_run_159 : decode cX5_run 159 = .ok (.iaload, 1) := by decide +kernel
theorem dX5_run_160 : decode cX5_run 160 = .ok (.istore 7, 2) := by decide +kernel
theorem dX5_run_162 : decode cX5_run 162 = .ok (.iconst 0, 1) := by decide +kernel
theorem dX5_run_163 : decode cX5_run 163 = .ok (.istore 8, 2) := by decide +kernel
theorem dX5_run_165 : decode cX5_run 165 = .ok (.iload 5, 2) := by decide +kernel
theorem dX5_run_167 : decode cX5_run 167 = .ok (.lookupswitch 248 #[(37, 229), (38, 109), (42, 200), (43, 180), (45, 190), (47, 210), (60, 129), (61, 146), (62, 163), (124, 89)], 89) := by decide +kernel
theorem dX5_run_256 : decode cX5_run 256 = .ok (.iload 7, 2) := by decide +kernel
theorem dX5_run_258 : decode cX5_run 258 = .ok (.ifCond .ne 8, 3) := by decide +kernel
theorem dX5_run_261 : decode cX5_run 261 = .ok (.iload 6, 2) := by decide +kernel
theorem dX5_run_263 : decode cX5_run 263 = .ok (.ifCond .eq 7, 3) := by decide +kernel
theorem dX5_run_266 : decode cX5_run 266 = .ok (.iconst 1, 1) := by decide +kernel
theorem dX5_run_267 : decode cX5_run 267 = .ok (.goto 4, 3) := by decide +kernel
theorem dX5_run_270 : decode cX5_run 270 = .ok (.iconst 0, 1) := by decide +kernel
theorem dX5_run_271 : decode cX5_run 271 = .ok (.istore 8, 2) := by decide +kernel
theorem dX5_run_273 : decode cX5_run 273 = .ok (.goto 142, 3) := by decide +kernel
theorem dX5_run_276 : decode cX5_run 276 = .ok (.iload 7, 2) := by decide +kernel
theorem dX5_run_278 : decode cX5_run 278 = .ok (.ifCond .eq 12, 3) := by decide +kernel
theorem dX5_run_281 : decode cX5_run 281 = .ok (.iload 6, 2) := by decide +kernel
theorem dX5_run_283 : decode cX5_run 283 = .ok (.ifCond .eq 7, 3) := by decide +kernel
theorem dX5_run_286 : decode cX5_run 286 = .ok (.iconst 1, 1) := by decide +kernel
theorem dX5_run_287 : decode cX5_run 287 = .ok (.goto 4, 3) := by decide +kernel
theorem dX5_run_290 : decode cX5_run 290 = .ok (.iconst 0, 1) := by decide +kernel
theorem dX5_run_291 : decode cX5_run 291 = .ok (.istore 8, 2) := by decide +kernel
theorem dX5_run_293 : decode cX5_run 293 = .ok (.goto 122, 3) := by decide +kernel
theorem dX5_run_296 : decode cX5_run 296 = .ok (.iload 7, 2) := by decide +kernel
theorem dX5_run_298 : decode cX5_run 298 = .ok (.iload 6, 2) := by decide +kernel
theorem dX5_run_300 : decode cX5_run 300 = .ok (.if_icmp .ge 7, 3) := by decide +kernel
theorem dX5_run_303 : decode cX5_run 303 = .ok (.iconst 1, 1) := by decide +kernel
theorem dX5_run_304 : decode cX5_run 304 = .ok (.goto 4, 3) := by decide +kernel
theorem dX5_run_307 : decode cX5_run 307 = .ok (.iconst 0, 1) := by decide +kernel
theorem dX5_run_308 : decode cX5_run 308 = .ok (.istore 8, 2) := by decide +kernel
theorem dX5_run_310 : decode cX5_run 310 = .ok (.goto 105, 3) := by decide +kernel
theorem dX5_run_313 : decode cX5_run 313 = .ok (.iload 7, 2) := by decide +kernel
theorem dX5_run_315 : decode cX5_run 315 = .ok (.iload 6, 2) := by decide +kernel
theorem dX5_run_317 : decode cX5_run 317 = .ok (.if_icmp .ne 7, 3) := by decide +kernel
theorem dX5_run_320 : decode cX5_run 320 = .ok (.iconst 1, 1) := by decide +kernel
theorem dX5_run_321 : decode cX5_run 321 = .ok (.goto 4, 3) := by decide +kernel
theorem dX5_run_324 : decode cX5_run 324 = .ok (.iconst 0, 1) := by decide +kernel
theorem dX5_run_325 : decode cX5_run 325 = .ok (.istore 8, 2) := by decide +kernel
theorem dX5_run_327 : decode cX5_run 327 = .ok (.goto 88, 3) := by decide +kernel
theorem dX5_run_330 : decode cX5_run 330 = .ok (.iload 7, 2) := by decide +kernel
theorem dX5_run_332 : decode cX5_run 332 = .ok (.iload 6, 2) := by decide +kernel
theorem dX5_run_334 : decode cX5_run 334 = .ok (.if_icmp .le 7, 3) := by decide +kernel
theorem dX5_run_337 : decode cX5_run 337 = .ok (.iconst 1, 1) := by decide +kernel
theorem dX5_run_338 : decode cX5_run 338 = .ok (.goto 4, 3) := by decide +kernel
theorem dX5_run_341 : decode cX5_run 341 = .ok (.iconst 0, 1) := by decide +kernel
theorem dX5_run_342 : decode cX5_run 342 = .ok (.istore 8, 2) := by decide +kernel
theorem dX5_run_344 : decode cX5_run 344 = .ok (.goto 71, 3) := by decide +kernel
theorem dX5_run_347 : decode cX5_run 347 = .ok (.iload 7, 2) := by decide +kernel
theorem dX5_run_349 : decode cX5_run 349 = .ok (.iload 6, 2) := by decide +kernel
theorem dX5_run_351 : decode cX5_run 351 = .ok (.iadd, 1) := by decide +kernel
theorem dX5_run_352 : decode cX5_run 352 = .ok (.istore 8, 2) := by decide +kernel
theorem dX5_run_354 : decode cX5_run 354 = .ok (.goto 61, 3) := by decide +kernel
theorem dX5_run_357 : decode cX5_run 357 = .ok (.iload 7, 2) := by decide +kernel
theorem dX5_run_359 : decode cX5_run 359 = .ok (.iload 6, 2) := by decide +kernel
theorem dX5_run_361 : decode cX5_run 361 = .ok (.isub, 1) := by decide +kernel
theorem dX5_run_362 : decode cX5_run 362 = .ok (.istore 8, 2) := by decide +kernel
theorem dX5_run_364 : decode cX5_run 364 = .ok (.goto 51, 3) := by decide +kernel
theorem dX5_run_367 : decode cX5_run 367 = .ok (.iload 7, 2) := by decide +kernel
theorem dX5_run_369 : decode cX5_run 369 = .ok (.iload 6, 2) := by decide +kernel
theorem dX5_run_371 : decode cX5_run 371 = .ok (.imul, 1) := by decide +kernel
theorem dX5_run_372 : decode cX5_run 372 = .ok (.istore 8, 2) := by decide +kernel
theorem dX5_run_374 : decode cX5_run 374 = .ok (.goto 41, 3) := by decide +kernel
theorem dX5_run_377 : decode cX5_run 377 = .ok (.iload 6, 2) := by decide +kernel
theorem dX5_run_379 : decode cX5_run 379 = .ok (.ifCond .ne 7, 3) := by decide +kernel
theorem dX5_run_382 : decode cX5_run 382 = .ok (.iconst 0, 1) := by decide +kernel
theorem dX5_run_383 : decode cX5_run 383 = .ok (.goto 8, 3) := by decide +kernel
theorem dX5_run_386 : decode cX5_run 386 = .ok (.iload 7, 2) := by decide +kernel
theorem dX5_run_388 : decode cX5_run 388 = .ok (.iload 6, 2) := by decide +kernel
theorem dX5_run_390 : decode cX5_run 390 = .ok (.idiv, 1) := by decide +kernel
theorem dX5_run_391 : decode cX5_run 391 = .ok (.istore 8, 2) := by decide +kernel
theorem dX5_run_393 : decode cX5_run 393 = .ok (.goto 22, 3) := by decide +kernel
theorem dX5_run_396 : decode cX5_run 396 = .ok (.iload 6, 2) := by decide +kernel
theorem dX5_run_398 : decode cX5_run 398 = .ok (.ifCond .ne 7, 3) := by decide +kernel
theorem dX5_run_401 : decode cX5_run 401 = .ok (.iconst 0, 1) := by decide +kernel
theorem dX5_run_402 : decode cX5_run 402 = .ok (.goto 8, 3) := by decide +kernel
theorem dX5_run_405 : decode cX5_run 405 = .ok (.iload 7, 2) := by decide +kernel
theorem dX5_run_407 : decode cX5_run 407 = .ok (.iload 6, 2) := by decide +kernel
theorem dX5_run_409 : decode cX5_run 409 = .ok (.irem, 1) := by decide +kernel
theorem dX5_run_410 : decode cX5_run 410 = .ok (.istore 8, 2) := by decide +kernel
theorem dX5_run_412 : decode cX5_run 412 = .ok (.goto 3, 3) := by decide +kernel
theorem dX5_run_415 : decode cX5_run 415 = .ok (.aload_n 0, 1) := by decide +kernel
theorem dX5_run_416 : decode cX5_run 416 = .ok (.getfield 29, 3) := by decide +kernel
theorem dX5_run_419 : decode cX5_run 419 = .ok (.iload_n 3, 1) := by decide +kernel
theorem dX5_run_420 : decode cX5_run 420 = .ok (.bipush 63, 2) := by decide +kernel
theorem dX5_run_422 : decode cX5_run 422 = .ok (.iand, 1) := by decide +kernel
theorem dX5_run_423 : decode cX5_run 423 = .ok (.iload 8, 2) := by decide +kernel
theorem dX5_run_425 : decode cX5_run 425 = .ok (.iastore, 1) := by decide +kernel
theorem dX5_run_426 : decode cX5_run 426 = .ok (.iinc 4 1, 3) := by decide +kernel
theorem dX5_run_429 : decode cX5_run 429 = .ok (.goto (-424), 3) := by decide +kernel
theorem dX5_run_432 : decode cX5_run 432 = .ok (.aload_n 0, 1) := by decide +kernel
theorem dX5_run_433 : decode cX5_run 433 = .ok (.getfield 29, 3) := by decide +kernel
theorem dX5_run_436 : decode cX5_run 436 = .ok (.iconst 0, 1) := by decide +kernel
theorem dX5_run_437 : decode cX5_run 437 = .ok (.iaload, 1) := by decide +kernel
theorem dX5_run_438 : decode cX5_run 438 = .ok (.ireturn, 1) := by decide +kernel
theorem dX6_init_0 : decode cX6_init 0 = .ok (.aload_n 0, 1) := by decide +kernel
theorem dX6_init_1 : decode cX6_init 1 = .ok (.invokespecial 3, 3) := by decide +kernel
theorem dX6_init_4 : decode cX6_init 4 = .ok (.aload_n 0, 1) := by decide +kernel
theorem dX6_init_5 : decode cX6_init 5 = .ok (.bipush 6, 2) := by decide +kernel
theorem dX6_init_7 : decode cX6_init 7 = .ok (.newarray .int, 2) := by decide +kernel
theorem dX6_init_9 : decode cX6_init 9 = .ok (.putfield 9, 3) := by decide +kernel
theorem dX6_init_12 : decode cX6_init 12 = .ok (.aload_n 0, 1) := by decide +kernel
theorem dX6_init_13 : decode cX6_init 13 = .ok (.bipush 6, 2) := by decide +kernel
theorem dX6_init_15 : decode cX6_init 15 = .ok (.newarray .int, 2) := by decide +kernel
theorem dX6_init_17 : decode cX6_init 17 = .ok (.putfield 15, 3) := by decide +kernel
theorem dX6_init_20 : decode cX6_init 20 = .ok (.aload_n 0, 1) := by decide +kernel
theorem dX6_init_21 : decode cX6_init 21 = .ok (.bipush 6, 2) := by decide +kernel
theorem dX6_init_23 : decode cX6_init 23 = .ok (.newarray .int, 2) := by decide +kernel
theorem dX6_init_25 : decode cX6_init 25 = .ok (.putfield 18, 3) := by decide +kernel
theorem dX6_init_28 : decode cX6_init 28 = .ok (.aload_n 0, 1) := by decide +kernel
theorem dX6_init_29 : decode cX6_init 29 = .ok (.aload_n 1, 1) := by decide +kernel
theorem dX6_init_30 : decode cX6_init 30 = .ok (.putfield 21, 3) := by decide +kernel
theorem dX6_init_33 : decode cX6_init 33 = .ok (.aload_n 0, 1) := by decide +kernel
theorem dX6_init_34 : decode cX6_init 34 = .ok (.aload_n 2, 1) := by decide +kernel
theorem dX6_init_35 : decode cX6_init 35 = .ok (.putfield 25, 3) := by decide +kernel
theorem dX6_init_38 : decode cX6_init 38 = .ok (.return_, 1) := by decide +kernel
theorem dX6_placeOf_0 : decode cX6_placeOf 0 = .ok (.aload_n 0, 1) := by decide +kernel
theorem dX6_placeOf_1 : decode cX6_placeOf 1 = .ok (.getfield 28, 3) := by decide +kernel
theorem dX6_placeOf_4 : decode cX6_placeOf 4 = .ok (.bipush (-2), 2) := by decide +kernel
theorem dX6_placeOf_6 : decode cX6_placeOf 6 = .ok (.if_icmp .eq 11, 3) := by decide +kernel
theorem dX6_placeOf_9 : decode cX6_placeOf 9 = .ok (.iload_n 1, 1) := by decide +kernel
theorem dX6_placeOf_10 : decode cX6_placeOf 10 = .ok (.aload_n 0, 1) := by decide +kernel
theorem dX6_placeOf_11 : decode cX6_placeOf 11 = .ok (.getfield 32, 3) := by decide +kernel
theorem dX6_placeOf_14 : decode cX6_placeOf 14 = .ok (.if_icmp .lt 8, 3) := by decide +kernel
theorem dX6_placeOf_17 : decode cX6_placeOf 17 = .ok (.bipush (-2), 2) := by decide +kernel
theorem dX6_placeOf_19 : decode cX6_placeOf 19 = .ok (.goto 9, 3) := by decide +kernel
theorem dX6_placeOf_22 : decode cX6_placeOf 22 = .ok (.aload_n 0, 1) := by decide +kernel
theorem dX6_placeOf_23 : decode cX6_placeOf 23 = .ok (.getfield 18, 3) := by decide +kernel
theorem dX6_placeOf_26 : decode cX6_placeOf 26 = .ok (.iload_n 1, 1) := by decide +kernel
theorem dX6_placeOf_27 : decode cX6_placeOf 27 = .ok (.iaload, 1) := by decide +kernel
theorem dX6_placeOf_28 : decode cX6_placeOf 28 = .ok (.ireturn, 1) := by decide +kernel
theorem dX6_seek_0 : decode cX6_seek 0 = .ok (.aload_n 0, 1) := by decide +kernel
theorem dX6_seek_1 : decode cX6_seek 1 = .ok (.aload_n 1, 1) := by decide +kernel
theorem dX6_seek_2 : decode cX6_seek 2 = .ok (.invokevirtual 35, 3) := by decide +kernel
theorem dX6_seek_5 : decode cX6_seek 5 = .ok (.aload_n 0, 1) := by decide +kernel
theorem dX6_seek_6 : decode cX6_seek 6 = .ok (.bipush (-2), 2) := by decide +kernel
theorem dX6_seek_8 : decode cX6_seek 8 = .ok (.putfield 28, 3) := by decide +kernel
theorem dX6_seek_11 : decode cX6_seek 11 = .ok (.iconst 0, 1) := by decide +kernel
theorem dX6_seek_12 : decode cX6_seek 12 = .ok (.istore_n 3, 1) := by decide +kernel
theorem dX6_seek_13 : decode cX6_seek 13 = .ok (.iload_n 3, 1) := by decide +kernel
theorem dX6_seek_14 : decode cX6_seek 14 = .ok (.aload_n 0, 1) := by decide +kernel
theorem dX6_seek_15 : decode cX6_seek 15 = .ok (.getfield 32, 3) := by decide +kernel
theorem dX6_seek_18 : decode cX6_seek 18 = .ok (.if_icmp .ge 30, 3) := by decide +kernel
theorem dX6_seek_21 : decode cX6_seek 21 = .ok (.aload_n 0, 1) := by decide +kernel
theorem dX6_seek_22 : decode cX6_seek 22 = .ok (.getfield 21, 3) := by decide +kernel
theorem dX6_seek_25 : decode cX6_seek 25 = .ok (.getfield 39, 3) := by decide +kernel
theorem dX6_seek_28 : decode cX6_seek 28 = .ok (.iload_n 3, 1) := by decide +kernel
theorem dX6_seek_29 : decode cX6_seek 29 = .ok (.iaload, 1) := by decide +kernel
theorem dX6_seek_30 : decode cX6_seek 30 = .ok (.iconst 5, 1) := by decide +kernel
theorem dX6_seek_31 : decode cX6_seek 31 = .ok (.if_icmp .lt 4, 3) := by decide +kernel
theorem dX6_seek_34 : decode cX6_seek 34 = .ok (.return_, 1) := by decide +kernel
theorem dX6_seek_35 : decode cX6_seek 35 = .ok (.aload_n 0, 1) := by decide +kernel
theorem dX6_seek_36 : decode cX6_seek 36 = .ok (.getfield 15, 3) := by decide +kernel
theorem dX6_seek_39 : decode cX6_seek 39 = .ok (.iload_n 3, 1) := by decide +kernel
theorem dX6_seek_40 : decode cX6_seek 40 = .ok (.iload_n 3, 1) := by decide +kernel
theorem dX6_seek_41 : decode cX6_seek 41 = .ok (.iastore, 1) := by decide +kernel
theorem dX6_seek_42 : decode cX6_seek 42 = .ok (.iinc 3 1, 3) := by decide +kernel
theorem dX6_seek_45 : decode cX6_seek 45 = .ok (.goto (-32), 3) := by decide +kernel
theorem dX6_seek_48 : decode cX6_seek 48 = .ok (.iconst 1, 1) := by decide +kernel
theorem dX6_seek_49 : decode cX6_seek 49 = .ok (.istore_n 3, 1) := by decide +kernel
theorem dX6_seek_50 : decode cX6_seek 50 = .ok (.iconst 0, 1) := by decide +kernel
theorem dX6_seek_51 : decode cX6_seek 51 = .ok (.istore 4, 2) := by decide +kernel
theorem dX6_seek_53 : decode cX6_seek 53 = .ok (.iload 4, 2) := by decide +kernel
theorem dX6_seek_55 : decode cX6_seek 55 = .ok (.sipush 720, 3) := by decide +kernel
theorem dX6_seek_58 : decode cX6_seek 58 = .ok (.if_icmp .ge 30, 3) := by decide +kernel
theorem dX6_seek_61 : decode cX6_seek 61 = .ok (.iload_n 3, 1) := by decide +kernel
theorem dX6_seek_62 : decode cX6_seek 62 = .ok (.ifCond .eq 26, 3) := by decide +kernel
theorem dX6_seek_65 : decode cX6_seek 65 = .ok (.aload_n 0, 1) := by decide +kernel
theorem dX6_seek_66 : decode cX6_seek 66 = .ok (.invokevirtual 44, 3) := by decide +kernel
theorem dX6_seek_69 : decode cX6_seek 69 = .ok (.ifCond .ne 8, 3) := by decide +kernel
theorem dX6_seek_72 : decode cX6_seek 72 = .ok (.aload_n 0, 1) := by decide +kernel
theorem dX6_seek_73 : decode cX6_seek 73 = .ok (.iload_n 2, 1) := by decide +kernel
theorem dX6_seek_74 : decode cX6_seek 74 = .ok (.invokevirtual 48, 3) := by decide +kernel
theorem dX6_seek_77 : decode cX6_seek 77 = .ok (.aload_n 0, 1) := by decide +kernel
theorem dX6_seek_78 : decode cX6_seek 78 = .ok (.invokevirtual 52, 3) := by decide +kernel
theorem dX6_seek_81 : decode cX6_seek 81 = .ok (.istore_n 3, 1) := by decide +kernel
theorem dX6_seek_82 : decode cX6_seek 82 = .ok (.iinc 4 1, 3) := by decide +kernel
theorem dX6_seek_85 : decode cX6_seek 85 = .ok (.goto (-32), 3) := by decide +kernel
theorem dX6_seek_88 : decode cX6_seek 88 = .ok (.return_, 1) := by decide +kernel
theorem dX6_takeLoads_0 : decode cX6_takeLoads 0 = .ok (.aload_n 0, 1) := by decide +kernel
theorem dX6_takeLoads_1 : decode cX6_takeLoads 1 = .ok (.iconst 0, 1) := by decide +kernel
theorem dX6_takeLoads_2 : decode cX6_takeLoads 2 = .ok (.putfield 32, 3) := by decide +kernel
theorem dX6_takeLoads_5 : decode cX6_takeLoads 5 = .ok (.iconst 0, 1) := by decide +kernel
theorem dX6_takeLoads_6 : decode cX6_takeLoads 6 = .ok (.istore_n 2, 1) := by decide +kernel
theorem dX6_takeLoads_7 : decode cX6_takeLoads 7 = .ok (.iload_n 2, 1) := by decide +kernel
theorem dX6_takeLoads_8 : decode cX6_takeLoads 8 = .ok (.aload_n 1, 1) := by decide +kernel
theorem dX6_takeLoads_9 : decode cX6_takeLoads 9 = .ok (.getfield 55, 3) := by decide +kernel
theorem dX6_takeLoads_12 : decode cX6_takeLoads 12 = .ok (.if_icmp .ge 58, 3) := by decide +kernel
theorem dX6_takeLoads_15 : decode cX6_takeLoads 15 = .ok (.iload_n 2, 1) := by decide +kernel
theorem dX6_takeLoads_16 : decode cX6_takeLoads 16 = .ok (.bipush 6, 2) := by decide +kernel
theorem dX6_takeLoads_18 : decode cX6_takeLoads 18 = .ok (.if_icmp .ge 52, 3) := by decide +kernel
theorem dX6_takeLoads_21 : decode cX6_takeLoads 21 = .ok (.aload_n 1, 1) := by decide +kernel
theorem dX6_takeLoads_22 : decode cX6_takeLoads 22 = .ok (.getfield 58, 3) := by decide +kernel
theorem dX6_takeLoads_25 : decode cX6_takeLoads 25 = .ok (.iload_n 2, 1) := by decide +kernel
theorem dX6_takeLoads_26 : decode cX6_takeLoads 26 = .ok (.laload, 1) := by decide +kernel
theorem dX6_takeLoads_27 : decode cX6_takeLoads 27 = .ok (.lstore_n 3, 1) := by decide +kernel
theorem dX6_takeLoads_28 : decode cX6_takeLoads 28 = .ok (.lload_n 3, 1) := by decide +kernel
theorem dX6_takeLoads_29 : decode cX6_takeLoads 29 = .ok (.lconst 0, 1) := by decide +kernel
theorem dX6_takeLoads_30 : decode cX6_takeLoads 30 = .ok (.lcmp, 1) := by decide +kernel
theorem dX6_takeLoads_31 : decode cX6_takeLoads 31 = .ok (.ifCond .lt 14, 3) := by decide +kernel
theorem dX6_takeLoads_34 : decode cX6_takeLoads 34 = .ok (.lload_n 3, 1) := by decide +kernel
theorem dX6_takeLoads_35 : decode cX6_takeLoads 35 = .ok (.getstatic 62, 3) := by decide +kernel
theorem dX6_takeLoads_38 : decode cX6_takeLoads 38 = .ok (.iconst 0, 1) := by decide +kernel
theorem dX6_takeLoads_39 : decode cX6_takeLoads 39 = .ok (.iaload, 1) := by decide +kernel
theorem dX6_takeLoads_40 : decode cX6_takeLoads 40 = .ok (.i2l, 1) := by decide +kernel
theorem dX6_takeLoads_41 : decode cX6_takeLoads 41 = .ok (.lcmp, 1) := by decide +kernel
theorem dX6_takeLoads_42 : decode cX6_takeLoads 42 = .ok (.ifCond .le 4, 3) := by decide +kernel
theorem dX6_takeLoads_45 : decode cX6_takeLoads 45 = .ok (.return_, 1) := by decide +kernel
theorem dX6_takeLoads_46 : decode cX6_takeLoads 46 = .ok (.aload_n 0, 1) := by decide +kernel
theorem dX6_takeLoads_47 : decode cX6_takeLoads 47 = .ok (.getfield 9, 3) := by decide +kernel
theorem dX6_takeLoads_50 : decode cX6_takeLoads 50 = .ok (.iload_n 2, 1) := by decide +kernel
theorem dX6_takeLoads_51 : decode cX6_takeLoads 51 = .ok (.lload_n 3, 1) := by decide +kernel
theorem dX6_takeLoads_52 : decode cX6_takeLoads 52 = .ok (.l2i, 1) := by decide +kernel
theorem dX6_takeLoads_53 : decode cX6_takeLoads 53 = .ok (.iastore, 1) := by decide +kernel
theorem dX6_takeLoads_54 : decode cX6_takeLoads 54 = .ok (.aload_n 0, 1) := by decide +kernel
theorem dX6_takeLoads_55 : decode cX6_takeLoads 55 = .ok (.dup, 1) := by decide +kernel
theorem dX6_takeLoads_56 : decode cX6_takeLoads 56 = .ok (.getfield 32, 3) := by decide +kernel
theorem dX6_takeLoads_59 : decode cX6_takeLoads 59 = .ok (.iconst 1, 1) := by decide +kernel
theorem dX6_takeLoads_60 : decode cX6_takeLoads 60 = .ok (.iadd, 1) := by decide +kernel
theorem dX6_takeLoads_61 : decode cX6_takeLoads 61 = .ok (.putfield 32, 3) := by decide +kernel
theorem dX6_takeLoads_64 : decode cX6_takeLoads 64 = .ok (.iinc 2 1, 3) := by decide +kernel
theorem dX6_takeLoads_67 : decode cX6_takeLoads 67 = .ok (.goto (-60), 3) := by decide +kernel
theorem dX6_takeLoads_70 : decode cX6_takeLoads 70 = .ok (.return_, 1) := by decide +kernel
theorem dX6_isRepeated_0 : decode cX6_isRepeated 0 = .ok (.iconst 1, 1) := by decide +kernel
theorem dX6_isRepeated_1 : decode cX6_isRepeated 1 = .ok (.istore_n 1, 1) := by decide +kernel
theorem dX6_isRepeated_2 : decode cX6_isRepeated 2 = .ok (.iload_n 1, 1) := by decide +kernel
theorem dX6_isRepeated_3 : decode cX6_isRepeated 3 = .ok (.aload_n 0, 1) := by decide +kernel
theorem dX6_isRepeated_4 : decode cX6_isRepeated 4 = .ok (.getfield 32, 3) := by decide +kernel
theorem dX6_isRepeated_7 : decode cX6_isRepeated 7 = .ok (.if_icmp .ge 64, 3) := by decide +kernel
theorem dX6_isRepeated_10 : decode cX6_isRepeated 10 = .ok (.iconst 0, 1) := by decide +kernel
theorem dX6_isRepeated_11 : decode cX6_isRepeated 11 = .ok (.istore_n 2, 1) := by decide +kernel
theorem dX6_isRepeated_12 : decode cX6_isRepeated 12 = .ok (.iload_n 2, 1) := by decide +kernel
theorem dX6_isRepeated_13 : decode cX6_isRepeated 13 = .ok (.iload_n 1, 1) := by decide +kernel
theorem dX6_isRepeated_14 : decode cX6_isRepeated 14 = .ok (.if_icmp .ge 51, 3) := by decide +kernel
theorem dX6_isRepeated_17 : decode cX6_isRepeated 17 = .ok (.aload_n 0, 1) := by decide +kernel
theorem dX6_isRepeated_18 : decode cX6_isRepeated 18 = .ok (.getfield 15, 3) := by decide +kernel
theorem dX6_isRepeated_21 : decode cX6_isRepeated 21 = .ok (.iload_n 2, 1) := by decide +kernel
theorem dX6_isRepeated_22 : decode cX6_isRepeated 22 = .ok (.iaload, 1) := by decide +kernel
theorem dX6_isRepeated_23 : decode cX6_isRepeated 23 = .ok (.aload_n 0, 1) := by decide +kernel
theorem dX6_isRepeated_24 : decode cX6_isRepeated 24 = .ok (.getfield 15, 3) := by decide +kernel
theorem dX6_isRepeated_27 : decode cX6_isRepeated 27 = .ok (.iload_n 1, 1) := by decide +kernel
theorem dX6_isRepeated_28 : decode cX6_isRepeated 28 = .ok (.iaload, 1) := by decide +kernel
theorem dX6_isRepeated_29 : decode cX6_isRepeated 29 = .ok (.if_icmp .le 30, 3) := by decide +kernel
theorem dX6_isRepeated_32 : decode cX6_isRepeated 32 = .ok (.aload_n 0, 1) := by decide +kernel
theorem dX6_isRepeated_33 : decode cX6_isRepeated 33 = .ok (.getfield 9, 3) := by decide +kernel
theorem dX6_isRepeated_36 : decode cX6_isRepeated 36 = .ok (.aload_n 0, 1) := by decide +kernel
theorem dX6_isRepeated_37 : decode cX6_isRepeated 37 = .ok (.getfield 15, 3) := by decide +kernel
theorem dX6_isRepeated_40 : decode cX6_isRepeated 40 = .ok (.iload_n 2, 1) := by decide +kernel
theorem dX6_isRepeated_41 : decode cX6_isRepeated 41 = .ok (.iaload, 1) := by decide +kernel
theorem dX6_isRepeated_42 : decode cX6_isRepeated 42 = .ok (.iaload, 1) := by decide +kernel
theorem dX6_isRepeated_43 : decode cX6_isRepeated 43 = .ok (.aload_n 0, 1) := by decide +kernel
theorem dX6_isRepeated_44 : decode cX6_isRepeated 44 = .ok (.getfield 9, 3) := by decide +kernel
theorem dX6_isRepeated_47 : decode cX6_isRepeated 47 = .ok (.aload_n 0, 1) := by decide +kernel
theorem dX6_isRepeated_48 : decode cX6_isRepeated 48 = .ok (.getfield 15, 3) := by decide +kernel
theorem dX6_isRepeated_51 : decode cX6_isRepeated 51 = .ok (.iload_n 1, 1) := by decide +kernel
theorem dX6_isRepeated_52 : decode cX6_isRepeated 52 = .ok (.iaload, 1) := by decide +kernel
theorem dX6_isRepeated_53 : decode cX6_isRepeated 53 = .ok (.iaload, 1) := by decide +kernel
theorem dX6_isRepeated_54 : decode cX6_isRepeated 54 = .ok (.if_icmp .ne 5, 3) := by decide +kernel
theorem dX6_isRepeated_57 : decode cX6_isRepeated 57 = .ok (.iconst 1, 1) := by decide +kernel
theorem dX6_isRepeated_58 : decode cX6_isRepeated 58 = .ok (.ireturn, 1) := by decide +kernel
theorem dX6_isRepeated_59 : decode cX6_isRepeated 59 = .ok (.iinc 2 1, 3) := by decide +kernel
theorem dX6_isRepeated_62 : decode cX6_isRepeated 62 = .ok (.goto (-50), 3) := by decide +kernel
theorem dX6_isRepeated_65 : decode cX6_isRepeated 65 = .ok (.iinc 1 1, 3) := by decide +kernel
theorem dX6_isRepeated_68 : decode cX6_isRepeated 68 = .ok (.goto (-66), 3) := by decide +kernel
theorem dX6_isRepeated_71 : decode cX6_isRepeated 71 = .ok (.iconst 0, 1) := by decide +kernel
theorem dX6_isRepeated_72 : decode cX6_isRepeated 72 = .ok (.ireturn, 1) := by decide +kernel
theorem dX6_weigh_0 : decode cX6_weigh 0 = .ok (.aload_n 0, 1) := by decide +kernel
theorem dX6_weigh_1 : decode cX6_weigh 1 = .ok (.getfield 25, 3) := by decide +kernel
theorem dX6_weigh_4 : decode cX6_weigh 4 = .ok (.aload_n 0, 1) := by decide +kernel
theorem dX6_weigh_5 : decode cX6_weigh 5 = .ok (.getfield 21, 3) := by decide +kernel
theorem dX6_weigh_8 : decode cX6_weigh 8 = .ok (.invokevirtual 65, 3) := by decide +kernel
theorem dX6_weigh_11 : decode cX6_weigh 11 = .ok (.iconst 0, 1) := by decide +kernel
theorem dX6_weigh_12 : decode cX6_weigh 12 = .ok (.istore_n 2, 1) := by decide +kernel
theorem dX6_weigh_13 : decode cX6_weigh 13 = .ok (.iload_n 2, 1) := by decide +kernel
theorem dX6_weigh_14 : decode cX6_weigh 14 = .ok (.aload_n 0, 1) := by decide +kernel
theorem dX6_weigh_15 : decode cX6_weigh 15 = .ok (.getfield 32, 3) := by decide +kernel
theorem dX6_weigh_18 : decode cX6_weigh 18 = .ok (.if_icmp .ge 30, 3) := by decide +kernel
theorem dX6_weigh_21 : decode cX6_weigh 21 = .ok (.aload_n 0, 1) := by decide +kernel
theorem dX6_weigh_22 : decode cX6_weigh 22 = .ok (.getfield 25, 3) := by decide +kernel
theorem dX6_weigh_25 : decode cX6_weigh 25 = .ok (.iload_n 2, 1) := by decide +kernel
theorem dX6_weigh_26 : decode cX6_weigh 26 = .ok (.aload_n 0, 1) := by decide +kernel
theorem dX6_weigh_27 : decode cX6_weigh 27 = .ok (.getfield 9, 3) := by decide +kernel
theorem dX6_weigh_30 : decode cX6_weigh 30 = .ok (.aload_n 0, 1) := by decide +kernel
theorem dX6_weigh_31 : decode cX6_weigh 31 = .ok (.getfield 15, 3) := by decide +kernel
theorem dX6_weigh_34 : decode cX6_weigh 34 = .ok (.iload_n 2, 1) := by decide +kernel
theorem dX6_weigh_35 : decode cX6_weigh 35 = .ok (.iaload, 1) := by decide +kernel
theorem dX6_weigh_36 : decode cX6_weigh 36 = .ok (.iaload, 1) := by decide +kernel
theorem dX6_weigh_37 : decode cX6_weigh 37 = .ok (.iconst 0, 1) := by decide +kernel
theorem dX6_weigh_38 : decode cX6_weigh 38 = .ok (.invokevirtual 69, 3) := by decide +kernel
theorem dX6_weigh_41 : decode cX6_weigh 41 = .ok (.pop, 1) := by decide +kernel
theorem dX6_weigh_42 : decode cX6_weigh 42 = .ok (.iinc 2 1, 3) := by decide +kernel
theorem dX6_weigh_45 : decode cX6_weigh 45 = .ok (.goto (-32), 3) := by decide +kernel
theorem dX6_weigh_48 : decode cX6_weigh 48 = .ok (.aload_n 0, 1) := by decide +kernel
theorem dX6_weigh_49 : decode cX6_weigh 49 = .ok (.getfield 25, 3) := by decide +kernel
theorem dX6_weigh_52 : decode cX6_weigh 52 = .ok (.iload_n 1, 1) := by decide +kernel
theorem dX6_weigh_53 : decode cX6_weigh 53 = .ok (.invokevirtual 73, 3) := by decide +kernel
theorem dX6_weigh_56 : decode cX6_weigh 56 = .ok (.istore_n 2, 1) := by decide +kernel
theorem dX6_weigh_57 : decode cX6_weigh 57 = .ok (.iload_n 2, 1) := by decide +kernel
theorem dX6_weigh_58 : decode cX6_weigh 58 = .ok (.ifCond .lt 40, 3) := by decide +kernel
theorem dX6_weigh_61 : decode cX6_weigh 61 = .ok (.aload_n 0, 1) := by decide +kernel
theorem dX6_weigh_62 : decode cX6_weigh 62 = .ok (.getfield 28, 3) := by decide +kernel
theorem dX6_weigh_65 : decode cX6_weigh 65 = .ok (.bipush (-2), 2) := by decide +kernel
theorem dX6_weigh_67 : decode cX6_weigh 67 = .ok (.if_icmp .eq 11, 3) := by decide +kernel
theorem dX6_weigh_70 : decode cX6_weigh 70 = .ok (.iload_n 2, 1) := by decide +kernel
theorem dX6_weigh_71 : decode cX6_weigh 71 = .ok (.aload_n 0, 1) := by decide +kernel
theorem dX6_weigh_72 : decode cX6_weigh 72 = .ok (.getfield 28, 3) := by decide +kernel
theorem dX6_weigh_75 : decode cX6_weigh 75 = .ok (.if_icmp .ge 23, 3) := by decide +kernel
theorem dX6_weigh_78 : decode cX6_weigh 78 = .ok (.aload_n 0, 1) := by decide +kernel
theorem dX6_weigh_79 : decode cX6_weigh 79 = .ok (.iload_n 2, 1) := by decide +kernel
theorem dX6_weigh_80 : decode cX6_weigh 80 = .ok (.putfield 28, 3) := by decide +kernel
theorem dX6_weigh_83 : decode cX6_weigh 83 = .ok (.aload_n 0, 1) := by decide +kernel
theorem dX6_weigh_84 : decode cX6_weigh 84 = .ok (.getfield 15, 3) := by decide +kernel
theorem dX6_weigh_87 : decode cX6_weigh 87 = .ok (.iconst 0, 1) := by decide +kernel
theorem dX6_weigh_88 : decode cX6_weigh 88 = .ok (.aload_n 0, 1) := by decide +kernel
theorem dX6_weigh_89 : decode cX6_weigh 89 = .ok (.getfield 18, 3) := by decide +kernel
theorem dX6_weigh_92 : decode cX6_weigh 92 = .ok (.iconst 0, 1) := by decide +kernel
theorem dX6_weigh_93 : decode cX6_weigh 93 = .ok (.bipush 6, 2) := by decide +kernel
theorem dX6_weigh_95 : decode cX6_weigh 95 = .ok (.invokestatic 77, 3) := by decide +kernel
theorem dX6_weigh_98 : decode cX6_weigh 98 = .ok (.return_, 1) := by decide +kernel
theorem dX6_goToNextOrder_0 : decode cX6_goToNextOrder 0 = .ok (.aload_n 0, 1) := by decide +kernel
theorem dX6_goToNextOrder_1 : decode cX6_goToNextOrder 1 = .ok (.getfield 32, 3) := by decide +kernel
theorem dX6_goToNextOrder_4 : decode cX6_goToNextOrder 4 = .ok (.iconst 2, 1) := by decide +kernel
theorem dX6_goToNextOrder_5 : decode cX6_goToNextOrder 5 = .ok (.isub, 1) := by decide +kernel
theorem dX6_goToNextOrder_6 : decode cX6_goToNextOrder 6 = .ok (.istore_n 1, 1) := by decide +kernel
theorem dX6_goToNextOrder_7 : decode cX6_goToNextOrder 7 = .ok (.iload_n 1, 1) := by decide +kernel
theorem dX6_goToNextOrder_8 : decode cX6_goToNextOrder 8 = .ok (.ifCond .lt 26, 3) := by decide +kernel
theorem dX6_goToNextOrder_11 : decode cX6_goToNextOrder 11 = .ok (.aload_n 0, 1) := by decide +kernel
theorem dX6_goToNextOrder_12 : decode cX6_goToNextOrder 12 = .ok (.getfield 15, 3) := by decide +kernel
theorem dX6_goToNextOrder_15 : decode cX6_goToNextOrder 15 = .ok (.iload_n 1, 1) := by decide +kernel
theorem dX6_goToNextOrder_16 : decode cX6_goToNextOrder 16 = .ok (.iaload, 1) := by decide +kernel
theorem dX6_goToNextOrder_17 : decode cX6_goToNextOrder 17 = .ok (.aload_n 0, 1) := by decide +kernel
theorem dX6_goToNextOrder_18 : decode cX6_goToNextOrder 18 = .ok (.getfield 15, 3) := by decide +kernel
theorem dX6_goToNextOrder_21 : decode cX6_goToNextOrder 21 = .ok (.iload_n 1, 1) := by decide +kernel
theorem dX6_goToNextOrder_22 : decode cX6_goToNextOrder 22 = .ok (.iconst 1, 1) := by decide +kernel
theorem dX6_goToNextOrder_23 : decode cX6_goToNextOrder 23 = .ok (.iadd, 1) := by decide +kernel
theorem dX6_goToNextOrder_24 : decode cX6_goToNextOrder 24 = .ok (.iaload, 1) := by decide +kernel
theorem dX6_goToNextOrder_25 : decode cX6_goToNextOrder 25 = .ok (.if_icmp .le 9, 3) := by decide +kernel
theorem dX6_goToNextOrder_28 : decode cX6_goToNextOrder 28 = .ok (.iinc 1 (-1), 3) := by decide +kernel
theorem dX6_goToNextOrder_31 : decode cX6_goToNextOrder 31 = .ok (.goto (-24), 3) := by decide +kernel
theorem dX6_goToNextOrder_34 : decode cX6_goToNextOrder 34 = .ok (.iload_n 1, 1) := by decide +kernel
theorem dX6_goToNextOrder_35 : decode cX6_goToNextOrder 35 = .ok (.ifCond .ge 5, 3) := by decide +kernel
theorem dX6_goToNextOrder_38 : decode cX6_goToNextOrder 38 = .ok (.iconst 0, 1) := by decide +kernel
theorem dX6_goToNextOrder_39 : decode cX6_goToNextOrder 39 = .ok (.ireturn, 1) := by decide +kernel
theorem dX6_goToNextOrder_40 : decode cX6_goToNextOrder 40 = .ok (.aload_n 0, 1) := by decide +kernel
theorem dX6_goToNextOrder_41 : decode cX6_goToNextOrder 41 = .ok (.getfield 32, 3) := by decide +kernel
theorem dX6_goToNextOrder_44 : decode cX6_goToNextOrder 44 = .ok (.iconst 1, 1) := by decide +kernel
theorem dX6_goToNextOrder_45 : decode cX6_goToNextOrder 45 = .ok (.isub, 1) := by decide +kernel
theorem dX6_goToNextOrder_46 : decode cX6_goToNextOrder 46 = .ok (.istore_n 2, 1) := by decide +kernel
theorem dX6_goToNextOrder_47 : decode cX6_goToNextOrder 47 = .ok (.iload_n 2, 1) := by decide +kernel
theorem dX6_goToNextOrder_48 : decode cX6_goToNextOrder 48 = .ok (.iload_n 1, 1) := by decide +kernel
theorem dX6_goToNextOrder_49 : decode cX6_goToNextOrder 49 = .ok (.if_icmp .le 24, 3) := by decide +kernel
theorem dX6_goToNextOrder_52 : decode cX6_goToNextOrder 52 = .ok (.aload_n 0, 1) := by decide +kernel
theorem dX6_goToNextOrder_53 : decode cX6_goToNextOrder 53 = .ok (.getfield 15, 3) := by decide +kernel
theorem dX6_goToNextOrder_56 : decode cX6_goToNextOrder 56 = .ok (.iload_n 2, 1) := by decide +kernel
theorem dX6_goToNextOrder_57 : decode cX6_goToNextOrder 57 = .ok (.iaload, 1) := by decide +kernel
theorem dX6_goToNextOrder_58 : decode cX6_goToNextOrder 58 = .ok (.aload_n 0, 1) := by decide +kernel
theorem dX6_goToNextOrder_59 : decode cX6_goToNextOrder 59 = .ok (.getfield 15, 3) := by decide +kernel
theorem dX6_goToNextOrder_62 : decode cX6_goToNextOrder 62 = .ok (.iload_n 1, 1) := by decide +kernel
theorem dX6_goToNextOrder_63 : decode cX6_goToNextOrder 63 = .ok (.iaload, 1) := by decide +kernel
theorem dX6_goToNextOrder_64 : decode cX6_goToNextOrder 64 = .ok (.if_icmp .ge 9, 3) := by decide +kernel
theorem dX6_goToNextOrder_67 : decode cX6_goToNextOrder 67 = .ok (.iinc 2 (-1), 3) := by decide +kernel
theorem dX6_goToNextOrder_70 : decode cX6_goToNextOrder 70 = .ok (.goto (-23), 3) := by decide +kernel
theorem dX6_goToNextOrder_73 : decode cX6_goToNextOrder 73 = .ok (.aload_n 0, 1) := by decide +kernel
theorem dX6_goToNextOrder_74 : decode cX6_goToNextOrder 74 = .ok (.iload_n 1, 1) := by decide +kernel
theorem dX6_goToNextOrder_75 : decode cX6_goToNextOrder 75 = .ok (.iload_n 2, 1) := by decide +kernel
theorem dX6_goToNextOrder_76 : decode cX6_goToNextOrder 76 = .ok (.invokevirtual 83, 3) := by decide +kernel
theorem dX6_goToNextOrder_79 : decode cX6_goToNextOrder 79 = .ok (.iload_n 1, 1) := by decide +kernel
theorem dX6_goToNextOrder_80 : decode cX6_goToNextOrder 80 = .ok (.iconst 1, 1) := by decide +kernel
theorem dX6_goToNextOrder_81 : decode cX6_goToNextOrder 81 = .ok (.iadd, 1) := by decide +kernel
theorem dX6_goToNextOrder_82 : decode cX6_goToNextOrder 82 = .ok (.istore_n 3, 1) := by decide +kernel
theorem dX6_goToNextOrder_83 : decode cX6_goToNextOrder 83 = .ok (.aload_n 0, 1) := by decide +kernel
theorem dX6_goToNextOrder_84 : decode cX6_goToNextOrder 84 = .ok (.getfield 32, 3) := by decide +kernel
theorem dX6_goToNextOrder_87 : decode cX6_goToNextOrder 87 = .ok (.iconst 1, 1) := by decide +kernel
theorem dX6_goToNextOrder_88 : decode cX6_goToNextOrder 88 = .ok (.isub, 1) := by decide +kernel
theorem dX6_goToNextOrder_89 : decode cX6_goToNextOrder 89 = .ok (.istore 4, 2) := by decide +kernel
theorem dX6_goToNextOrder_91 : decode cX6_goToNextOrder 91 = .ok (.iload_n 3, 1) := by decide +kernel
theorem dX6_goToNextOrder_92 : decode cX6_goToNextOrder 92 = .ok (.iload 4, 2) := by decide +kernel
theorem dX6_goToNextOrder_94 : decode cX6_goToNextOrder 94 = .ok (.if_icmp .ge 19, 3) := by decide +kernel
theorem dX6_goToNextOrder_97 : decode cX6_goToNextOrder 97 = .ok (.aload_n 0, 1) := by decide +kernel
theorem dX6_goToNextOrder_98 : decode cX6_goToNextOrder 98 = .ok (.iload_n 3, 1) := by decide +kernel
theorem dX6_goToNextOrder_99 : decode cX6_goToNextOrder 99 = .ok (.iload 4, 2) := by decide +kernel
theorem dX6_goToNextOrder_101 : decode cX6_goToNextOrder 101 = .ok (.invokevirtual 83, 3) := by decide +kernel
theorem dX6_goToNextOrder_104 : decode cX6_goToNextOrder 104 = .ok (.iinc 3 1, 3) := by decide +kernel
theorem dX6_goToNextOrder_107 : decode cX6_goToNextOrder 107 = .ok (.iinc 4 (-1), 3) := by decide +kernel
theorem dX6_goToNextOrder_110 : decode cX6_goToNextOrder 110 = .ok (.goto (-19), 3) := by decide +kernel
theorem dX6_goToNextOrder_113 : decode cX6_goToNextOrder 113 = .ok (.iconst 1, 1) := by decide +kernel
theorem dX6_goToNextOrder_114 : decode cX6_goToNextOrder 114 = .ok (.ireturn, 1) := by decide +kernel
theorem dX6_swap_0 : decode cX6_swap 0 = .ok (.aload_n 0, 1) := by decide +kernel
theorem dX6_swap_1 : decode cX6_swap 1 = .ok (.getfield 15, 3) := by decide +kernel
theorem dX6_swap_4 : decode cX6_swap 4 = .ok (.iload_n 1, 1) := by decide +kernel
theorem dX6_swap_5 : decode cX6_swap 5 = .ok (.iaload, 1) := by decide +kernel
theorem dX6_swap_6 : decode cX6_swap 6 = .ok (.istore_n 3, 1) := by decide +kernel
theorem dX6_swap_7 : decode cX6_swap 7 = .ok (.aload_n 0, 1) := by decide +kernel
theorem dX6_swap_8 : decode cX6_swap 8 = .ok (.getfield 15, 3) := by decide +kernel
theorem dX6_swap_11 : decode cX6_swap 11 = .ok (.iload_n 1, 1) := by decide +kernel
theorem dX6_swap_12 : decode cX6_swap 12 = .ok (.aload_n 0, 1) := by decide +kernel
theorem dX6_swap_13 : decode cX6_swap 13 = .ok (.getfield 15, 3) := by decide +kernel
theorem dX6_swap_16 : decode cX6_swap 16 = .ok (.iload_n 2, 1) := by decide +kernel
theorem dX6_swap_17 : decode cX6_swap 17 = .ok (.iaload, 1) := by decide +kernel
theorem dX6_swap_18 : decode cX6_swap 18 = .ok (.iastore, 1) := by decide +kernel
theorem dX6_swap_19 : decode cX6_swap 19 = .ok (.aload_n 0, 1) := by decide +kernel
theorem dX6_swap_20 : decode cX6_swap 20 = .ok (.getfield 15, 3) := by decide +kernel
theorem dX6_swap_23 : decode cX6_swap 23 = .ok (.iload_n 2, 1) := by decide +kernel
theorem dX6_swap_24 : decode cX6_swap 24 = .ok (.iload_n 3, 1) := by decide +kernel
theorem dX6_swap_25 : decode cX6_swap 25 = .ok (.iastore, 1) := by decide +kernel
theorem dX6_swap_26 : decode cX6_swap 26 = .ok (.return_, 1) := by decide +kernel
theorem dX7_init_0 : decode cX7_init 0 = .ok (.aload_n 0, 1) := by decide +kernel
theorem dX7_init_1 : decode cX7_init 1 = .ok (.invokespecial 3, 3) := by decide +kernel
theorem dX7_init_4 : decode cX7_init 4 = .ok (.aload_n 0, 1) := by decide +kernel
theorem dX7_init_5 : decode cX7_init 5 = .ok (.bipush 30, 2) := by decide +kernel
theorem dX7_init_7 : decode cX7_init 7 = .ok (.newarray .int, 2) := by decide +kernel
theorem dX7_init_9 : decode cX7_init 9 = .ok (.putfield 9, 3) := by decide +kernel
theorem dX7_init_12 : decode cX7_init 12 = .ok (.aload_n 0, 1) := by decide +kernel
theorem dX7_init_13 : decode cX7_init 13 = .ok (.aload_n 1, 1) := by decide +kernel
theorem dX7_init_14 : decode cX7_init 14 = .ok (.putfield 15, 3) := by decide +kernel
theorem dX7_init_17 : decode cX7_init 17 = .ok (.return_, 1) := by decide +kernel
theorem dX7_fewest_0 : decode cX7_fewest 0 = .ok (.iconst 0, 1) := by decide +kernel
theorem dX7_fewest_1 : decode cX7_fewest 1 = .ok (.istore_n 2, 1) := by decide +kernel
theorem dX7_fewest_2 : decode cX7_fewest 2 = .ok (.iconst 0, 1) := by decide +kernel
theorem dX7_fewest_3 : decode cX7_fewest 3 = .ok (.istore_n 3, 1) := by decide +kernel
theorem dX7_fewest_4 : decode cX7_fewest 4 = .ok (.iload_n 3, 1) := by decide +kernel
theorem dX7_fewest_5 : decode cX7_fewest 5 = .ok (.bipush 30, 2) := by decide +kernel
theorem dX7_fewest_7 : decode cX7_fewest 7 = .ok (.if_icmp .ge 68, 3) := by decide +kernel
theorem dX7_fewest_10 : decode cX7_fewest 10 = .ok (.aload_n 0, 1) := by decide +kernel
theorem dX7_fewest_11 : decode cX7_fewest 11 = .ok (.getfield 9, 3) := by decide +kernel
theorem dX7_fewest_14 : decode cX7_fewest 14 = .ok (.iload_n 3, 1) := by decide +kernel
theorem dX7_fewest_15 : decode cX7_fewest 15 = .ok (.aload_n 0, 1) := by decide +kernel
theorem dX7_fewest_16 : decode cX7_fewest 16 = .ok (.getfield 15, 3) := by decide +kernel
theorem dX7_fewest_19 : decode cX7_fewest 19 = .ok (.iload_n 3, 1) := by decide +kernel
theorem dX7_fewest_20 : decode cX7_fewest 20 = .ok (.invokevirtual 19, 3) := by decide +kernel
theorem dX7_fewest_23 : decode cX7_fewest 23 = .ok (.ifCond .eq 14, 3) := by decide +kernel
theorem dX7_fewest_26 : decode cX7_fewest 26 = .ok (.aload_n 0, 1) := by decide +kernel
theorem dX7_fewest_27 : decode cX7_fewest 27 = .ok (.getfield 15, 3) := by decide +kernel
theorem dX7_fewest_30 : decode cX7_fewest 30 = .ok (.iload_n 3, 1) := by decide +kernel
theorem dX7_fewest_31 : decode cX7_fewest 31 = .ok (.invokevirtual 25, 3) := by decide +kernel
theorem dX7_fewest_34 : decode cX7_fewest 34 = .ok (.goto 4, 3) := by decide +kernel
theorem dX7_fewest_37 : decode cX7_fewest 37 = .ok (.iconst 0, 1) := by decide +kernel
theorem dX7_fewest_38 : decode cX7_fewest 38 = .ok (.iastore, 1) := by decide +kernel
theorem dX7_fewest_39 : decode cX7_fewest 39 = .ok (.aload_n 0, 1) := by decide +kernel
theorem dX7_fewest_40 : decode cX7_fewest 40 = .ok (.getfield 15, 3) := by decide +kernel
theorem dX7_fewest_43 : decode cX7_fewest 43 = .ok (.iload_n 3, 1) := by decide +kernel
theorem dX7_fewest_44 : decode cX7_fewest 44 = .ok (.invokevirtual 19, 3) := by decide +kernel
theorem dX7_fewest_47 : decode cX7_fewest 47 = .ok (.ifCond .eq 22, 3) := by decide +kernel
theorem dX7_fewest_50 : decode cX7_fewest 50 = .ok (.aload_n 0, 1) := by decide +kernel
theorem dX7_fewest_51 : decode cX7_fewest 51 = .ok (.getfield 15, 3) := by decide +kernel
theorem dX7_fewest_54 : decode cX7_fewest 54 = .ok (.getfield 29, 3) := by decide +kernel
theorem dX7_fewest_57 : decode cX7_fewest 57 = .ok (.iload_n 3, 1) := by decide +kernel
theorem dX7_fewest_58 : decode cX7_fewest 58 = .ok (.iaload, 1) := by decide +kernel
theorem dX7_fewest_59 : decode cX7_fewest 59 = .ok (.iload_n 1, 1) := by decide +kernel
theorem dX7_fewest_60 : decode cX7_fewest 60 = .ok (.if_icmp .lt 9, 3) := by decide +kernel
theorem dX7_fewest_63 : decode cX7_fewest 63 = .ok (.iload_n 2, 1) := by decide +kernel
theorem dX7_fewest_64 : decode cX7_fewest 64 = .ok (.iconst 1, 1) := by decide +kernel
theorem dX7_fewest_65 : decode cX7_fewest 65 = .ok (.iload_n 3, 1) := by decide +kernel
theorem dX7_fewest_66 : decode cX7_fewest 66 = .ok (.ishl, 1) := by decide +kernel
theorem dX7_fewest_67 : decode cX7_fewest 67 = .ok (.ior, 1) := by decide +kernel
theorem dX7_fewest_68 : decode cX7_fewest 68 = .ok (.istore_n 2, 1) := by decide +kernel
theorem dX7_fewest_69 : decode cX7_fewest 69 = .ok (.iinc 3 1, 3) := by decide +kernel
theorem dX7_fewest_72 : decode cX7_fewest 72 = .ok (.goto (-68), 3) := by decide +kernel
theorem dX7_fewest_75 : decode cX7_fewest 75 = .ok (.aload_n 0, 1) := by decide +kernel
theorem dX7_fewest_76 : decode cX7_fewest 76 = .ok (.iconst (-1), 1) := by decide +kernel
theorem dX7_fewest_77 : decode cX7_fewest 77 = .ok (.putfield 32, 3) := by decide +kernel
theorem dX7_fewest_80 : decode cX7_fewest 80 = .ok (.iconst 0, 1) := by decide +kernel
theorem dX7_fewest_81 : decode cX7_fewest 81 = .ok (.istore_n 3, 1) := by decide +kernel
theorem dX7_fewest_82 : decode cX7_fewest 82 = .ok (.iload_n 3, 1) := by decide +kernel
theorem dX7_fewest_83 : decode cX7_fewest 83 = .ok (.iconst 4, 1) := by decide +kernel
theorem dX7_fewest_84 : decode cX7_fewest 84 = .ok (.if_icmp .gt 26, 3) := by decide +kernel
theorem dX7_fewest_87 : decode cX7_fewest 87 = .ok (.aload_n 0, 1) := by decide +kernel
theorem dX7_fewest_88 : decode cX7_fewest 88 = .ok (.iload_n 2, 1) := by decide +kernel
theorem dX7_fewest_89 : decode cX7_fewest 89 = .ok (.iconst 0, 1) := by decide +kernel
theorem dX7_fewest_90 : decode cX7_fewest 90 = .ok (.iload_n 3, 1) := by decide +kernel
theorem dX7_fewest_91 : decode cX7_fewest 91 = .ok (.invokevirtual 36, 3) := by decide +kernel
theorem dX7_fewest_94 : decode cX7_fewest 94 = .ok (.aload_n 0, 1) := by decide +kernel
theorem dX7_fewest_95 : decode cX7_fewest 95 = .ok (.getfield 32, 3) := by decide +kernel
theorem dX7_fewest_98 : decode cX7_fewest 98 = .ok (.iconst (-1), 1) := by decide +kernel
theorem dX7_fewest_99 : decode cX7_fewest 99 = .ok (.if_icmp .eq 5, 3) := by decide +kernel
theorem dX7_fewest_102 : decode cX7_fewest 102 = .ok (.iload_n 3, 1) := by decide +kernel
theorem dX7_fewest_103 : decode cX7_fewest 103 = .ok (.ireturn, 1) := by decide +kernel
theorem dX7_fewest_104 : decode cX7_fewest 104 = .ok (.iinc 3 1, 3) := by decide +kernel
theorem dX7_fewest_107 : decode cX7_fewest 107 = .ok (.goto (-25), 3) := by decide +kernel
theorem dX7_fewest_110 : decode cX7_fewest 110 = .ok (.bipush (-2), 2) := by decide +kernel
theorem dX7_fewest_112 : decode cX7_fewest 112 = .ok (.ireturn, 1) := by decide +kernel
theorem dX7_place_0 : decode cX7_place 0 = .ok (.iload_n 1, 1) := by decide +kernel
theorem dX7_place_1 : decode cX7_place 1 = .ok (.ifCond .ne 25, 3) := by decide +kernel
theorem dX7_place_4 : decode cX7_place 4 = .ok (.aload_n 0, 1) := by decide +kernel
theorem dX7_place_5 : decode cX7_place 5 = .ok (.getfield 32, 3) := by decide +kernel
theorem dX7_place_8 : decode cX7_place 8 = .ok (.iconst (-1), 1) := by decide +kernel
theorem dX7_place_9 : decode cX7_place 9 = .ok (.if_icmp .eq 11, 3) := by decide +kernel
theorem dX7_place_12 : decode cX7_place 12 = .ok (.iload_n 2, 1) := by decide +kernel
theorem dX7_place_13 : decode cX7_place 13 = .ok (.aload_n 0, 1) := by decide +kernel
theorem dX7_place_14 : decode cX7_place 14 = .ok (.getfield 32, 3) := by decide +kernel
theorem dX7_place_17 : decode cX7_place 17 = .ok (.if_icmp .ge 8, 3) := by decide +kernel
theorem dX7_place_20 : decode cX7_place 20 = .ok (.aload_n 0, 1) := by decide +kernel
theorem dX7_place_21 : decode cX7_place 21 = .ok (.iload_n 2, 1) := by decide +kernel
theorem dX7_place_22 : decode cX7_place 22 = .ok (.putfield 32, 3) := by decide +kernel
theorem dX7_place_25 : decode cX7_place 25 = .ok (.return_, 1) := by decide +kernel
theorem dX7_place_26 : decode cX7_place 26 = .ok (.iload_n 3, 1) := by decide +kernel
theorem dX7_place_27 : decode cX7_place 27 = .ok (.ifCond .gt 4, 3) := by decide +kernel
theorem dX7_place_30 : decode cX7_place 30 = .ok (.return_, 1) := by decide +kernel
theorem dX7_place_31 : decode cX7_place 31 = .ok (.iload_n 1, 1) := by decide +kernel
theorem dX7_place_32 : decode cX7_place 32 = .ok (.invokestatic 40, 3) := by decide +kernel
theorem dX7_place_35 : decode cX7_place 35 = .ok (.istore 4, 2) := by decide +kernel
theorem dX7_place_37 : decode cX7_place 37 = .ok (.iconst 0, 1) := by decide +kernel
theorem dX7_place_38 : decode cX7_place 38 = .ok (.istore 5, 2) := by decide +kernel
theorem dX7_place_40 : decode cX7_place 40 = .ok (.iload 5, 2) := by decide +kernel
theorem dX7_place_42 : decode cX7_place 42 = .ok (.bipush 30, 2) := by decide +kernel
theorem dX7_place_44 : decode cX7_place 44 = .ok (.if_icmp .ge 48, 3) := by decide +kernel
theorem dX7_place_47 : decode cX7_place 47 = .ok (.aload_n 0, 1) := by decide +kernel
theorem dX7_place_48 : decode cX7_place 48 = .ok (.getfield 9, 3) := by decide +kernel
theorem dX7_place_51 : decode cX7_place 51 = .ok (.iload 5, 2) := by decide +kernel
theorem dX7_place_53 : decode cX7_place 53 = .ok (.iaload, 1) := by decide +kernel
theorem dX7_place_54 : decode cX7_place 54 = .ok (.iload 4, 2) := by decide +kernel
theorem dX7_place_56 : decode cX7_place 56 = .ok (.ishr, 1) := by decide +kernel
theorem dX7_place_57 : decode cX7_place 57 = .ok (.iconst 1, 1) := by decide +kernel
theorem dX7_place_58 : decode cX7_place 58 = .ok (.iand, 1) := by decide +kernel
theorem dX7_place_59 : decode cX7_place 59 = .ok (.ifCond .eq 27, 3) := by decide +kernel
theorem dX7_place_62 : decode cX7_place 62 = .ok (.aload_n 0, 1) := by decide +kernel
theorem dX7_place_63 : decode cX7_place 63 = .ok (.iload_n 1, 1) := by decide +kernel
theorem dX7_place_64 : decode cX7_place 64 = .ok (.aload_n 0, 1) := by decide +kernel
theorem dX7_place_65 : decode cX7_place 65 = .ok (.getfield 9, 3) := by decide +kernel
theorem dX7_place_68 : decode cX7_place 68 = .ok (.iload 5, 2) := by decide +kernel
theorem dX7_place_70 : decode cX7_place 70 = .ok (.iaload, 1) := by decide +kernel
theorem dX7_place_71 : decode cX7_place 71 = .ok (.iconst (-1), 1) := by decide +kernel
theorem dX7_place_72 : decode cX7_place 72 = .ok (.ixor, 1) := by decide +kernel
theorem dX7_place_73 : decode cX7_place 73 = .ok (.iand, 1) := by decide +kernel
theorem dX7_place_74 : decode cX7_place 74 = .ok (.iload_n 2, 1) := by decide +kernel
theorem dX7_place_75 : decode cX7_place 75 = .ok (.iconst 1, 1) := by decide +kernel
theorem dX7_place_76 : decode cX7_place 76 = .ok (.iload 5, 2) := by decide +kernel
theorem dX7_place_78 : decode cX7_place 78 = .ok (.ishl, 1) := by decide +kernel
theorem dX7_place_79 : decode cX7_place 79 = .ok (.ior, 1) := by decide +kernel
theorem dX7_place_80 : decode cX7_place 80 = .ok (.iload_n 3, 1) := by decide +kernel
theorem dX7_place_81 : decode cX7_place 81 = .ok (.iconst 1, 1) := by decide +kernel
theorem dX7_place_82 : decode cX7_place 82 = .ok (.isub, 1) := by decide +kernel
theorem dX7_place_83 : decode cX7_place 83 = .ok (.invokevirtual 36, 3) := by decide +kernel
theorem dX7_place_86 : decode cX7_place 86 = .ok (.iinc 5 1, 3) := by decide +kernel
theorem dX7_place_89 : decode cX7_place 89 = .ok (.goto (-49), 3) := by decide +kernel
theorem dX7_place_92 : decode cX7_place 92 = .ok (.return_, 1) := by decide +kernel
theorem dX8_init_0 : decode cX8_init 0 = .ok (.aload_n 0, 1) := by decide +kernel
theorem dX8_init_1 : decode cX8_init 1 = .ok (.invokespecial 3, 3) := by decide +kernel
theorem dX8_init_4 : decode cX8_init 4 = .ok (.aload_n 0, 1) := by decide +kernel
theorem dX8_init_5 : decode cX8_init 5 = .ok (.iconst 0, 1) := by decide +kernel
theorem dX8_init_6 : decode cX8_init 6 = .ok (.putfield 11, 3) := by decide +kernel
theorem dX8_init_9 : decode cX8_init 9 = .ok (.aload_n 0, 1) := by decide +kernel
theorem dX8_init_10 : decode cX8_init 10 = .ok (.bipush 60, 2) := by decide +kernel
theorem dX8_init_12 : decode cX8_init 12 = .ok (.newarray .long, 2) := by decide +kernel
theorem dX8_init_14 : decode cX8_init 14 = .ok (.putfield 15, 3) := by decide +kernel
theorem dX8_init_17 : decode cX8_init 17 = .ok (.return_, 1) := by decide +kernel
theorem dX8_holdRow_0 : decode cX8_holdRow 0 = .ok (.aload_n 0, 1) := by decide +kernel
theorem dX8_holdRow_1 : decode cX8_holdRow 1 = .ok (.iconst 2, 1) := by decide +kernel
theorem dX8_holdRow_2 : decode cX8_holdRow 2 = .ok (.putfield 11, 3) := by decide +kernel
theorem dX8_holdRow_5 : decode cX8_holdRow 5 = .ok (.aload_n 0, 1) := by decide +kernel
theorem dX8_holdRow_6 : decode cX8_holdRow 6 = .ok (.iload_n 1, 1) := by decide +kernel
theorem dX8_holdRow_7 : decode cX8_holdRow 7 = .ok (.putfield 22, 3) := by decide +kernel
theorem dX8_holdRow_10 : decode cX8_holdRow 10 = .ok (.aload_n 0, 1) := by decide +kernel
theorem dX8_holdRow_11 : decode cX8_holdRow 11 = .ok (.iload_n 2, 1) := by decide +kernel
theorem dX8_holdRow_12 : decode cX8_holdRow 12 = .ok (.putfield 25, 3) := by decide +kernel
theorem dX8_holdRow_15 : decode cX8_holdRow 15 = .ok (.iconst 0, 1) := by decide +kernel
theorem dX8_holdRow_16 : decode cX8_holdRow 16 = .ok (.istore_n 3, 1) := by decide +kernel
theorem dX8_holdRow_17 : decode cX8_holdRow 17 = .ok (.iload_n 3, 1) := by decide +kernel
theorem dX8_holdRow_18 : decode cX8_holdRow 18 = .ok (.bipush 60, 2) := by decide +kernel
theorem dX8_holdRow_20 : decode cX8_holdRow 20 = .ok (.if_icmp .ge 16, 3) := by decide +kernel
theorem dX8_holdRow_23 : decode cX8_holdRow 23 = .ok (.aload_n 0, 1) := by decide +kernel
theorem dX8_holdRow_24 : decode cX8_holdRow 24 = .ok (.getfield 15, 3) := by decide +kernel
theorem dX8_holdRow_27 : decode cX8_holdRow 27 = .ok (.iload_n 3, 1) := by decide +kernel
theorem dX8_holdRow_28 : decode cX8_holdRow 28 = .ok (.lconst 0, 1) := by decide +kernel
theorem dX8_holdRow_29 : decode cX8_holdRow 29 = .ok (.lastore, 1) := by decide +kernel
theorem dX8_holdRow_30 : decode cX8_holdRow 30 = .ok (.iinc 3 1, 3) := by decide +kernel
theorem dX8_holdRow_33 : decode cX8_holdRow 33 = .ok (.goto (-16), 3) := by decide +kernel
theorem dX8_holdRow_36 : decode cX8_holdRow 36 = .ok (.return_, 1) := by decide +kernel
theorem dX8_refusalOfBytes_0 : decode cX8_refusalOfBytes 0 = .ok (.aload_n 0, 1) := by decide +kernel
theorem dX8_refusalOfBytes_1 : decode cX8_refusalOfBytes 1 = .ok (.getfield 11, 3) := by decide +kernel
theorem dX8_refusalOfBytes_4 : decode cX8_refusalOfBytes 4 = .ok (.ifCond .ne 6, 3) := by decide +kernel
theorem dX8_refusalOfBytes_7 : decode cX8_refusalOfBytes 7 = .ok (.bipush (-11), 2) := by decide +kernel
theorem dX8_refusalOfBytes_9 : decode cX8_refusalOfBytes 9 = .ok (.ireturn, 1) := by decide +kernel
theorem dX8_refusalOfBytes_10 : decode cX8_refusalOfBytes 10 = .ok (.aload_n 0, 1) := by decide +kernel
theorem dX8_refusalOfBytes_11 : decode cX8_refusalOfBytes 11 = .ok (.getfield 11, 3) := by decide +kernel
theorem dX8_refusalOfBytes_14 : decode cX8_refusalOfBytes 14 = .ok (.iconst 2, 1) := by decide +kernel
theorem dX8_refusalOfBytes_15 : decode cX8_refusalOfBytes 15 = .ok (.if_icmp .ne 14, 3) := by decide +kernel
theorem dX8_refusalOfBytes_18 : decode cX8_refusalOfBytes 18 = .ok (.aload_n 0, 1) := by decide +kernel
theorem dX8_refusalOfBytes_19 : decode cX8_refusalOfBytes 19 = .ok (.getfield 22, 3) := by decide +kernel
theorem dX8_refusalOfBytes_22 : decode cX8_refusalOfBytes 22 = .ok (.ifCond .ne 7, 3) := by decide +kernel
theorem dX8_refusalOfBytes_25 : decode cX8_refusalOfBytes 25 = .ok (.iconst 0, 1) := by decide +kernel
theorem dX8_refusalOfBytes_26 : decode cX8_refusalOfBytes 26 = .ok (.goto 5, 3) := by decide +kernel
theorem dX8_refusalOfBytes_29 : decode cX8_refusalOfBytes 29 = .ok (.bipush (-12), 2) := by decide +kernel
theorem dX8_refusalOfBytes_31 : decode cX8_refusalOfBytes 31 = .ok (.ireturn, 1) := by decide +kernel
theorem dX8_refusalOfPlace_0 : decode cX8_refusalOfPlace 0 = .ok (.aload_n 0, 1) := by decide +kernel
theorem dX8_refusalOfPlace_1 : decode cX8_refusalOfPlace 1 = .ok (.getfield 11, 3) := by decide +kernel
theorem dX8_refusalOfPlace_4 : decode cX8_refusalOfPlace 4 = .ok (.ifCond .ne 6, 3) := by decide +kernel
theorem dX8_refusalOfPlace_7 : decode cX8_refusalOfPlace 7 = .ok (.bipush (-11), 2) := by decide +kernel
theorem dX8_refusalOfPlace_9 : decode cX8_refusalOfPlace 9 = .ok (.ireturn, 1) := by decide +kernel
theorem dX8_refusalOfPlace_10 : decode cX8_refusalOfPlace 10 = .ok (.aload_n 0, 1) := by decide +kernel
theorem dX8_refusalOfPlace_11 : decode cX8_refusalOfPlace 11 = .ok (.getfield 11, 3) := by decide +kernel
theorem dX8_refusalOfPlace_14 : decode cX8_refusalOfPlace 14 = .ok (.iconst 2, 1) := by decide +kernel
theorem dX8_refusalOfPlace_15 : decode cX8_refusalOfPlace 15 = .ok (.if_icmp .eq 6, 3) := by decide +kernel
theorem dX8_refusalOfPlace_18 : decode cX8_refusalOfPlace 18 = .ok (.bipush (-12), 2) := by decide +kernel
theorem dX8_refusalOfPlace_20 : decode cX8_refusalOfPlace 20 = .ok (.ireturn, 1) := by decide +kernel
theorem dX8_refusalOfPlace_21 : decode cX8_refusalOfPlace 21 = .ok (.iload_n 1, 1) := by decide +kernel
theorem dX8_refusalOfPlace_22 : decode cX8_refusalOfPlace 22 = .ok (.ifCond .lt 15, 3) := by decide +kernel
theorem dX8_refusalOfPlace_25 : decode cX8_refusalOfPlace 25 = .ok (.iload_n 1, 1) := by decide +kernel
theorem dX8_refusalOfPlace_26 : decode cX8_refusalOfPlace 26 = .ok (.aload_n 0, 1) := by decide +kernel
theorem dX8_refusalOfPlace_27 : decode cX8_refusalOfPlace 27 = .ok (.getfield 25, 3) := by decide +kernel
theorem dX8_refusalOfPlace_30 : decode cX8_refusalOfPlace 30 = .ok (.if_icmp .ge 7, 3) := by decide +kernel
theorem dX8_refusalOfPlace_33 : decode cX8_refusalOfPlace 33 = .ok (.iconst 0, 1) := by decide +kernel
theorem dX8_refusalOfPlace_34 : decode cX8_refusalOfPlace 34 = .ok (.goto 5, 3) := by decide +kernel
theorem dX8_refusalOfPlace_37 : decode cX8_refusalOfPlace 37 = .ok (.bipush (-13), 2) := by decide +kernel
theorem dX8_refusalOfPlace_39 : decode cX8_refusalOfPlace 39 = .ok (.ireturn, 1) := by decide +kernel
theorem dX8_store_0 : decode cX8_store 0 = .ok (.aload_n 0, 1) := by decide +kernel
theorem dX8_store_1 : decode cX8_store 1 = .ok (.getfield 22, 3) := by decide +kernel
theorem dX8_store_4 : decode cX8_store 4 = .ok (.tableswitch 80 0 3 #[32, 45, 58, 70], 32) := by decide +kernel
theorem dX8_store_36 : decode cX8_store 36 = .ok (.aload_n 0, 1) := by decide +kernel
theorem dX8_store_37 : decode cX8_store 37 = .ok (.getfield 15, 3) := by decide +kernel
theorem dX8_store_40 : decode cX8_store 40 = .ok (.iload_n 1, 1) := by decide +kernel
theorem dX8_store_41 : decode cX8_store 41 = .ok (.lload_n 2, 1) := by decide +kernel
theorem dX8_store_42 : decode cX8_store 42 = .ok (.l2i, 1) := by decide +kernel
theorem dX8_store_43 : decode cX8_store 43 = .ok (.i2b, 1) := by decide +kernel
theorem dX8_store_44 : decode cX8_store 44 = .ok (.i2l, 1) := by decide +kernel
theorem dX8_store_45 : decode cX8_store 45 = .ok (.lastore, 1) := by decide +kernel
theorem dX8_store_46 : decode cX8_store 46 = .ok (.goto 55, 3) := by decide +kernel
theorem dX8_store_49 : decode cX8_store 49 = .ok (.aload_n 0, 1) := by decide +kernel
theorem dX8_store_50 : decode cX8_store 50 = .ok (.getfield 15, 3) := by decide +kernel
theorem dX8_store_53 : decode cX8_store 53 = .ok (.iload_n 1, 1) := by decide +kernel
theorem dX8_store_54 : decode cX8_store 54 = .ok (.lload_n 2, 1) := by decide +kernel
theorem dX8_store_55 : decode cX8_store 55 = .ok (.l2i, 1) := by decide +kernel
theorem dX8_store_56 : decode cX8_store 56 = .ok (.i2s, 1) := by decide +kernel
theorem dX8_store_57 : decode cX8_store 57 = .ok (.i2l, 1) := by decide +kernel
theorem dX8_store_58 : decode cX8_store 58 = .ok (.lastore, 1) := by decide +kernel
theorem dX8_store_59 : decode cX8_store 59 = .ok (.goto 42, 3) := by decide +kernel
theorem dX8_store_62 : decode cX8_store 62 = .ok (.aload_n 0, 1) := by decide +kernel
theorem dX8_store_63 : decode cX8_store 63 = .ok (.getfield 15, 3) := by decide +kernel
theorem dX8_store_66 : decode cX8_store 66 = .ok (.iload_n 1, 1) := by decide +kernel
theorem dX8_store_67 : decode cX8_store 67 = .ok (.lload_n 2, 1) := by decide +kernel
theorem dX8_store_68 : decode cX8_store 68 = .ok (.l2i, 1) := by decide +kernel
theorem dX8_store_69 : decode cX8_store 69 = .ok (.i2l, 1) := by decide +kernel
theorem dX8_store_70 : decode cX8_store 70 = .ok (.lastore, 1) := by decide +kernel
theorem dX8_store_71 : decode cX8_store 71 = .ok (.goto 30, 3) := by decide +kernel
theorem dX8_store_74 : decode cX8_store 74 = .ok (.aload_n 0, 1) := by decide +kernel
theorem dX8_store_75 : decode cX8_store 75 = .ok (.getfield 15, 3) := by decide +kernel
theorem dX8_store_78 : decode cX8_store 78 = .ok (.iload_n 1, 1) := by decide +kernel
theorem dX8_store_79 : decode cX8_store 79 = .ok (.lload_n 2, 1) := by decide +kernel
theorem dX8_store_80 : decode cX8_store 80 = .ok (.lastore, 1) := by decide +kernel
theorem dX8_store_81 : decode cX8_store 81 = .ok (.goto 20, 3) := by decide +kernel
theorem dX8_store_84 : decode cX8_store 84 = .ok (.aload_n 0, 1) := by decide +kernel
theorem dX8_store_85 : decode cX8_store 85 = .ok (.getfield 15, 3) := by decide +kernel
theorem dX8_store_88 : decode cX8_store 88 = .ok (.iload_n 1, 1) := by decide +kernel
theorem dX8_store_89 : decode cX8_store 89 = .ok (.lload_n 2, 1) := by decide +kernel
theorem dX8_store_90 : decode cX8_store 90 = .ok (.lconst 0, 1) := by decide +kernel
theorem dX8_store_91 : decode cX8_store 91 = .ok (.lcmp, 1) := by decide +kernel
theorem dX8_store_92 : decode cX8_store 92 = .ok (.ifCond .eq 7, 3) := by decide +kernel
theorem dX8_store_95 : decode cX8_store 95 = .ok (.lconst 1, 1) := by decide +kernel
theorem dX8_store_96 : decode cX8_store 96 = .ok (.goto 4, 3) := by decide +kernel
theorem dX8_store_99 : decode cX8_store 99 = .ok (.lconst 0, 1) := by decide +kernel
theorem dX8_store_100 : decode cX8_store 100 = .ok (.lastore, 1) := by decide +kernel
theorem dX8_store_101 : decode cX8_store 101 = .ok (.return_, 1) := by decide +kernel
theorem dX9_init_0 : decode cX9_init 0 = .ok (.aload_n 0, 1) := by decide +kernel
theorem dX9_init_1 : decode cX9_init 1 = .ok (.invokespecial 3, 3) := by decide +kernel
theorem dX9_init_4 : decode cX9_init 4 = .ok (.aload_n 0, 1) := by decide +kernel
theorem dX9_init_5 : decode cX9_init 5 = .ok (.bipush 120, 2) := by decide +kernel
theorem dX9_init_7 : decode cX9_init 7 = .ok (.newarray .int, 2) := by decide +kernel
theorem dX9_init_9 : decode cX9_init 9 = .ok (.putfield 11, 3) := by decide +kernel
theorem dX9_init_12 : decode cX9_init 12 = .ok (.aload_n 0, 1) := by decide +kernel
theorem dX9_init_13 : decode cX9_init 13 = .ok (.bipush 120, 2) := by decide +kernel
theorem dX9_init_15 : decode cX9_init 15 = .ok (.newarray .int, 2) := by decide +kernel
theorem dX9_init_17 : decode cX9_init 17 = .ok (.putfield 15, 3) := by decide +kernel
theorem dX9_init_20 : decode cX9_init 20 = .ok (.aload_n 0, 1) := by decide +kernel
theorem dX9_init_21 : decode cX9_init 21 = .ok (.bipush 120, 2) := by decide +kernel
theorem dX9_init_23 : decode cX9_init 23 = .ok (.newarray .int, 2) := by decide +kernel
theorem dX9_init_25 : decode cX9_init 25 = .ok (.putfield 18, 3) := by decide +kernel
theorem dX9_init_28 : decode cX9_init 28 = .ok (.aload_n 0, 1) := by decide +kernel
theorem dX9_init_29 : decode cX9_init 29 = .ok (.bipush 120, 2) := by decide +kernel
theorem dX9_init_31 : decode cX9_init 31 = .ok (.newarray .int, 2) := by decide +kernel
theorem dX9_init_33 : decode cX9_init 33 = .ok (.putfield 21, 3) := by decide +kernel
theorem dX9_init_36 : decode cX9_init 36 = .ok (.aload_n 0, 1) := by decide +kernel
theorem dX9_init_37 : decode cX9_init 37 = .ok (.bipush 120, 2) := by decide +kernel
theorem dX9_init_39 : decode cX9_init 39 = .ok (.newarray .int, 2) := by decide +kernel
theorem dX9_init_41 : decode cX9_init 41 = .ok (.putfield 24, 3) := by decide +kernel
theorem dX9_init_44 : decode cX9_init 44 = .ok (.return_, 1) := by decide +kernel
theorem dX9_add_0 : decode cX9_add 0 = .ok (.aload_n 0, 1) := by decide +kernel
theorem dX9_add_1 : decode cX9_add 1 = .ok (.getfield 27, 3) := by decide +kernel
theorem dX9_add_4 : decode cX9_add 4 = .ok (.bipush 120, 2) := by decide +kernel
theorem dX9_add_6 : decode cX9_add 6 = .ok (.if_icmp .lt 6, 3) := by decide +kernel
theorem dX9_add_9 : decode cX9_add 9 = .ok (.bipush (-3), 2) := by decide +kernel
theorem dX9_add_11 : decode cX9_add 11 = .ok (.ireturn, 1) := by decide +kernel
theorem dX9_add_12 : decode cX9_add 12 = .ok (.aload_n 0, 1) := by decide +kernel
theorem dX9_add_13 : decode cX9_add 13 = .ok (.getfield 11, 3) := by decide +kernel
theorem dX9_add_16 : decode cX9_add 16 = .ok (.aload_n 0, 1) := by decide +kernel
theorem dX9_add_17 : decode cX9_add 17 = .ok (.getfield 27, 3) := by decide +kernel
theorem dX9_add_20 : decode cX9_add 20 = .ok (.iload_n 1, 1) := by decide +kernel
theorem dX9_add_21 : decode cX9_add 21 = .ok (.iastore, 1) := by decide +kernel
theorem dX9_add_22 : decode cX9_add 22 = .ok (.aload_n 0, 1) := by decide +kernel
theorem dX9_add_23 : decode cX9_add 23 = .ok (.dup, 1) := by decide +kernel
theorem dX9_add_24 : decode cX9_add 24 = .ok (.getfield 27, 3) := by decide +kernel
theorem dX9_add_27 : decode cX9_add 27 = .ok (.iconst 1, 1) := by decide +kernel
theorem dX9_add_28 : decode cX9_add 28 = .ok (.iadd, 1) := by decide +kernel
theorem dX9_add_29 : decode cX9_add 29 = .ok (.putfield 27, 3) := by decide +kernel
theorem dX9_add_32 : decode cX9_add 32 = .ok (.aload_n 0, 1) := by decide +kernel
theorem dX9_add_33 : decode cX9_add 33 = .ok (.getfield 27, 3) := by decide +kernel
theorem dX9_add_36 : decode cX9_add 36 = .ok (.ireturn, 1) := by decide +kernel
theorem dX9_clear_0 : decode cX9_clear 0 = .ok (.aload_n 0, 1) := by decide +kernel
theorem dX9_clear_1 : decode cX9_clear 1 = .ok (.iconst 0, 1) := by decide +kernel
theorem dX9_clear_2 : decode cX9_clear 2 = .ok (.putfield 27, 3) := by decide +kernel
theorem dX9_clear_5 : decode cX9_clear 5 = .ok (.return_, 1) := by decide +kernel
theorem dX9_understand_0 : decode cX9_understand 0 = .ok (.aload_n 0, 1) := by decide +kernel
theorem dX9_understand_1 : decode cX9_understand 1 = .ok (.iconst 0, 1) := by decide +kernel
theorem dX9_understand_2 : decode cX9_understand 2 = .ok (.putfield 31, 3) := by decide +kernel
theorem dX9_understand_5 : decode cX9_understand 5 = .ok (.aload_n 0, 1) := by decide +kernel
theorem dX9_understand_6 : decode cX9_understand 6 = .ok (.iconst 0, 1) := by decide +kernel
theorem dX9_understand_7 : decode cX9_understand 7 = .ok (.putfield 34, 3) := by decide +kernel
theorem dX9_understand_10 : decode cX9_understand 10 = .ok (.aload_n 0, 1) := by decide +kernel
theorem dX9_understand_11 : decode cX9_understand 11 = .ok (.iconst 0, 1) := by decide +kernel
theorem dX9_understand_12 : decode cX9_understand 12 = .ok (.putfield 37, 3) := by decide +kernel
theorem dX9_understand_15 : decode cX9_understand 15 = .ok (.aload_n 0, 1) := by decide +kernel
theorem dX9_understand_16 : decode cX9_understand 16 = .ok (.iconst (-1), 1) := by decide +kernel
theorem dX9_understand_17 : decode cX9_understand 17 = .ok (.putfield 40, 3) := by decide +kernel
theorem dX9_understand_20 : decode cX9_understand 20 = .ok (.iconst 1, 1) := by decide +kernel
theorem dX9_understand_21 : decode cX9_understand 21 = .ok (.istore_n 1, 1) := by decide +kernel
theorem dX9_understand_22 : decode cX9_understand 22 = .ok (.iconst 0, 1) := by decide +kernel
theorem dX9_understand_23 : decode cX9_understand 23 = .ok (.istore_n 2, 1) := by decide +kernel
theorem dX9_understand_24 : decode cX9_understand 24 = .ok (.iload_n 2, 1) := by decide +kernel
theorem dX9_understand_25 : decode cX9_understand 25 = .ok (.bipush 120, 2) := by decide +kernel
theorem dX9_understand_27 : decode cX9_understand 27 = .ok (.if_icmp .gt 46, 3) := by decide +kernel
theorem dX9_understand_30 : decode cX9_understand 30 = .ok (.iload_n 1, 1) := by decide +kernel
theorem dX9_understand_31 : decode cX9_understand 31 = .ok (.ifCond .eq 42, 3) := by decide +kernel
theorem dX9_understand_34 : decode cX9_understand 34 = .ok (.aload_n 0, 1) := by decide +kernel
theorem dX9_understand_35 : decode cX9_understand 35 = .ok (.invokevirtual 43, 3) := by decide +kernel
theorem dX9_understand_38 : decode cX9_understand 38 = .ok (.aload_n 0, 1) := by decide +kernel
theorem dX9_understand_39 : decode cX9_understand 39 = .ok (.invokevirtual 46, 3) := by decide +kernel
theorem dX9_understand_42 : decode cX9_understand 42 = .ok (.bipush 59, 2) := by decide +kernel
theorem dX9_understand_44 : decode cX9_understand 44 = .ok (.if_icmp .ne 7, 3) := by decide +kernel
theorem dX9_understand_47 : decode cX9_understand 47 = .ok (.iconst 1, 1) := by decide +kernel
theorem dX9_understand_48 : decode cX9_understand 48 = .ok (.goto 4, 3) := by decide +kernel
theorem dX9_understand_51 : decode cX9_understand 51 = .ok (.iconst 0, 1) := by decide +kernel
theorem dX9_understand_52 : decode cX9_understand 52 = .ok (.istore_n 1, 1) := by decide +kernel
theorem dX9_understand_53 : decode cX9_understand 53 = .ok (.iload_n 1, 1) := by decide +kernel
theorem dX9_understand_54 : decode cX9_understand 54 = .ok (.ifCond .eq 13, 3) := by decide +kernel
theorem dX9_understand_57 : decode cX9_understand 57 = .ok (.aload_n 0, 1) := by decide +kernel
theorem dX9_understand_58 : decode cX9_understand 58 = .ok (.dup, 1) := by decide +kernel
theorem dX9_understand_59 : decode cX9_understand 59 = .ok (.getfield 37, 3) := by decide +kernel
theorem dX9_understand_62 : decode cX9_understand 62 = .ok (.iconst 1, 1) := by decide +kernel
theorem dX9_understand_63 : decode cX9_understand 63 = .ok (.iadd, 1) := by decide +kernel
theorem dX9_understand_64 : decode cX9_understand 64 = .ok (.putfield 37, 3) := by decide +kernel
theorem dX9_understand_67 : decode cX9_understand 67 = .ok (.iinc 2 1, 3) := by decide +kernel
theorem dX9_understand_70 : decode cX9_understand 70 = .ok (.goto (-46), 3) := by decide +kernel
theorem dX9_understand_73 : decode cX9_understand 73 = .ok (.aload_n 0, 1) := by decide +kernel
theorem dX9_understand_74 : decode cX9_understand 74 = .ok (.getfield 37, 3) := by decide +kernel
theorem dX9_understand_77 : decode cX9_understand 77 = .ok (.aload_n 0, 1) := by decide +kernel
theorem dX9_understand_78 : decode cX9_understand 78 = .ok (.getfield 27, 3) := by decide +kernel
theorem dX9_understand_81 : decode cX9_understand 81 = .ok (.if_icmp .ge 7, 3) := by decide +kernel
theorem dX9_understand_84 : decode cX9_understand 84 = .ok (.aload_n 0, 1) := by decide +kernel
theorem dX9_understand_85 : decode cX9_understand 85 = .ok (.invokevirtual 50, 3) := by decide +kernel
theorem dX9_understand_88 : decode cX9_understand 88 = .ok (.aload_n 0, 1) := by decide +kernel
theorem dX9_understand_89 : decode cX9_understand 89 = .ok (.getfield 40, 3) := by decide +kernel
theorem dX9_understand_92 : decode cX9_understand 92 = .ok (.ireturn, 1) := by decide +kernel
theorem dX9_next_0 : decode cX9_next 0 = .ok (.aload_n 0, 1) := by decide +kernel
theorem dX9_next_1 : decode cX9_next 1 = .ok (.getfield 40, 3) := by decide +kernel
theorem dX9_next_4 : decode cX9_next 4 = .ok (.ifCond .ge 26, 3) := by decide +kernel
theorem dX9_next_7 : decode cX9_next 7 = .ok (.aload_n 0, 1) := by decide +kernel
theorem dX9_next_8 : decode cX9_next 8 = .ok (.getfield 37, 3) := by decide +kernel
theorem dX9_next_11 : decode cX9_next 11 = .ok (.aload_n 0, 1) := by decide +kernel
theorem dX9_next_12 : decode cX9_next 12 = .ok (.getfield 27, 3) := by decide +kernel
theorem dX9_next_15 : decode cX9_next 15 = .ok (.if_icmp .ge 15, 3) := by decide +kernel
theorem dX9_next_18 : decode cX9_next 18 = .ok (.aload_n 0, 1) := by decide +kernel
theorem dX9_next_19 : decode cX9_next 19 = .ok (.getfield 11, 3) := by decide +kernel
theorem dX9_next_22 : decode cX9_next 22 = .ok (.aload_n 0, 1) := by decide +kernel
theorem dX9_next_23 : decode cX9_next 23 = .ok (.getfield 37, 3) := by decide +kernel
theorem dX9_next_26 : decode cX9_next 26 = .ok (.iaload, 1) := by decide +kernel
theorem dX9_next_27 : decode cX9_next 27 = .ok (.goto 4, 3) := by decide +kernel
theorem dX9_next_30 : decode cX9_next 30 = .ok (.iconst (-1), 1) := by decide +kernel
theorem dX9_next_31 : decode cX9_next 31 = .ok (.ireturn, 1) := by decide +kernel
theorem dX9_failHere_0 : decode cX9_failHere 0 = .ok (.aload_n 0, 1) := by decide +kernel
theorem dX9_failHere_1 : decode cX9_failHere 1 = .ok (.getfield 40, 3) := by decide +kernel
theorem dX9_failHere_4 : decode cX9_failHere 4 = .ok (.ifCond .ge 11, 3) := by decide +kernel
theorem dX9_failHere_7 : decode cX9_failHere 7 = .ok (.aload_n 0, 1) := by decide +kernel
theorem dX9_failHere_8 : decode cX9_failHere 8 = .ok (.aload_n 0, 1) := by decide +kernel
theorem dX9_failHere_9 : decode cX9_failHere 9 = .ok (.getfield 37, 3) := by decide +kernel
theorem dX9_failHere_12 : decode cX9_failHere 12 = .ok (.putfield 40, 3) := by decide +kernel
theorem dX9_failHere_15 : decode cX9_failHere 15 = .ok (.return_, 1) := by decide +kernel
theorem dX9_emit_0 : decode cX9_emit 0 = .ok (.aload_n 0, 1) := by decide +kernel
theorem dX9_emit_1 : decode cX9_emit 1 = .ok (.getfield 31, 3) := by decide +kernel
theorem dX9_emit_4 : decode cX9_emit 4 = .ok (.bipush 120, 2) := by decide +kernel
theorem dX9_emit_6 : decode cX9_emit 6 = .ok (.if_icmp .ge 33, 3) := by decide +kernel
theorem dX9_emit_9 : decode cX9_emit 9 = .ok (.aload_n 0, 1) := by decide +kernel
theorem dX9_emit_10 : decode cX9_emit 10 = .ok (.getfield 15, 3) := by decide +kernel
theorem dX9_emit_13 : decode cX9_emit 13 = .ok (.aload_n 0, 1) := by decide +kernel
theorem dX9_emit_14 : decode cX9_emit 14 = .ok (.getfield 31, 3) := by decide +kernel
theorem dX9_emit_17 : decode cX9_emit 17 = .ok (.iload_n 1, 1) := by decide +kernel
theorem dX9_emit_18 : decode cX9_emit 18 = .ok (.iastore, 1) := by decide +kernel
theorem dX9_emit_19 : decode cX9_emit 19 = .ok (.aload_n 0, 1) := by decide +kernel
theorem dX9_emit_20 : decode cX9_emit 20 = .ok (.getfield 18, 3) := by decide +kernel
theorem dX9_emit_23 : decode cX9_emit 23 = .ok (.aload_n 0, 1) := by decide +kernel
theorem dX9_emit_24 : decode cX9_emit 24 = .ok (.getfield 31, 3) := by decide +kernel
theorem dX9_emit_27 : decode cX9_emit 27 = .ok (.iload_n 2, 1) := by decide +kernel
theorem dX9_emit_28 : decode cX9_emit 28 = .ok (.iastore, 1) := by decide +kernel
theorem dX9_emit_29 : decode cX9_emit 29 = .ok (.aload_n 0, 1) := by decide +kernel
theorem dX9_emit_30 : decode cX9_emit 30 = .ok (.dup, 1) := by decide +kernel
theorem dX9_emit_31 : decode cX9_emit 31 = .ok (.getfield 31, 3) := by decide +kernel
theorem dX9_emit_34 : decode cX9_emit 34 = .ok (.iconst 1, 1) := by decide +kernel
theorem dX9_emit_35 : decode cX9_emit 35 = .ok (.iadd, 1) := by decide +kernel
theorem dX9_emit_36 : decode cX9_emit 36 = .ok (.putfield 31, 3) := by decide +kernel
theorem dX9_emit_39 : decode cX9_emit 39 = .ok (.return_, 1) := by decide +kernel
theorem dX9_readLine_0 : decode cX9_readLine 0 = .ok (.aload_n 0, 1) := by decide +kernel
theorem dX9_readLine_1 : decode cX9_readLine 1 = .ok (.getfield 31, 3) := by decide +kernel
theorem dX9_readLine_4 : decode cX9_readLine 4 = .ok (.istore_n 1, 1) := by decide +kernel
theorem dX9_readLine_5 : decode cX9_readLine 5 = .ok (.aload_n 0, 1) := by decide +kernel
theorem dX9_readLine_6 : decode cX9_readLine 6 = .ok (.iconst 0, 1) := by decide +kernel
theorem dX9_readLine_7 : decode cX9_readLine 7 = .ok (.iconst 0, 1) := by decide +kernel
theorem dX9_readLine_8 : decode cX9_readLine 8 = .ok (.invokevirtual 53, 3) := by decide +kernel
theorem dX9_readLine_11 : decode cX9_readLine 11 = .ok (.aload_n 0, 1) := by decide +kernel
theorem dX9_readLine_12 : decode cX9_readLine 12 = .ok (.invokevirtual 46, 3) := by decide +kernel
theorem dX9_readLine_15 : decode cX9_readLine 15 = .ok (.bipush 63, 2) := by decide +kernel
theorem dX9_readLine_17 : decode cX9_readLine 17 = .ok (.if_icmp .ne 24, 3) := by decide +kernel
theorem dX9_readLine_20 : decode cX9_readLine 20 = .ok (.aload_n 0, 1) := by decide +kernel
theorem dX9_readLine_21 : decode cX9_readLine 21 = .ok (.dup, 1) := by decide +kernel
theorem dX9_readLine_22 : decode cX9_readLine 22 = .ok (.getfield 37, 3) := by decide +kernel
theorem dX9_readLine_25 : decode cX9_readLine 25 = .ok (.iconst 1, 1) := by decide +kernel
theorem dX9_readLine_26 : decode cX9_readLine 26 = .ok (.iadd, 1) := by decide +kernel
theorem dX9_readLine_27 : decode cX9_readLine 27 = .ok (.putfield 37, 3) := by decide +kernel
theorem dX9_readLine_30 : decode cX9_readLine 30 = .ok (.aload_n 0, 1) := by decide +kernel
theorem dX9_readLine_31 : decode cX9_readLine 31 = .ok (.getfield 31, 3) := by decide +kernel
theorem dX9_readLine_34 : decode cX9_readLine 34 = .ok (.istore_n 1, 1) := by decide +kernel
theorem dX9_readLine_35 : decode cX9_readLine 35 = .ok (.aload_n 0, 1) := by decide +kernel
theorem dX9_readLine_36 : decode cX9_readLine 36 = .ok (.iconst 0, 1) := by decide +kernel
theorem dX9_readLine_37 : decode cX9_readLine 37 = .ok (.iconst 0, 1) := by decide +kernel
theorem dX9_readLine_38 : decode cX9_readLine 38 = .ok (.invokevirtual 53, 3) := by decide +kernel
theorem dX9_readLine_41 : decode cX9_readLine 41 = .ok (.aload_n 0, 1) := by decide +kernel
theorem dX9_readLine_42 : decode cX9_readLine 42 = .ok (.getfield 34, 3) := by decide +kernel
theorem dX9_readLine_45 : decode cX9_readLine 45 = .ok (.bipush 120, 2) := by decide +kernel
theorem dX9_readLine_47 : decode cX9_readLine 47 = .ok (.if_icmp .ge 36, 3) := by decide +kernel
theorem dX9_readLine_50 : decode cX9_readLine 50 = .ok (.aload_n 0, 1) := by decide +kernel
theorem dX9_readLine_51 : decode cX9_readLine 51 = .ok (.getfield 21, 3) := by decide +kernel
theorem dX9_readLine_54 : decode cX9_readLine 54 = .ok (.aload_n 0, 1) := by decide +kernel
theorem dX9_readLine_55 : decode cX9_readLine 55 = .ok (.getfield 34, 3) := by decide +kernel
theorem dX9_readLine_58 : decode cX9_readLine 58 = .ok (.iload_n 1, 1) := by decide +kernel
theorem dX9_readLine_59 : decode cX9_readLine 59 = .ok (.iastore, 1) := by decide +kernel
theorem dX9_readLine_60 : decode cX9_readLine 60 = .ok (.aload_n 0, 1) := by decide +kernel
theorem dX9_readLine_61 : decode cX9_readLine 61 = .ok (.getfield 24, 3) := by decide +kernel
theorem dX9_readLine_64 : decode cX9_readLine 64 = .ok (.aload_n 0, 1) := by decide +kernel
theorem dX9_readLine_65 : decode cX9_readLine 65 = .ok (.getfield 34, 3) := by decide +kernel
theorem dX9_readLine_68 : decode cX9_readLine 68 = .ok (.aload_n 0, 1) := by decide +kernel
theorem dX9_readLine_69 : decode cX9_readLine 69 = .ok (.getfield 31, 3) := by decide +kernel
theorem dX9_readLine_72 : decode cX9_readLine 72 = .ok (.iastore, 1) := by decide +kernel
theorem dX9_readLine_73 : decode cX9_readLine 73 = .ok (.aload_n 0, 1) := by decide +kernel
theorem dX9_readLine_74 : decode cX9_readLine 74 = .ok (.dup, 1) := by decide +kernel
theorem dX9_readLine_75 : decode cX9_readLine 75 = .ok (.getfield 34, 3) := by decide +kernel
theorem dX9_readLine_78 : decode cX9_readLine 78 = .ok (.iconst 1, 1) := by decide +kernel
theorem dX9_readLine_79 : decode cX9_readLine 79 = .ok (.iadd, 1) := by decide +kernel
theorem dX9_readLine_80 : decode cX9_readLine 80 = .ok (.putfield 34, 3) := by decide +kernel
theorem dX9_readLine_83 : decode cX9_readLine 83 = .ok (.return_, 1) := by decide +kernel
theorem dX9_readLevel_0 : decode cX9_readLevel 0 = .ok (.iload_n 1, 1) := by decide +kernel
theorem dX9_readLevel_1 : decode cX9_readLevel 1 = .ok (.iconst 5, 1) := by decide +kernel
theorem dX9_readLevel_2 : decode cX9_readLevel 2 = .ok (.if_icmp .lt 9, 3) := by decide +kernel
theorem dX9_readLevel_5 : decode cX9_readLevel 5 = .ok (.aload_n 0, 1) := by decide +kernel
theorem dX9_readLevel_6 : decode cX9_readLevel 6 = .ok (.iload_n 2, 1) := by decide +kernel
theorem dX9_readLevel_7 : decode cX9_readLevel 7 = .ok (.invokevirtual 57, 3) := by decide +kernel
theorem dX9_readLevel_10 : decode cX9_readLevel 10 = .ok (.return_, 1) := by decide +kernel
theorem dX9_readLevel_11 : decode cX9_readLevel 11 = .ok (.aload_n 0, 1) := by decide +kernel
theorem dX9_readLevel_12 : decode cX9_readLevel 12 = .ok (.iload_n 1, 1) := by decide +kernel
theorem dX9_readLevel_13 : decode cX9_readLevel 13 = .ok (.iconst 1, 1) := by decide +kernel
theorem dX9_readLevel_14 : decode cX9_readLevel 14 = .ok (.iadd, 1) := by decide +kernel
theorem dX9_readLevel_15 : decode cX9_readLevel 15 = .ok (.iload_n 2, 1) := by decide +kernel
theorem dX9_readLevel_16 : decode cX9_readLevel 16 = .ok (.invokevirtual 53, 3) := by decide +kernel
theorem dX9_readLevel_19 : decode cX9_readLevel 19 = .ok (.iload_n 1, 1) := by decide +kernel
theorem dX9_readLevel_20 : decode cX9_readLevel 20 = .ok (.iconst 2, 1) := by decide +kernel
theorem dX9_readLevel_21 : decode cX9_readLevel 21 = .ok (.if_icmp .ne 7, 3) := by decide +kernel
theorem dX9_readLevel_24 : decode cX9_readLevel 24 = .ok (.iconst 1, 1) := by decide +kernel
theorem dX9_readLevel_25 : decode cX9_readLevel 25 = .ok (.goto 5, 3) := by decide +kernel
theorem dX9_readLevel_28 : decode cX9_readLevel 28 = .ok (.bipush 120, 2) := by decide +kernel
theorem dX9_readLevel_30 : decode cX9_readLevel 30 = .ok (.istore_n 3, 1) := by decide +kernel
theorem dX9_readLevel_31 : decode cX9_readLevel 31 = .ok (.iconst 0, 1) := by decide +kernel
theorem dX9_readLevel_32 : decode cX9_readLevel 32 = .ok (.istore 4, 2) := by decide +kernel
theorem dX9_readLevel_34 : decode cX9_readLevel 34 = .ok (.iload 4, 2) := by decide +kernel
theorem dX9_readLevel_36 : decode cX9_readLevel 36 = .ok (.iload_n 3, 1) := by decide +kernel
theorem dX9_readLevel_37 : decode cX9_readLevel 37 = .ok (.if_icmp .ge 51, 3) := by decide +kernel
theorem dX9_readLevel_40 : decode cX9_readLevel 40 = .ok (.aload_n 0, 1) := by decide +kernel
theorem dX9_readLevel_41 : decode cX9_readLevel 41 = .ok (.invokevirtual 46, 3) := by decide +kernel
theorem dX9_readLevel_44 : decode cX9_readLevel 44 = .ok (.invokestatic 61, 3) := by decide +kernel
theorem dX9_readLevel_47 : decode cX9_readLevel 47 = .ok (.iload_n 1, 1) := by decide +kernel
theorem dX9_readLevel_48 : decode cX9_readLevel 48 = .ok (.if_icmp .ne 40, 3) := by decide +kernel
theorem dX9_readLevel_51 : decode cX9_readLevel 51 = .ok (.aload_n 0, 1) := by decide +kernel
theorem dX9_readLevel_52 : decode cX9_readLevel 52 = .ok (.invokevirtual 46, 3) := by decide +kernel
theorem dX9_readLevel_55 : decode cX9_readLevel 55 = .ok (.istore 5, 2) := by decide +kernel
theorem dX9_readLevel_57 : decode cX9_readLevel 57 = .ok (.aload_n 0, 1) := by decide +kernel
theorem dX9_readLevel_58 : decode cX9_readLevel 58 = .ok (.dup, 1) := by decide +kernel
theorem dX9_readLevel_59 : decode cX9_readLevel 59 = .ok (.getfield 37, 3) := by decide +kernel
theorem dX9_readLevel_62 : decode cX9_readLevel 62 = .ok (.iconst 1, 1) := by decide +kernel
theorem dX9_readLevel_63 : decode cX9_readLevel 63 = .ok (.iadd, 1) := by decide +kernel
theorem dX9_readLevel_64 : decode cX9_readLevel 64 = .ok (.putfield 37, 3) := by decide +kernel
theorem dX9_readLevel_67 : decode cX9_readLevel 67 = .ok (.aload_n 0, 1) := by decide +kernel
theorem dX9_readLevel_68 : decode cX9_readLevel 68 = .ok (.iload_n 1, 1) := by decide +kernel
theorem dX9_readLevel_69 : decode cX9_readLevel 69 = .ok (.iconst 1, 1) := by decide +kernel
theorem dX9_readLevel_70 : decode cX9_readLevel 70 = .ok (.iadd, 1) := by decide +kernel
theorem dX9_readLevel_71 : decode cX9_readLevel 71 = .ok (.iload_n 2, 1) := by decide +kernel
theorem dX9_readLevel_72 : decode cX9_readLevel 72 = .ok (.invokevirtual 53, 3) := by decide +kernel
theorem dX9_readLevel_75 : decode cX9_readLevel 75 = .ok (.aload_n 0, 1) := by decide +kernel
theorem dX9_readLevel_76 : decode cX9_readLevel 76 = .ok (.iload 5, 2) := by decide +kernel
theorem dX9_readLevel_78 : decode cX9_readLevel 78 = .ok (.iconst 0, 1) := by decide +kernel
theorem dX9_readLevel_79 : decode cX9_readLevel 79 = .ok (.invokevirtual 65, 3) := by decide +kernel
theorem dX9_readLevel_82 : decode cX9_readLevel 82 = .ok (.iinc 4 1, 3) := by decide +kernel
theorem dX9_readLevel_85 : decode cX9_readLevel 85 = .ok (.goto (-51), 3) := by decide +kernel
theorem dX9_readLevel_88 : decode cX9_readLevel 88 = .ok (.return_, 1) := by decide +kernel
theorem dX9_levelOf_0 : decode cX9_levelOf 0 = .ok (.iload_n 0, 1) := by decide +kernel
theorem dX9_levelOf_1 : decode cX9_levelOf 1 = .ok (.lookupswitch 101 #[(37, 99), (38, 93), (42, 99), (43, 97), (45, 97), (47, 99), (60, 95), (61, 95), (62, 95), (124, 91)], 91) := by decide +kernel
theorem dX9_levelOf_92 : decode cX9_levelOf 92 = .ok (.iconst 0, 1) := by decide +kernel
theorem dX9_levelOf_93 : decode cX9_levelOf 93 = .ok (.ireturn, 1) := by decide +kernel
theorem dX9_levelOf_94 : decode cX9_levelOf 94 = .ok (.iconst 1, 1) := by decide +kernel
theorem dX9_levelOf_95 : decode cX9_levelOf 95 = .ok (.ireturn, 1) := by decide +kernel
theorem dX9_levelOf_96 : decode cX9_levelOf 96 = .ok (.iconst 2, 1) := by decide +kernel
theorem dX9_levelOf_97 : decode cX9_levelOf 97 = .ok (.ireturn, 1) := by decide +kernel
theorem dX9_levelOf_98 : decode cX9_levelOf 98 = .ok (.iconst 3, 1) := by decide +kernel
theorem dX9_levelOf_99 : decode cX9_levelOf 99 = .ok (.ireturn, 1) := by decide +kernel
theorem dX9_levelOf_100 : decode cX9_levelOf 100 = .ok (.iconst 4, 1) := by decide +kernel
theorem dX9_levelOf_101 : decode cX9_levelOf 101 = .ok (.ireturn, 1) := by decide +kernel
theorem dX9_levelOf_102 : decode cX9_levelOf 102 = .ok (.iconst (-1), 1) := by decide +kernel
theorem dX9_levelOf_103 : decode cX9_levelOf 103 = .ok (.ireturn, 1) := by decide +kernel
theorem dX9_readUnit_0 : decode cX9_readUnit 0 = .ok (.aload_n 0, 1) := by decide +kernel
theorem dX9_readUnit_1 : decode cX9_readUnit 1 = .ok (.invokevirtual 46, 3) := by decide +kernel
theorem dX9_readUnit_4 : decode cX9_readUnit 4 = .ok (.istore_n 2, 1) := by decide +kernel
theorem dX9_readUnit_5 : decode cX9_readUnit 5 = .ok (.iload_n 2, 1) := by decide +kernel
theorem dX9_readUnit_6 : decode cX9_readUnit 6 = .ok (.invokestatic 68, 3) := by decide +kernel
theorem dX9_readUnit_9 : decode cX9_readUnit 9 = .ok (.istore_n 3, 1) := by decide +kernel
theorem dX9_readUnit_10 : decode cX9_readUnit 10 = .ok (.iload_n 2, 1) := by decide +kernel
theorem dX9_readUnit_11 : decode cX9_readUnit 11 = .ok (.bipush 48, 2) := by decide +kernel
theorem dX9_readUnit_13 : decode cX9_readUnit 13 = .ok (.if_icmp .lt 16, 3) := by decide +kernel
theorem dX9_readUnit_16 : decode cX9_readUnit 16 = .ok (.iload_n 2, 1) := by decide +kernel
theorem dX9_readUnit_17 : decode cX9_readUnit 17 = .ok (.bipush 57, 2) := by decide +kernel
theorem dX9_readUnit_19 : decode cX9_readUnit 19 = .ok (.if_icmp .gt 10, 3) := by decide +kernel
theorem dX9_readUnit_22 : decode cX9_readUnit 22 = .ok (.aload_n 0, 1) := by decide +kernel
theorem dX9_readUnit_23 : decode cX9_readUnit 23 = .ok (.invokevirtual 71, 3) := by decide +kernel
theorem dX9_readUnit_26 : decode cX9_readUnit 26 = .ok (.goto 76, 3) := by decide +kernel
theorem dX9_readUnit_29 : decode cX9_readUnit 29 = .ok (.iload_n 3, 1) := by decide +kernel
theorem dX9_readUnit_30 : decode cX9_readUnit 30 = .ok (.ifCond .lt 23, 3) := by decide +kernel
theorem dX9_readUnit_33 : decode cX9_readUnit 33 = .ok (.aload_n 0, 1) := by decide +kernel
theorem dX9_readUnit_34 : decode cX9_readUnit 34 = .ok (.dup, 1) := by decide +kernel
theorem dX9_readUnit_35 : decode cX9_readUnit 35 = .ok (.getfield 37, 3) := by decide +kernel
theorem dX9_readUnit_38 : decode cX9_readUnit 38 = .ok (.iconst 1, 1) := by decide +kernel
theorem dX9_readUnit_39 : decode cX9_readUnit 39 = .ok (.iadd, 1) := by decide +kernel
theorem dX9_readUnit_40 : decode cX9_readUnit 40 = .ok (.putfield 37, 3) := by decide +kernel
theorem dX9_readUnit_43 : decode cX9_readUnit 43 = .ok (.aload_n 0, 1) := by decide +kernel
theorem dX9_readUnit_44 : decode cX9_readUnit 44 = .ok (.bipush 64, 2) := by decide +kernel
theorem dX9_readUnit_46 : decode cX9_readUnit 46 = .ok (.iload_n 3, 1) := by decide +kernel
theorem dX9_readUnit_47 : decode cX9_readUnit 47 = .ok (.invokevirtual 65, 3) := by decide +kernel
theorem dX9_readUnit_50 : decode cX9_readUnit 50 = .ok (.goto 52, 3) := by decide +kernel
theorem dX9_readUnit_53 : decode cX9_readUnit 53 = .ok (.iload_n 2, 1) := by decide +kernel
theorem dX9_readUnit_54 : decode cX9_readUnit 54 = .ok (.bipush 40, 2) := by decide +kernel
theorem dX9_readUnit_56 : decode cX9_readUnit 56 = .ok (.if_icmp .eq 15, 3) := by decide +kernel
theorem dX9_readUnit_59 : decode cX9_readUnit 59 = .ok (.iload_n 2, 1) := by decide +kernel
theorem dX9_readUnit_60 : decode cX9_readUnit 60 = .ok (.bipush 33, 2) := by decide +kernel
theorem dX9_readUnit_62 : decode cX9_readUnit 62 = .ok (.if_icmp .eq 9, 3) := by decide +kernel
theorem dX9_readUnit_65 : decode cX9_readUnit 65 = .ok (.iload_n 2, 1) := by decide +kernel
theorem dX9_readUnit_66 : decode cX9_readUnit 66 = .ok (.bipush 45, 2) := by decide +kernel
theorem dX9_readUnit_68 : decode cX9_readUnit 68 = .ok (.if_icmp .ne 30, 3) := by decide +kernel
theorem dX9_readUnit_71 : decode cX9_readUnit 71 = .ok (.iload_n 1, 1) := by decide +kernel
theorem dX9_readUnit_72 : decode cX9_readUnit 72 = .ok (.bipush 6, 2) := by decide +kernel
theorem dX9_readUnit_74 : decode cX9_readUnit 74 = .ok (.if_icmp .ge 24, 3) := by decide +kernel
theorem dX9_readUnit_77 : decode cX9_readUnit 77 = .ok (.aload_n 0, 1) := by decide +kernel
theorem dX9_readUnit_78 : decode cX9_readUnit 78 = .ok (.dup, 1) := by decide +kernel
theorem dX9_readUnit_79 : decode cX9_readUnit 79 = .ok (.getfield 37, 3) := by decide +kernel
theorem dX9_readUnit_82 : decode cX9_readUnit 82 = .ok (.iconst 1, 1) := by decide +kernel
theorem dX9_readUnit_83 : decode cX9_readUnit 83 = .ok (.iadd, 1) := by decide +kernel
theorem dX9_readUnit_84 : decode cX9_readUnit 84 = .ok (.putfield 37, 3) := by decide +kernel
theorem dX9_readUnit_87 : decode cX9_readUnit 87 = .ok (.aload_n 0, 1) := by decide +kernel
theorem dX9_readUnit_88 : decode cX9_readUnit 88 = .ok (.iload_n 2, 1) := by decide +kernel
theorem dX9_readUnit_89 : decode cX9_readUnit 89 = .ok (.iload_n 1, 1) := by decide +kernel
theorem dX9_readUnit_90 : decode cX9_readUnit 90 = .ok (.iconst 1, 1) := by decide +kernel
theorem dX9_readUnit_91 : decode cX9_readUnit 91 = .ok (.iadd, 1) := by decide +kernel
theorem dX9_readUnit_92 : decode cX9_readUnit 92 = .ok (.invokevirtual 74, 3) := by decide +kernel
theorem dX9_readUnit_95 : decode cX9_readUnit 95 = .ok (.goto 7, 3) := by decide +kernel
theorem dX9_readUnit_98 : decode cX9_readUnit 98 = .ok (.aload_n 0, 1) := by decide +kernel
theorem dX9_readUnit_99 : decode cX9_readUnit 99 = .ok (.invokevirtual 50, 3) := by decide +kernel
theorem dX9_readUnit_102 : decode cX9_readUnit 102 = .ok (.return_, 1) := by decide +kernel
theorem dX9_readOpened_0 : decode cX9_readOpened 0 = .ok (.iload_n 1, 1) := by decide +kernel
theorem dX9_readOpened_1 : decode cX9_readOpened 1 = .ok (.bipush 40, 2) := by decide +kernel
theorem dX9_readOpened_3 : decode cX9_readOpened 3 = .ok (.if_icmp .ne 38, 3) := by decide +kernel
theorem dX9_readOpened_6 : decode cX9_readOpened 6 = .ok (.aload_n 0, 1) := by decide +kernel
theorem dX9_readOpened_7 : decode cX9_readOpened 7 = .ok (.iconst 0, 1) := by decide +kernel
theorem dX9_readOpened_8 : decode cX9_readOpened 8 = .ok (.iload_n 2, 1) := by decide +kernel
theorem dX9_readOpened_9 : decode cX9_readOpened 9 = .ok (.invokevirtual 53, 3) := by decide +kernel
theorem dX9_readOpened_12 : decode cX9_readOpened 12 = .ok (.aload_n 0, 1) := by decide +kernel
theorem dX9_readOpened_13 : decode cX9_readOpened 13 = .ok (.invokevirtual 46, 3) := by decide +kernel
theorem dX9_readOpened_16 : decode cX9_readOpened 16 = .ok (.bipush 41, 2) := by decide +kernel
theorem dX9_readOpened_18 : decode cX9_readOpened 18 = .ok (.if_icmp .ne 16, 3) := by decide +kernel
theorem dX9_readOpened_21 : decode cX9_readOpened 21 = .ok (.aload_n 0, 1) := by decide +kernel
theorem dX9_readOpened_22 : decode cX9_readOpened 22 = .ok (.dup, 1) := by decide +kernel
theorem dX9_readOpened_23 : decode cX9_readOpened 23 = .ok (.getfield 37, 3) := by decide +kernel
theorem dX9_readOpened_26 : decode cX9_readOpened 26 = .ok (.iconst 1, 1) := by decide +kernel
theorem dX9_readOpened_27 : decode cX9_readOpened 27 = .ok (.iadd, 1) := by decide +kernel
theorem dX9_readOpened_28 : decode cX9_readOpened 28 = .ok (.putfield 37, 3) := by decide +kernel
theorem dX9_readOpened_31 : decode cX9_readOpened 31 = .ok (.goto 33, 3) := by decide +kernel
theorem dX9_readOpened_34 : decode cX9_readOpened 34 = .ok (.aload_n 0, 1) := by decide +kernel
theorem dX9_readOpened_35 : decode cX9_readOpened 35 = .ok (.invokevirtual 50, 3) := by decide +kernel
theorem dX9_readOpened_38 : decode cX9_readOpened 38 = .ok (.goto 26, 3) := by decide +kernel
theorem dX9_readOpened_41 : decode cX9_readOpened 41 = .ok (.aload_n 0, 1) := by decide +kernel
theorem dX9_readOpened_42 : decode cX9_readOpened 42 = .ok (.iload_n 2, 1) := by decide +kernel
theorem dX9_readOpened_43 : decode cX9_readOpened 43 = .ok (.invokevirtual 57, 3) := by decide +kernel
theorem dX9_readOpened_46 : decode cX9_readOpened 46 = .ok (.aload_n 0, 1) := by decide +kernel
theorem dX9_readOpened_47 : decode cX9_readOpened 47 = .ok (.iload_n 1, 1) := by decide +kernel
theorem dX9_readOpened_48 : decode cX9_readOpened 48 = .ok (.bipush 33, 2) := by decide +kernel
theorem dX9_readOpened_50 : decode cX9_readOpened 50 = .ok (.if_icmp .ne 8, 3) := by decide +kernel
theorem dX9_readOpened_53 : decode cX9_readOpened 53 = .ok (.bipush 33, 2) := by decide +kernel
theorem dX9_readOpened_55 : decode cX9_readOpened 55 = .ok (.goto 5, 3) := by decide +kernel
theorem dX9_readOpened_58 : decode cX9_readOpened 58 = .ok (.bipush 126, 2) := by decide +kernel
theorem dX9_readOpened_60 : decode cX9_readOpened 60 = .ok (.iconst 0, 1) := by decide +kernel
theorem dX9_readOpened_61 : decode cX9_readOpened 61 = .ok (.invokevirtual 65, 3) := by decide +kernel
theorem dX9_readOpened_64 : decode cX9_readOpened 64 = .ok (.return_, 1) := by decide +kernel
theorem dX9_readNumber_0 : decode cX9_readNumber 0 = .ok (.iconst 0, 1) := by decide +kernel
theorem dX9_readNumber_1 : decode cX9_readNumber 1 = .ok (.istore_n 1, 1) := by decide +kernel
theorem dX9_readNumber_2 : decode cX9_readNumber 2 = .ok (.iconst 0, 1) := by decide +kernel
theorem dX9_readNumber_3 : decode cX9_readNumber 3 = .ok (.istore_n 2, 1) := by decide +kernel
theorem dX9_readNumber_4 : decode cX9_readNumber 4 = .ok (.iload_n 2, 1) := by decide +kernel
theorem dX9_readNumber_5 : decode cX9_readNumber 5 = .ok (.iconst 4, 1) := by decide +kernel
theorem dX9_readNumber_6 : decode cX9_readNumber 6 = .ok (.if_icmp .ge 50, 3) := by decide +kernel
theorem dX9_readNumber_9 : decode cX9_readNumber 9 = .ok (.aload_n 0, 1) := by decide +kernel
theorem dX9_readNumber_10 : decode cX9_readNumber 10 = .ok (.invokevirtual 46, 3) := by decide +kernel
theorem dX9_readNumber_13 : decode cX9_readNumber 13 = .ok (.bipush 48, 2) := by decide +kernel
theorem dX9_readNumber_15 : decode cX9_readNumber 15 = .ok (.if_icmp .lt 41, 3) := by decide +kernel
theorem dX9_readNumber_18 : decode cX9_readNumber 18 = .ok (.aload_n 0, 1) := by decide +kernel
theorem dX9_readNumber_19 : decode cX9_readNumber 19 = .ok (.invokevirtual 46, 3) := by decide +kernel
theorem dX9_readNumber_22 : decode cX9_readNumber 22 = .ok (.bipush 57, 2) := by decide +kernel
theorem dX9_readNumber_24 : decode cX9_readNumber 24 = .ok (.if_icmp .gt 32, 3) := by decide +kernel
theorem dX9_readNumber_27 : decode cX9_readNumber 27 = .ok (.bipush 10, 2) := by decide +kernel
theorem dX9_readNumber_29 : decode cX9_readNumber 29 = .ok (.iload_n 1, 1) := by decide +kernel
theorem dX9_readNumber_30 : decode cX9_readNumber 30 = .ok (.imul, 1) := by decide +kernel
theorem dX9_readNumber_31 : decode cX9_readNumber 31 = .ok (.aload_n 0, 1) := by decide +kernel
theorem dX9_readNumber_32 : decode cX9_readNumber 32 = .ok (.invokevirtual 46, 3) := by decide +kernel
theorem dX9_readNumber_35 : decode cX9_readNumber 35 = .ok (.iadd, 1) := by decide +kernel
theorem dX9_readNumber_36 : decode cX9_readNumber 36 = .ok (.bipush 48, 2) := by decide +kernel
theorem dX9_readNumber_38 : decode cX9_readNumber 38 = .ok (.isub, 1) := by decide +kernel
theorem dX9_readNumber_39 : decode cX9_readNumber 39 = .ok (.istore_n 1, 1) := by decide +kernel
theorem dX9_readNumber_40 : decode cX9_readNumber 40 = .ok (.aload_n 0, 1) := by decide +kernel
theorem dX9_readNumber_41 : decode cX9_readNumber 41 = .ok (.dup, 1) := by decide +kernel
theorem dX9_readNumber_42 : decode cX9_readNumber 42 = .ok (.getfield 37, 3) := by decide +kernel
theorem dX9_readNumber_45 : decode cX9_readNumber 45 = .ok (.iconst 1, 1) := by decide +kernel
theorem dX9_readNumber_46 : decode cX9_readNumber 46 = .ok (.iadd, 1) := by decide +kernel
theorem dX9_readNumber_47 : decode cX9_readNumber 47 = .ok (.putfield 37, 3) := by decide +kernel
theorem dX9_readNumber_50 : decode cX9_readNumber 50 = .ok (.iinc 2 1, 3) := by decide +kernel
theorem dX9_readNumber_53 : decode cX9_readNumber 53 = .ok (.goto (-49), 3) := by decide +kernel
theorem dX9_readNumber_56 : decode cX9_readNumber 56 = .ok (.aload_n 0, 1) := by decide +kernel
theorem dX9_readNumber_57 : decode cX9_readNumber 57 = .ok (.bipush 35, 2) := by decide +kernel
theorem dX9_readNumber_59 : decode cX9_readNumber 59 = .ok (.iload_n 1, 1) := by decide +kernel
theorem dX9_readNumber_60 : decode cX9_readNumber 60 = .ok (.invokevirtual 65, 3) := by decide +kernel
theorem dX9_readNumber_63 : decode cX9_readNumber 63 = .ok (.return_, 1) := by decide +kernel
theorem dX9_nameOf_0 : decode cX9_nameOf 0 = .ok (.iload_n 0, 1) := by decide +kernel
theorem dX9_nameOf_1 : decode cX9_nameOf 1 = .ok (.tableswitch 103 97 115 #[95, 103, 103, 91, 103, 103, 103, 93, 103, 103, 103, 101, 103, 99, 103, 103, 103, 103, 97], 91) := by decide +kernel
theorem dX9_nameOf_92 : decode cX9_nameOf 92 = .ok (.iconst 0, 1) := by decide +kernel
theorem dX9_nameOf_93 : decode cX9_nameOf 93 = .ok (.ireturn, 1) := by decide +kernel
theorem dX9_nameOf_94 : decode cX9_nameOf 94 = .ok (.iconst 1, 1) := by decide +kernel
theorem dX9_nameOf_95 : decode cX9_nameOf 95 = .ok (.ireturn, 1) := by decide +kernel
theorem dX9_nameOf_96 : decode cX9_nameOf 96 = .ok (.iconst 2, 1) := by decide +kernel
theorem dX9_nameOf_97 : decode cX9_nameOf 97 = .ok (.ireturn, 1) := by decide +kernel
theorem dX9_nameOf_98 : decode cX9_nameOf 98 = .ok (.iconst 3, 1) := by decide +kernel
theorem dX9_nameOf_99 : decode cX9_nameOf 99 = .ok (.ireturn, 1) := by decide +kernel
theorem dX9_nameOf_100 : decode cX9_nameOf 100 = .ok (.iconst 4, 1) := by decide +kernel
theorem dX9_nameOf_101 : decode cX9_nameOf 101 = .ok (.ireturn, 1) := by decide +kernel
theorem dX9_nameOf_102 : decode cX9_nameOf 102 = .ok (.iconst 5, 1) := by decide +kernel
theorem dX9_nameOf_103 : decode cX9_nameOf 103 = .ok (.ireturn, 1) := by decide +kernel
theorem dX9_nameOf_104 : decode cX9_nameOf 104 = .ok (.iconst (-1), 1) := by decide +kernel
theorem dX9_nameOf_105 : decode cX9_nameOf 105 = .ok (.ireturn, 1) := by decide +kernel
theorem dX10_init_0 : decode cX10_init 0 = .ok (.aload_n 0, 1) := by decide +kernel
theorem dX10_init_1 : decode cX10_init 1 = .ok (.invokespecial 3, 3) := by decide +kernel
theorem dX10_init_4 : decode cX10_init 4 = .ok (.aload_n 0, 1) := by decide +kernel
theorem dX10_init_5 : decode cX10_init 5 = .ok (.aload_n 1, 1) := by decide +kernel
theorem dX10_init_6 : decode cX10_init 6 = .ok (.putfield 9, 3) := by decide +kernel
theorem dX10_init_9 : decode cX10_init 9 = .ok (.aload_n 0, 1) := by decide +kernel
theorem dX10_init_10 : decode cX10_init 10 = .ok (.aload_n 2, 1) := by decide +kernel
theorem dX10_init_11 : decode cX10_init 11 = .ok (.putfield 15, 3) := by decide +kernel
theorem dX10_init_14 : decode cX10_init 14 = .ok (.return_, 1) := by decide +kernel
theorem dX10_behind_0 : decode cX10_behind 0 = .ok (.aload_n 0, 1) := by decide +kernel
theorem dX10_behind_1 : decode cX10_behind 1 = .ok (.getfield 15, 3) := by decide +kernel
theorem dX10_behind_4 : decode cX10_behind 4 = .ok (.aload_n 0, 1) := by decide +kernel
theorem dX10_behind_5 : decode cX10_behind 5 = .ok (.getfield 9, 3) := by decide +kernel
theorem dX10_behind_8 : decode cX10_behind 8 = .ok (.invokevirtual 18, 3) := by decide +kernel
theorem dX10_behind_11 : decode cX10_behind 11 = .ok (.iconst 0, 1) := by decide +kernel
theorem dX10_behind_12 : decode cX10_behind 12 = .ok (.istore_n 2, 1) := by decide +kernel
theorem dX10_behind_13 : decode cX10_behind 13 = .ok (.iload_n 2, 1) := by decide +kernel
theorem dX10_behind_14 : decode cX10_behind 14 = .ok (.iload_n 1, 1) := by decide +kernel
theorem dX10_behind_15 : decode cX10_behind 15 = .ok (.if_icmp .ge 16, 3) := by decide +kernel
theorem dX10_behind_18 : decode cX10_behind 18 = .ok (.aload_n 0, 1) := by decide +kernel
theorem dX10_behind_19 : decode cX10_behind 19 = .ok (.getfield 15, 3) := by decide +kernel
theorem dX10_behind_22 : decode cX10_behind 22 = .ok (.invokevirtual 24, 3) := by decide +kernel
theorem dX10_behind_25 : decode cX10_behind 25 = .ok (.iinc 2 1, 3) := by decide +kernel
theorem dX10_behind_28 : decode cX10_behind 28 = .ok (.goto (-15), 3) := by decide +kernel
theorem dX10_behind_31 : decode cX10_behind 31 = .ok (.aload_n 0, 1) := by decide +kernel
theorem dX10_behind_32 : decode cX10_behind 32 = .ok (.getfield 15, 3) := by decide +kernel
theorem dX10_behind_35 : decode cX10_behind 35 = .ok (.areturn, 1) := by decide +kernel
theorem dX10_firstDay_0 : decode cX10_firstDay 0 = .ok (.aload_n 0, 1) := by decide +kernel
theorem dX10_firstDay_1 : decode cX10_firstDay 1 = .ok (.getfield 15, 3) := by decide +kernel
theorem dX10_firstDay_4 : decode cX10_firstDay 4 = .ok (.aload_n 0, 1) := by decide +kernel
theorem dX10_firstDay_5 : decode cX10_firstDay 5 = .ok (.getfield 9, 3) := by decide +kernel
theorem dX10_firstDay_8 : decode cX10_firstDay 8 = .ok (.invokevirtual 18, 3) := by decide +kernel
theorem dX10_firstDay_11 : decode cX10_firstDay 11 = .ok (.iconst 0, 1) := by decide +kernel
theorem dX10_firstDay_12 : decode cX10_firstDay 12 = .ok (.istore_n 3, 1) := by decide +kernel
theorem dX10_firstDay_13 : decode cX10_firstDay 13 = .ok (.iload_n 3, 1) := by decide +kernel
theorem dX10_firstDay_14 : decode cX10_firstDay 14 = .ok (.bipush 40, 2) := by decide +kernel
theorem dX10_firstDay_16 : decode cX10_firstDay 16 = .ok (.if_icmp .gt 49, 3) := by decide +kernel
theorem dX10_firstDay_19 : decode cX10_firstDay 19 = .ok (.iload_n 1, 1) := by decide +kernel
theorem dX10_firstDay_20 : decode cX10_firstDay 20 = .ok (.ifCond .ge 13, 3) := by decide +kernel
theorem dX10_firstDay_23 : decode cX10_firstDay 23 = .ok (.aload_n 0, 1) := by decide +kernel
theorem dX10_firstDay_24 : decode cX10_firstDay 24 = .ok (.getfield 15, 3) := by decide +kernel
theorem dX10_firstDay_27 : decode cX10_firstDay 27 = .ok (.invokevirtual 27, 3) := by decide +kernel
theorem dX10_firstDay_30 : decode cX10_firstDay 30 = .ok (.goto 12, 3) := by decide +kernel
theorem dX10_firstDay_33 : decode cX10_firstDay 33 = .ok (.aload_n 0, 1) := by decide +kernel
theorem dX10_firstDay_34 : decode cX10_firstDay 34 = .ok (.getfield 15, 3) := by decide +kernel
theorem dX10_firstDay_37 : decode cX10_firstDay 37 = .ok (.getfield 31, 3) := by decide +kernel
theorem dX10_firstDay_40 : decode cX10_firstDay 40 = .ok (.iload_n 1, 1) := by decide +kernel
theorem dX10_firstDay_41 : decode cX10_firstDay 41 = .ok (.iaload, 1) := by decide +kernel
theorem dX10_firstDay_42 : decode cX10_firstDay 42 = .ok (.istore 4, 2) := by decide +kernel
theorem dX10_firstDay_44 : decode cX10_firstDay 44 = .ok (.iload 4, 2) := by decide +kernel
theorem dX10_firstDay_46 : decode cX10_firstDay 46 = .ok (.iload_n 2, 1) := by decide +kernel
theorem dX10_firstDay_47 : decode cX10_firstDay 47 = .ok (.if_icmp .lt 5, 3) := by decide +kernel
theorem dX10_firstDay_50 : decode cX10_firstDay 50 = .ok (.iload_n 3, 1) := by decide +kernel
theorem dX10_firstDay_51 : decode cX10_firstDay 51 = .ok (.ireturn, 1) := by decide +kernel
theorem dX10_firstDay_52 : decode cX10_firstDay 52 = .ok (.aload_n 0, 1) := by decide +kernel
theorem dX10_firstDay_53 : decode cX10_firstDay 53 = .ok (.getfield 15, 3) := by decide +kernel
theorem dX10_firstDay_56 : decode cX10_firstDay 56 = .ok (.invokevirtual 24, 3) := by decide +kernel
theorem dX10_firstDay_59 : decode cX10_firstDay 59 = .ok (.iinc 3 1, 3) := by decide +kernel
theorem dX10_firstDay_62 : decode cX10_firstDay 62 = .ok (.goto (-49), 3) := by decide +kernel
theorem dX10_firstDay_65 : decode cX10_firstDay 65 = .ok (.bipush (-2), 2) := by decide +kernel
theorem dX10_firstDay_67 : decode cX10_firstDay 67 = .ok (.ireturn, 1) := by decide +kernel
theorem dX10_forget_0 : decode cX10_forget 0 = .ok (.aload_n 0, 1) := by decide +kernel
theorem dX10_forget_1 : decode cX10_forget 1 = .ok (.bipush (-2), 2) := by decide +kernel
theorem dX10_forget_3 : decode cX10_forget 3 = .ok (.putfield 35, 3) := by decide +kernel
theorem dX10_forget_6 : decode cX10_forget 6 = .ok (.aload_n 0, 1) := by decide +kernel
theorem dX10_forget_7 : decode cX10_forget 7 = .ok (.bipush (-2), 2) := by decide +kernel
theorem dX10_forget_9 : decode cX10_forget 9 = .ok (.putfield 39, 3) := by decide +kernel
theorem dX10_forget_12 : decode cX10_forget 12 = .ok (.return_, 1) := by decide +kernel
theorem dX10_takeCooler_0 : decode cX10_takeCooler 0 = .ok (.iload_n 1, 1) := by decide +kernel
theorem dX10_takeCooler_1 : decode cX10_takeCooler 1 = .ok (.ifCond .lt 30, 3) := by decide +kernel
theorem dX10_takeCooler_4 : decode cX10_takeCooler 4 = .ok (.aload_n 0, 1) := by decide +kernel
theorem dX10_takeCooler_5 : decode cX10_takeCooler 5 = .ok (.getfield 35, 3) := by decide +kernel
theorem dX10_takeCooler_8 : decode cX10_takeCooler 8 = .ok (.bipush (-2), 2) := by decide +kernel
theorem dX10_takeCooler_10 : decode cX10_takeCooler 10 = .ok (.if_icmp .eq 11, 3) := by decide +kernel
theorem dX10_takeCooler_13 : decode cX10_takeCooler 13 = .ok (.iload_n 1, 1) := by decide +kernel
theorem dX10_takeCooler_14 : decode cX10_takeCooler 14 = .ok (.aload_n 0, 1) := by decide +kernel
theorem dX10_takeCooler_15 : decode cX10_takeCooler 15 = .ok (.getfield 35, 3) := by decide +kernel
theorem dX10_takeCooler_18 : decode cX10_takeCooler 18 = .ok (.if_icmp .ge 13, 3) := by decide +kernel
theorem dX10_takeCooler_21 : decode cX10_takeCooler 21 = .ok (.aload_n 0, 1) := by decide +kernel
theorem dX10_takeCooler_22 : decode cX10_takeCooler 22 = .ok (.iload_n 1, 1) := by decide +kernel
theorem dX10_takeCooler_23 : decode cX10_takeCooler 23 = .ok (.putfield 35, 3) := by decide +kernel
theorem dX10_takeCooler_26 : decode cX10_takeCooler 26 = .ok (.aload_n 0, 1) := by decide +kernel
theorem dX10_takeCooler_27 : decode cX10_takeCooler 27 = .ok (.iload_n 2, 1) := by decide +kernel
theorem dX10_takeCooler_28 : decode cX10_takeCooler 28 = .ok (.putfield 39, 3) := by decide +kernel
theorem dX10_takeCooler_31 : decode cX10_takeCooler 31 = .ok (.return_, 1) := by decide +kernel
theorem dX10_seekTurn_0 : decode cX10_seekTurn 0 = .ok (.aload_n 0, 1) := by decide +kernel
theorem dX10_seekTurn_1 : decode cX10_seekTurn 1 = .ok (.invokevirtual 42, 3) := by decide +kernel
theorem dX10_seekTurn_4 : decode cX10_seekTurn 4 = .ok (.iconst 0, 1) := by decide +kernel
theorem dX10_seekTurn_5 : decode cX10_seekTurn 5 = .ok (.istore_n 3, 1) := by decide +kernel
theorem dX10_seekTurn_6 : decode cX10_seekTurn 6 = .ok (.iload_n 3, 1) := by decide +kernel
theorem dX10_seekTurn_7 : decode cX10_seekTurn 7 = .ok (.bipush 64, 2) := by decide +kernel
theorem dX10_seekTurn_9 : decode cX10_seekTurn 9 = .ok (.if_icmp .ge 75, 3) := by decide +kernel
theorem dX10_seekTurn_12 : decode cX10_seekTurn 12 = .ok (.iload_n 3, 1) := by decide +kernel
theorem dX10_seekTurn_13 : decode cX10_seekTurn 13 = .ok (.invokestatic 45, 3) := by decide +kernel
theorem dX10_seekTurn_16 : decode cX10_seekTurn 16 = .ok (.iload_n 1, 1) := by decide +kernel
theorem dX10_seekTurn_17 : decode cX10_seekTurn 17 = .ok (.if_icmp .ne 61, 3) := by decide +kernel
theorem dX10_seekTurn_20 : decode cX10_seekTurn 20 = .ok (.aload_n 0, 1) := by decide +kernel
theorem dX10_seekTurn_21 : decode cX10_seekTurn 21 = .ok (.getfield 15, 3) := by decide +kernel
theorem dX10_seekTurn_24 : decode cX10_seekTurn 24 = .ok (.aload_n 0, 1) := by decide +kernel
theorem dX10_seekTurn_25 : decode cX10_seekTurn 25 = .ok (.getfield 9, 3) := by decide +kernel
theorem dX10_seekTurn_28 : decode cX10_seekTurn 28 = .ok (.invokevirtual 18, 3) := by decide +kernel
theorem dX10_seekTurn_31 : decode cX10_seekTurn 31 = .ok (.iconst 0, 1) := by decide +kernel
theorem dX10_seekTurn_32 : decode cX10_seekTurn 32 = .ok (.istore 4, 2) := by decide +kernel
theorem dX10_seekTurn_34 : decode cX10_seekTurn 34 = .ok (.iload 4, 2) := by decide +kernel
theorem dX10_seekTurn_36 : decode cX10_seekTurn 36 = .ok (.bipush 6, 2) := by decide +kernel
theorem dX10_seekTurn_38 : decode cX10_seekTurn 38 = .ok (.if_icmp .ge 27, 3) := by decide +kernel
theorem dX10_seekTurn_41 : decode cX10_seekTurn 41 = .ok (.iload_n 3, 1) := by decide +kernel
theorem dX10_seekTurn_42 : decode cX10_seekTurn 42 = .ok (.iload 4, 2) := by decide +kernel
theorem dX10_seekTurn_44 : decode cX10_seekTurn 44 = .ok (.ishr, 1) := by decide +kernel
theorem dX10_seekTurn_45 : decode cX10_seekTurn 45 = .ok (.iconst 1, 1) := by decide +kernel
theorem dX10_seekTurn_46 : decode cX10_seekTurn 46 = .ok (.iand, 1) := by decide +kernel
theorem dX10_seekTurn_47 : decode cX10_seekTurn 47 = .ok (.ifCond .eq 12, 3) := by decide +kernel
theorem dX10_seekTurn_50 : decode cX10_seekTurn 50 = .ok (.aload_n 0, 1) := by decide +kernel
theorem dX10_seekTurn_51 : decode cX10_seekTurn 51 = .ok (.getfield 15, 3) := by decide +kernel
theorem dX10_seekTurn_54 : decode cX10_seekTurn 54 = .ok (.iload 4, 2) := by decide +kernel
theorem dX10_seekTurn_56 : decode cX10_seekTurn 56 = .ok (.invokevirtual 51, 3) := by decide +kernel
theorem dX10_seekTurn_59 : decode cX10_seekTurn 59 = .ok (.iinc 4 1, 3) := by decide +kernel
theorem dX10_seekTurn_62 : decode cX10_seekTurn 62 = .ok (.goto (-28), 3) := by decide +kernel
theorem dX10_seekTurn_65 : decode cX10_seekTurn 65 = .ok (.aload_n 0, 1) := by decide +kernel
theorem dX10_seekTurn_66 : decode cX10_seekTurn 66 = .ok (.aload_n 0, 1) := by decide +kernel
theorem dX10_seekTurn_67 : decode cX10_seekTurn 67 = .ok (.getfield 15, 3) := by decide +kernel
theorem dX10_seekTurn_70 : decode cX10_seekTurn 70 = .ok (.iload_n 2, 1) := by decide +kernel
theorem dX10_seekTurn_71 : decode cX10_seekTurn 71 = .ok (.invokevirtual 55, 3) := by decide +kernel
theorem dX10_seekTurn_74 : decode cX10_seekTurn 74 = .ok (.iload_n 3, 1) := by decide +kernel
theorem dX10_seekTurn_75 : decode cX10_seekTurn 75 = .ok (.invokevirtual 58, 3) := by decide +kernel
theorem dX10_seekTurn_78 : decode cX10_seekTurn 78 = .ok (.iinc 3 1, 3) := by decide +kernel
theorem dX10_seekTurn_81 : decode cX10_seekTurn 81 = .ok (.goto (-75), 3) := by decide +kernel
theorem dX10_seekTurn_84 : decode cX10_seekTurn 84 = .ok (.return_, 1) := by decide +kernel
theorem dX10_seekChimney_0 : decode cX10_seekChimney 0 = .ok (.aload_n 0, 1) := by decide +kernel
theorem dX10_seekChimney_1 : decode cX10_seekChimney 1 = .ok (.invokevirtual 42, 3) := by decide +kernel
theorem dX10_seekChimney_4 : decode cX10_seekChimney 4 = .ok (.iconst 0, 1) := by decide +kernel
theorem dX10_seekChimney_5 : decode cX10_seekChimney 5 = .ok (.istore_n 2, 1) := by decide +kernel
theorem dX10_seekChimney_6 : decode cX10_seekChimney 6 = .ok (.iload_n 2, 1) := by decide +kernel
theorem dX10_seekChimney_7 : decode cX10_seekChimney 7 = .ok (.bipush 6, 2) := by decide +kernel
theorem dX10_seekChimney_9 : decode cX10_seekChimney 9 = .ok (.if_icmp .ge 55, 3) := by decide +kernel
theorem dX10_seekChimney_12 : decode cX10_seekChimney 12 = .ok (.aload_n 0, 1) := by decide +kernel
theorem dX10_seekChimney_13 : decode cX10_seekChimney 13 = .ok (.getfield 9, 3) := by decide +kernel
theorem dX10_seekChimney_16 : decode cX10_seekChimney 16 = .ok (.getfield 62, 3) := by decide +kernel
theorem dX10_seekChimney_19 : decode cX10_seekChimney 19 = .ok (.iload_n 2, 1) := by decide +kernel
theorem dX10_seekChimney_20 : decode cX10_seekChimney 20 = .ok (.iaload, 1) := by decide +kernel
theorem dX10_seekChimney_21 : decode cX10_seekChimney 21 = .ok (.ifCond .ne 37, 3) := by decide +kernel
theorem dX10_seekChimney_24 : decode cX10_seekChimney 24 = .ok (.aload_n 0, 1) := by decide +kernel
theorem dX10_seekChimney_25 : decode cX10_seekChimney 25 = .ok (.getfield 15, 3) := by decide +kernel
theorem dX10_seekChimney_28 : decode cX10_seekChimney 28 = .ok (.aload_n 0, 1) := by decide +kernel
theorem dX10_seekChimney_29 : decode cX10_seekChimney 29 = .ok (.getfield 9, 3) := by decide +kernel
theorem dX10_seekChimney_32 : decode cX10_seekChimney 32 = .ok (.invokevirtual 18, 3) := by decide +kernel
theorem dX10_seekChimney_35 : decode cX10_seekChimney 35 = .ok (.aload_n 0, 1) := by decide +kernel
theorem dX10_seekChimney_36 : decode cX10_seekChimney 36 = .ok (.getfield 15, 3) := by decide +kernel
theorem dX10_seekChimney_39 : decode cX10_seekChimney 39 = .ok (.getfield 62, 3) := by decide +kernel
theorem dX10_seekChimney_42 : decode cX10_seekChimney 42 = .ok (.iload_n 2, 1) := by decide +kernel
theorem dX10_seekChimney_43 : decode cX10_seekChimney 43 = .ok (.iconst 1, 1) := by decide +kernel
theorem dX10_seekChimney_44 : decode cX10_seekChimney 44 = .ok (.iastore, 1) := by decide +kernel
theorem dX10_seekChimney_45 : decode cX10_seekChimney 45 = .ok (.aload_n 0, 1) := by decide +kernel
theorem dX10_seekChimney_46 : decode cX10_seekChimney 46 = .ok (.aload_n 0, 1) := by decide +kernel
theorem dX10_seekChimney_47 : decode cX10_seekChimney 47 = .ok (.getfield 15, 3) := by decide +kernel
theorem dX10_seekChimney_50 : decode cX10_seekChimney 50 = .ok (.iload_n 1, 1) := by decide +kernel
theorem dX10_seekChimney_51 : decode cX10_seekChimney 51 = .ok (.invokevirtual 55, 3) := by decide +kernel
theorem dX10_seekChimney_54 : decode cX10_seekChimney 54 = .ok (.iload_n 2, 1) := by decide +kernel
theorem dX10_seekChimney_55 : decode cX10_seekChimney 55 = .ok (.invokevirtual 58, 3) := by decide +kernel
theorem dX10_seekChimney_58 : decode cX10_seekChimney 58 = .ok (.iinc 2 1, 3) := by decide +kernel
theorem dX10_seekChimney_61 : decode cX10_seekChimney 61 = .ok (.goto (-55), 3) := by decide +kernel
theorem dX10_seekChimney_64 : decode cX10_seekChimney 64 = .ok (.return_, 1) := by decide +kernel
theorem dX10_latestTurn_0 : decode cX10_latestTurn 0 = .ok (.aload_n 0, 1) := by decide +kernel
theorem dX10_latestTurn_1 : decode cX10_latestTurn 1 = .ok (.iconst (-1), 1) := by decide +kernel
theorem dX10_latestTurn_2 : decode cX10_latestTurn 2 = .ok (.aload_n 0, 1) := by decide +kernel
theorem dX10_latestTurn_3 : decode cX10_latestTurn 3 = .ok (.getfield 9, 3) := by decide +kernel
theorem dX10_latestTurn_6 : decode cX10_latestTurn 6 = .ok (.getfield 65, 3) := by decide +kernel
theorem dX10_latestTurn_9 : decode cX10_latestTurn 9 = .ok (.invokevirtual 68, 3) := by decide +kernel
theorem dX10_latestTurn_12 : decode cX10_latestTurn 12 = .ok (.istore_n 1, 1) := by decide +kernel
theorem dX10_latestTurn_13 : decode cX10_latestTurn 13 = .ok (.bipush 20, 2) := by decide +kernel
theorem dX10_latestTurn_15 : decode cX10_latestTurn 15 = .ok (.iload_n 1, 1) := by decide +kernel
theorem dX10_latestTurn_16 : decode cX10_latestTurn 16 = .ok (.iconst 1, 1) := by decide +kernel
theorem dX10_latestTurn_17 : decode cX10_latestTurn 17 = .ok (.isub, 1) := by decide +kernel
theorem dX10_latestTurn_18 : decode cX10_latestTurn 18 = .ok (.invokestatic 72, 3) := by decide +kernel
theorem dX10_latestTurn_21 : decode cX10_latestTurn 21 = .ok (.istore_n 2, 1) := by decide +kernel
theorem dX10_latestTurn_22 : decode cX10_latestTurn 22 = .ok (.iload_n 2, 1) := by decide +kernel
theorem dX10_latestTurn_23 : decode cX10_latestTurn 23 = .ok (.ifCond .lt 19, 3) := by decide +kernel
theorem dX10_latestTurn_26 : decode cX10_latestTurn 26 = .ok (.aload_n 0, 1) := by decide +kernel
theorem dX10_latestTurn_27 : decode cX10_latestTurn 27 = .ok (.iload_n 2, 1) := by decide +kernel
theorem dX10_latestTurn_28 : decode cX10_latestTurn 28 = .ok (.invokevirtual 77, 3) := by decide +kernel
theorem dX10_latestTurn_31 : decode cX10_latestTurn 31 = .ok (.ifCond .eq 5, 3) := by decide +kernel
theorem dX10_latestTurn_34 : decode cX10_latestTurn 34 = .ok (.iload_n 2, 1) := by decide +kernel
theorem dX10_latestTurn_35 : decode cX10_latestTurn 35 = .ok (.ireturn, 1) := by decide +kernel
theorem dX10_latestTurn_36 : decode cX10_latestTurn 36 = .ok (.iinc 2 (-1), 3) := by decide +kernel
theorem dX10_latestTurn_39 : decode cX10_latestTurn 39 = .ok (.goto (-17), 3) := by decide +kernel
theorem dX10_latestTurn_42 : decode cX10_latestTurn 42 = .ok (.bipush (-2), 2) := by decide +kernel
theorem dX10_latestTurn_44 : decode cX10_latestTurn 44 = .ok (.ireturn, 1) := by decide +kernel
theorem dX10_staysDarkIfTurned_0 : decode cX10_staysDarkIfTurned 0 = .ok (.aload_n 0, 1) := by decide +kernel
theorem dX10_staysDarkIfTurned_1 : decode cX10_staysDarkIfTurned 1 = .ok (.iload_n 1, 1) := by decide +kernel
theorem dX10_staysDarkIfTurned_2 : decode cX10_staysDarkIfTurned 2 = .ok (.invokevirtual 81, 3) := by decide +kernel
theorem dX10_staysDarkIfTurned_5 : decode cX10_staysDarkIfTurned 5 = .ok (.pop, 1) := by decide +kernel
theorem dX10_staysDarkIfTurned_6 : decode cX10_staysDarkIfTurned 6 = .ok (.iconst 0, 1) := by decide +kernel
theorem dX10_staysDarkIfTurned_7 : decode cX10_staysDarkIfTurned 7 = .ok (.istore_n 2, 1) := by decide +kernel
theorem dX10_staysDarkIfTurned_8 : decode cX10_staysDarkIfTurned 8 = .ok (.iload_n 2, 1) := by decide +kernel
theorem dX10_staysDarkIfTurned_9 : decode cX10_staysDarkIfTurned 9 = .ok (.bipush 6, 2) := by decide +kernel
theorem dX10_staysDarkIfTurned_11 : decode cX10_staysDarkIfTurned 11 = .ok (.if_icmp .ge 17, 3) := by decide +kernel
theorem dX10_staysDarkIfTurned_14 : decode cX10_staysDarkIfTurned 14 = .ok (.aload_n 0, 1) := by decide +kernel
theorem dX10_staysDarkIfTurned_15 : decode cX10_staysDarkIfTurned 15 = .ok (.getfield 15, 3) := by decide +kernel
theorem dX10_staysDarkIfTurned_18 : decode cX10_staysDarkIfTurned 18 = .ok (.iload_n 2, 1) := by decide +kernel
theorem dX10_staysDarkIfTurned_19 : decode cX10_staysDarkIfTurned 19 = .ok (.invokevirtual 51, 3) := by decide +kernel
theorem dX10_staysDarkIfTurned_22 : decode cX10_staysDarkIfTurned 22 = .ok (.iinc 2 1, 3) := by decide +kernel
theorem dX10_staysDarkIfTurned_25 : decode cX10_staysDarkIfTurned 25 = .ok (.goto (-17), 3) := by decide +kernel
theorem dX10_staysDarkIfTurned_28 : decode cX10_staysDarkIfTurned 28 = .ok (.iload_n 1, 1) := by decide +kernel
theorem dX10_staysDarkIfTurned_29 : decode cX10_staysDarkIfTurned 29 = .ok (.istore_n 2, 1) := by decide +kernel
theorem dX10_staysDarkIfTurned_30 : decode cX10_staysDarkIfTurned 30 = .ok (.iload_n 2, 1) := by decide +kernel
theorem dX10_staysDarkIfTurned_31 : decode cX10_staysDarkIfTurned 31 = .ok (.bipush 40, 2) := by decide +kernel
theorem dX10_staysDarkIfTurned_33 : decode cX10_staysDarkIfTurned 33 = .ok (.if_icmp .gt 28, 3) := by decide +kernel
theorem dX10_staysDarkIfTurned_36 : decode cX10_staysDarkIfTurned 36 = .ok (.aload_n 0, 1) := by decide +kernel
theorem dX10_staysDarkIfTurned_37 : decode cX10_staysDarkIfTurned 37 = .ok (.getfield 15, 3) := by decide +kernel
theorem dX10_staysDarkIfTurned_40 : decode cX10_staysDarkIfTurned 40 = .ok (.invokevirtual 85, 3) := by decide +kernel
theorem dX10_staysDarkIfTurned_43 : decode cX10_staysDarkIfTurned 43 = .ok (.ifCond .le 5, 3) := by decide +kernel
theorem dX10_staysDarkIfTurned_46 : decode cX10_staysDarkIfTurned 46 = .ok (.iconst 0, 1) := by decide +kernel
theorem dX10_staysDarkIfTurned_47 : decode cX10_staysDarkIfTurned 47 = .ok (.ireturn, 1) := by decide +kernel
theorem dX10_staysDarkIfTurned_48 : decode cX10_staysDarkIfTurned 48 = .ok (.aload_n 0, 1) := by decide +kernel
theorem dX10_staysDarkIfTurned_49 : decode cX10_staysDarkIfTurned 49 = .ok (.getfield 15, 3) := by decide +kernel
theorem dX10_staysDarkIfTurned_52 : decode cX10_staysDarkIfTurned 52 = .ok (.invokevirtual 24, 3) := by decide +kernel
theorem dX10_staysDarkIfTurned_55 : decode cX10_staysDarkIfTurned 55 = .ok (.iinc 2 1, 3) := by decide +kernel
theorem dX10_staysDarkIfTurned_58 : decode cX10_staysDarkIfTurned 58 = .ok (.goto (-28), 3) := by decide +kernel
theorem dX10_staysDarkIfTurned_61 : decode cX10_staysDarkIfTurned 61 = .ok (.iconst 1, 1) := by decide +kernel
theorem dX10_staysDarkIfTurned_62 : decode cX10_staysDarkIfTurned 62 = .ok (.ireturn, 1) := by decide +kernel
theorem dX10_seekSale_0 : decode cX10_seekSale 0 = .ok (.aload_n 0, 1) := by decide +kernel
theorem dX10_seekSale_1 : decode cX10_seekSale 1 = .ok (.getfield 15, 3) := by decide +kernel
theorem dX10_seekSale_4 : decode cX10_seekSale 4 = .ok (.aload_n 0, 1) := by decide +kernel
theorem dX10_seekSale_5 : decode cX10_seekSale 5 = .ok (.getfield 9, 3) := by decide +kernel
theorem dX10_seekSale_8 : decode cX10_seekSale 8 = .ok (.invokevirtual 18, 3) := by decide +kernel
theorem dX10_seekSale_11 : decode cX10_seekSale 11 = .ok (.aload_n 0, 1) := by decide +kernel
theorem dX10_seekSale_12 : decode cX10_seekSale 12 = .ok (.aload_n 0, 1) := by decide +kernel
theorem dX10_seekSale_13 : decode cX10_seekSale 13 = .ok (.getfield 15, 3) := by decide +kernel
theorem dX10_seekSale_16 : decode cX10_seekSale 16 = .ok (.invokevirtual 88, 3) := by decide +kernel
theorem dX10_seekSale_19 : decode cX10_seekSale 19 = .ok (.putfield 35, 3) := by decide +kernel
theorem dX10_seekSale_22 : decode cX10_seekSale 22 = .ok (.aload_n 0, 1) := by decide +kernel
theorem dX10_seekSale_23 : decode cX10_seekSale 23 = .ok (.iconst 0, 1) := by decide +kernel
theorem dX10_seekSale_24 : decode cX10_seekSale 24 = .ok (.putfield 39, 3) := by decide +kernel
theorem dX10_seekSale_27 : decode cX10_seekSale 27 = .ok (.iconst 1, 1) := by decide +kernel
theorem dX10_seekSale_28 : decode cX10_seekSale 28 = .ok (.istore_n 3, 1) := by decide +kernel
theorem dX10_seekSale_29 : decode cX10_seekSale 29 = .ok (.iload_n 3, 1) := by decide +kernel
theorem dX10_seekSale_30 : decode cX10_seekSale 30 = .ok (.iload_n 1, 1) := by decide +kernel
theorem dX10_seekSale_31 : decode cX10_seekSale 31 = .ok (.if_icmp .gt 49, 3) := by decide +kernel
theorem dX10_seekSale_34 : decode cX10_seekSale 34 = .ok (.aload_n 0, 1) := by decide +kernel
theorem dX10_seekSale_35 : decode cX10_seekSale 35 = .ok (.getfield 15, 3) := by decide +kernel
theorem dX10_seekSale_38 : decode cX10_seekSale 38 = .ok (.invokevirtual 24, 3) := by decide +kernel
theorem dX10_seekSale_41 : decode cX10_seekSale 41 = .ok (.aload_n 0, 1) := by decide +kernel
theorem dX10_seekSale_42 : decode cX10_seekSale 42 = .ok (.getfield 15, 3) := by decide +kernel
theorem dX10_seekSale_45 : decode cX10_seekSale 45 = .ok (.invokevirtual 88, 3) := by decide +kernel
theorem dX10_seekSale_48 : decode cX10_seekSale 48 = .ok (.iload_n 2, 1) := by decide +kernel
theorem dX10_seekSale_49 : decode cX10_seekSale 49 = .ok (.iload_n 3, 1) := by decide +kernel
theorem dX10_seekSale_50 : decode cX10_seekSale 50 = .ok (.imul, 1) := by decide +kernel
theorem dX10_seekSale_51 : decode cX10_seekSale 51 = .ok (.isub, 1) := by decide +kernel
theorem dX10_seekSale_52 : decode cX10_seekSale 52 = .ok (.istore 4, 2) := by decide +kernel
theorem dX10_seekSale_54 : decode cX10_seekSale 54 = .ok (.iload 4, 2) := by decide +kernel
theorem dX10_seekSale_56 : decode cX10_seekSale 56 = .ok (.aload_n 0, 1) := by decide +kernel
theorem dX10_seekSale_57 : decode cX10_seekSale 57 = .ok (.getfield 35, 3) := by decide +kernel
theorem dX10_seekSale_60 : decode cX10_seekSale 60 = .ok (.if_icmp .le 14, 3) := by decide +kernel
theorem dX10_seekSale_63 : decode cX10_seekSale 63 = .ok (.aload_n 0, 1) := by decide +kernel
theorem dX10_seekSale_64 : decode cX10_seekSale 64 = .ok (.iload 4, 2) := by decide +kernel
theorem dX10_seekSale_66 : decode cX10_seekSale 66 = .ok (.putfield 35, 3) := by decide +kernel
theorem dX10_seekSale_69 : decode cX10_seekSale 69 = .ok (.aload_n 0, 1) := by decide +kernel
theorem dX10_seekSale_70 : decode cX10_seekSale 70 = .ok (.iload_n 3, 1) := by decide +kernel
theorem dX10_seekSale_71 : decode cX10_seekSale 71 = .ok (.putfield 39, 3) := by decide +kernel
theorem dX10_seekSale_74 : decode cX10_seekSale 74 = .ok (.iinc 3 1, 3) := by decide +kernel
theorem dX10_seekSale_77 : decode cX10_seekSale 77 = .ok (.goto (-48), 3) := by decide +kernel
theorem dX10_seekSale_80 : decode cX10_seekSale 80 = .ok (.return_, 1) := by decide +kernel
theorem dX11_init_0 : decode cX11_init 0 = .ok (.aload_n 0, 1) := by decide +kernel
theorem dX11_init_1 : decode cX11_init 1 = .ok (.invokespecial 1, 3) := by decide +kernel
theorem dX11_init_4 : decode cX11_init 4 = .ok (.aload_n 0, 1) := by decide +kernel
theorem dX11_init_5 : decode cX11_init 5 = .ok (.new 7, 3) := by decide +kernel
theorem dX11_init_8 : decode cX11_init 8 = .ok (.dup, 1) := by decide +kernel
theorem dX11_init_9 : decode cX11_init 9 = .ok (.invokespecial 9, 3) := by decide +kernel
theorem dX11_init_12 : decode cX11_init 12 = .ok (.putfield 10, 3) := by decide +kernel
theorem dX11_init_15 : decode cX11_init 15 = .ok (.aload_n 0, 1) := by decide +kernel
theorem dX11_init_16 : decode cX11_init 16 = .ok (.new 16, 3) := by decide +kernel
theorem dX11_init_19 : decode cX11_init 19 = .ok (.dup, 1) := by decide +kernel
theorem dX11_init_20 : decode cX11_init 20 = .ok (.invokespecial 18, 3) := by decide +kernel
theorem dX11_init_23 : decode cX11_init 23 = .ok (.putfield 19, 3) := by decide +kernel
theorem dX11_init_26 : decode cX11_init 26 = .ok (.aload_n 0, 1) := by decide +kernel
theorem dX11_init_27 : decode cX11_init 27 = .ok (.new 23, 3) := by decide +kernel
theorem dX11_init_30 : decode cX11_init 30 = .ok (.dup, 1) := by decide +kernel
theorem dX11_init_31 : decode cX11_init 31 = .ok (.aload_n 0, 1) := by decide +kernel
theorem dX11_init_32 : decode cX11_init 32 = .ok (.getfield 19, 3) := by decide +kernel
theorem dX11_init_35 : decode cX11_init 35 = .ok (.invokespecial 25, 3) := by decide +kernel
theorem dX11_init_38 : decode cX11_init 38 = .ok (.putfield 28, 3) := by decide +kernel
theorem dX11_init_41 : decode cX11_init 41 = .ok (.aload_n 0, 1) := by decide +kernel
theorem dX11_init_42 : decode cX11_init 42 = .ok (.new 23, 3) := by decide +kernel
theorem dX11_init_45 : decode cX11_init 45 = .ok (.dup, 1) := by decide +kernel
theorem dX11_init_46 : decode cX11_init 46 = .ok (.aload_n 0, 1) := by decide +kernel
theorem dX11_init_47 : decode cX11_init 47 = .ok (.getfield 19, 3) := by decide +kernel
theorem dX11_init_50 : decode cX11_init 50 = .ok (.invokespecial 25, 3) := by decide +kernel
theorem dX11_init_53 : decode cX11_init 53 = .ok (.putfield 32, 3) := by decide +kernel
theorem dX11_init_56 : decode cX11_init 56 = .ok (.new 23, 3) := by decide +kernel
theorem dX11_init_59 : decode cX11_init 59 = .ok (.dup, 1) := by decide +kernel
theorem dX11_init_60 : decode cX11_init 60 = .ok (.aload_n 0, 1) := by decide +kernel
theorem dX11_init_61 : decode cX11_init 61 = .ok (.getfield 19, 3) := by decide +kernel
theorem dX11_init_64 : decode cX11_init 64 = .ok (.invokespecial 25, 3) := by decide +kernel
theorem dX11_init_67 : decode cX11_init 67 = .ok (.astore_n 1, 1) := by decide +kernel
theorem dX11_init_68 : decode cX11_init 68 = .ok (.aload_n 0, 1) := by decide +kernel
theorem dX11_init_69 : decode cX11_init 69 = .ok (.new 35, 3) := by decide +kernel
theorem dX11_init_72 : decode cX11_init 72 = .ok (.dup, 1) := by decide +kernel
theorem dX11_init_73 : decode cX11_init 73 = .ok (.aload_n 0, 1) := by decide +kernel
theorem dX11_init_74 : decode cX11_init 74 = .ok (.getfield 28, 3) := by decide +kernel
theorem dX11_init_77 : decode cX11_init 77 = .ok (.aload_n 1, 1) := by decide +kernel
theorem dX11_init_78 : decode cX11_init 78 = .ok (.invokespecial 37, 3) := by decide +kernel
theorem dX11_init_81 : decode cX11_init 81 = .ok (.putfield 40, 3) := by decide +kernel
theorem dX11_init_84 : decode cX11_init 84 = .ok (.aload_n 0, 1) := by decide +kernel
theorem dX11_init_85 : decode cX11_init 85 = .ok (.new 44, 3) := by decide +kernel
theorem dX11_init_88 : decode cX11_init 88 = .ok (.dup, 1) := by decide +kernel
theorem dX11_init_89 : decode cX11_init 89 = .ok (.aload_n 0, 1) := by decide +kernel
theorem dX11_init_90 : decode cX11_init 90 = .ok (.getfield 28, 3) := by decide +kernel
theorem dX11_init_93 : decode cX11_init 93 = .ok (.invokespecial 46, 3) := by decide +kernel
theorem dX11_init_96 : decode cX11_init 96 = .ok (.putfield 49, 3) := by decide +kernel
theorem dX11_init_99 : decode cX11_init 99 = .ok (.aload_n 0, 1) := by decide +kernel
theorem dX11_init_100 : decode cX11_init 100 = .ok (.new 53, 3) := by decide +kernel
theorem dX11_init_103 : decode cX11_init 103 = .ok (.dup, 1) := by decide +kernel
theorem dX11_init_104 : decode cX11_init 104 = .ok (.aload_n 0, 1) := by decide +kernel
theorem dX11_init_105 : decode cX11_init 105 = .ok (.getfield 28, 3) := by decide +kernel
theorem dX11_init_108 : decode cX11_init 108 = .ok (.aload_n 1, 1) := by decide +kernel
theorem dX11_init_109 : decode cX11_init 109 = .ok (.invokespecial 55, 3) := by decide +kernel
theorem dX11_init_112 : decode cX11_init 112 = .ok (.putfield 56, 3) := by decide +kernel
theorem dX11_init_115 : decode cX11_init 115 = .ok (.aload_n 0, 1) := by decide +kernel
theorem dX11_init_116 : decode cX11_init 116 = .ok (.new 60, 3) := by decide +kernel
theorem dX11_init_119 : decode cX11_init 119 = .ok (.dup, 1) := by decide +kernel
theorem dX11_init_120 : decode cX11_init 120 = .ok (.aload_n 0, 1) := by decide +kernel
theorem dX11_init_121 : decode cX11_init 121 = .ok (.getfield 28, 3) := by decide +kernel
theorem dX11_init_124 : decode cX11_init 124 = .ok (.aload_n 0, 1) := by decide +kernel
theorem dX11_init_125 : decode cX11_init 125 = .ok (.getfield 19, 3) := by decide +kernel
theorem dX11_init_128 : decode cX11_init 128 = .ok (.invokespecial 62, 3) := by decide +kernel
theorem dX11_init_131 : decode cX11_init 131 = .ok (.putfield 65, 3) := by decide +kernel
theorem dX11_init_134 : decode cX11_init 134 = .ok (.aload_n 0, 1) := by decide +kernel
theorem dX11_init_135 : decode cX11_init 135 = .ok (.new 69, 3) := by decide +kernel
theorem dX11_init_138 : decode cX11_init 138 = .ok (.dup, 1) := by decide +kernel
theorem dX11_init_139 : decode cX11_init 139 = .ok (.aload_n 0, 1) := by decide +kernel
theorem dX11_init_140 : decode cX11_init 140 = .ok (.getfield 28, 3) := by decide +kernel
theorem dX11_init_143 : decode cX11_init 143 = .ok (.aload_n 1, 1) := by decide +kernel
theorem dX11_init_144 : decode cX11_init 144 = .ok (.invokespecial 71, 3) := by decide +kernel
theorem dX11_init_147 : decode cX11_init 147 = .ok (.putfield 72, 3) := by decide +kernel
theorem dX11_init_150 : decode cX11_init 150 = .ok (.aload_n 0, 1) := by decide +kernel
theorem dX11_init_151 : decode cX11_init 151 = .ok (.new 76, 3) := by decide +kernel
theorem dX11_init_154 : decode cX11_init 154 = .ok (.dup, 1) := by decide +kernel
theorem dX11_init_155 : decode cX11_init 155 = .ok (.invokespecial 78, 3) := by decide +kernel
theorem dX11_init_158 : decode cX11_init 158 = .ok (.putfield 79, 3) := by decide +kernel
theorem dX11_init_161 : decode cX11_init 161 = .ok (.aload_n 0, 1) := by decide +kernel
theorem dX11_init_162 : decode cX11_init 162 = .ok (.new 83, 3) := by decide +kernel
theorem dX11_init_165 : decode cX11_init 165 = .ok (.dup, 1) := by decide +kernel
theorem dX11_init_166 : decode cX11_init 166 = .ok (.invokespecial 85, 3) := by decide +kernel
theorem dX11_init_169 : decode cX11_init 169 = .ok (.putfield 86, 3) := by decide +kernel
theorem dX11_init_172 : decode cX11_init 172 = .ok (.aload_n 0, 1) := by decide +kernel
theorem dX11_init_173 : decode cX11_init 173 = .ok (.bipush 6, 2) := by decide +kernel
theorem dX11_init_175 : decode cX11_init 175 = .ok (.anewarray 90, 3) := by decide +kernel
theorem dX11_init_178 : decode cX11_init 178 = .ok (.putfield 92, 3) := by decide +kernel
theorem dX11_init_181 : decode cX11_init 181 = .ok (.iconst 0, 1) := by decide +kernel
theorem dX11_init_182 : decode cX11_init 182 = .ok (.istore_n 2, 1) := by decide +kernel
theorem dX11_init_183 : decode cX11_init 183 = .ok (.iload_n 2, 1) := by decide +kernel
theorem dX11_init_184 : decode cX11_init 184 = .ok (.bipush 6, 2) := by decide +kernel
theorem dX11_init_186 : decode cX11_init 186 = .ok (.if_icmp .ge 22, 3) := by decide +kernel
theorem dX11_init_189 : decode cX11_init 189 = .ok (.aload_n 0, 1) := by decide +kernel
theorem dX11_init_190 : decode cX11_init 190 = .ok (.getfield 92, 3) := by decide +kernel
theorem dX11_init_193 : decode cX11_init 193 = .ok (.iload_n 2, 1) := by decide +kernel
theorem dX11_init_194 : decode cX11_init 194 = .ok (.new 90, 3) := by decide +kernel
theorem dX11_init_197 : decode cX11_init 197 = .ok (.dup, 1) := by decide +kernel
theorem dX11_init_198 : decode cX11_init 198 = .ok (.invokespecial 96, 3) := by decide +kernel
theorem dX11_init_201 : decode cX11_init 201 = .ok (.aastore, 1) := by decide +kernel
theorem dX11_init_202 : decode cX11_init 202 = .ok (.iinc 2 1, 3) := by decide +kernel
theorem dX11_init_205 : decode cX11_init 205 = .ok (.goto (-22), 3) := by decide +kernel
theorem dX11_init_208 : decode cX11_init 208 = .ok (.return_, 1) := by decide +kernel
theorem dX11_cart_0 : decode cX11_cart 0 = .ok (.iload_n 1, 1) := by decide +kernel
theorem dX11_cart_1 : decode cX11_cart 1 = .ok (.iconst 0, 1) := by decide +kernel
theorem dX11_cart_2 : decode cX11_cart 2 = .ok (.iconst 5, 1) := by decide +kernel
theorem dX11_cart_3 : decode cX11_cart 3 = .ok (.invokestatic 97, 3) := by decide +kernel
theorem dX11_cart_6 : decode cX11_cart 6 = .ok (.ifCond .eq 13, 3) := by decide +kernel
theorem dX11_cart_9 : decode cX11_cart 9 = .ok (.iload_n 2, 1) := by decide +kernel
theorem dX11_cart_10 : decode cX11_cart 10 = .ok (.iconst 0, 1) := by decide +kernel
theorem dX11_cart_11 : decode cX11_cart 11 = .ok (.bipush 99, 2) := by decide +kernel
theorem dX11_cart_13 : decode cX11_cart 13 = .ok (.invokestatic 97, 3) := by decide +kernel
theorem dX11_cart_16 : decode cX11_cart 16 = .ok (.ifCond .ne 5, 3) := by decide +kernel
theorem dX11_cart_19 : decode cX11_cart 19 = .ok (.iconst (-1), 1) := by decide +kernel
theorem dX11_cart_20 : decode cX11_cart 20 = .ok (.ireturn, 1) := by decide +kernel
theorem dX11_cart_21 : decode cX11_cart 21 = .ok (.aload_n 0, 1) := by decide +kernel
theorem dX11_cart_22 : decode cX11_cart 22 = .ok (.iload_n 1, 1) := by decide +kernel
theorem dX11_cart_23 : decode cX11_cart 23 = .ok (.iload_n 2, 1) := by decide +kernel
theorem dX11_cart_24 : decode cX11_cart 24 = .ok (.bipush 10, 2) := by decide +kernel
theorem dX11_cart_26 : decode cX11_cart 26 = .ok (.idiv, 1) := by decide +kernel
theorem dX11_cart_27 : decode cX11_cart 27 = .ok (.iload_n 2, 1) := by decide +kernel
theorem dX11_cart_28 : decode cX11_cart 28 = .ok (.bipush 10, 2) := by decide +kernel
theorem dX11_cart_30 : decode cX11_cart 30 = .ok (.irem, 1) := by decide +kernel
theorem dX11_cart_31 : decode cX11_cart 31 = .ok (.invokevirtual 101, 3) := by decide +kernel
theorem dX11_cart_34 : decode cX11_cart 34 = .ok (.ireturn, 1) := by decide +kernel
theorem dX11_mend_0 : decode cX11_mend 0 = .ok (.aload_n 0, 1) := by decide +kernel
theorem dX11_mend_1 : decode cX11_mend 1 = .ok (.iload_n 1, 1) := by decide +kernel
theorem dX11_mend_2 : decode cX11_mend 2 = .ok (.iload_n 2, 1) := by decide +kernel
theorem dX11_mend_3 : decode cX11_mend 3 = .ok (.invokevirtual 117, 3) := by decide +kernel
theorem dX11_mend_6 : decode cX11_mend 6 = .ok (.ifCond .eq 20, 3) := by decide +kernel
theorem dX11_mend_9 : decode cX11_mend 9 = .ok (.iload_n 3, 1) := by decide +kernel
theorem dX11_mend_10 : decode cX11_mend 10 = .ok (.getstatic 121, 3) := by decide +kernel
theorem dX11_mend_13 : decode cX11_mend 13 = .ok (.iload_n 2, 1) := by decide +kernel
theorem dX11_mend_14 : decode cX11_mend 14 = .ok (.iaload, 1) := by decide +kernel
theorem dX11_mend_15 : decode cX11_mend 15 = .ok (.getstatic 125, 3) := by decide +kernel
theorem dX11_mend_18 : decode cX11_mend 18 = .ok (.iload_n 2, 1) := by decide +kernel
theorem dX11_mend_19 : decode cX11_mend 19 = .ok (.iaload, 1) := by decide +kernel
theorem dX11_mend_20 : decode cX11_mend 20 = .ok (.invokestatic 97, 3) := by decide +kernel
theorem dX11_mend_23 : decode cX11_mend 23 = .ok (.ifCond .ne 5, 3) := by decide +kernel
theorem dX11_mend_26 : decode cX11_mend 26 = .ok (.iconst (-1), 1) := by decide +kernel
theorem dX11_mend_27 : decode cX11_mend 27 = .ok (.ireturn, 1) := by decide +kernel
theorem dX11_mend_28 : decode cX11_mend 28 = .ok (.aload_n 0, 1) := by decide +kernel
theorem dX11_mend_29 : decode cX11_mend 29 = .ok (.getfield 28, 3) := by decide +kernel
theorem dX11_mend_32 : decode cX11_mend 32 = .ok (.iload_n 1, 1) := by decide +kernel
theorem dX11_mend_33 : decode cX11_mend 33 = .ok (.iload_n 2, 1) := by decide +kernel
theorem dX11_mend_34 : decode cX11_mend 34 = .ok (.invokevirtual 128, 3) := by decide +kernel
theorem dX11_mend_37 : decode cX11_mend 37 = .ok (.istore 4, 2) := by decide +kernel
theorem dX11_mend_39 : decode cX11_mend 39 = .ok (.iload 4, 2) := by decide +kernel
theorem dX11_mend_41 : decode cX11_mend 41 = .ok (.iload_n 3, 1) := by decide +kernel
theorem dX11_mend_42 : decode cX11_mend 42 = .ok (.if_icmp .eq 25, 3) := by decide +kernel
theorem dX11_mend_45 : decode cX11_mend 45 = .ok (.aload_n 0, 1) := by decide +kernel
theorem dX11_mend_46 : decode cX11_mend 46 = .ok (.getfield 28, 3) := by decide +kernel
theorem dX11_mend_49 : decode cX11_mend 49 = .ok (.iload_n 1, 1) := by decide +kernel
theorem dX11_mend_50 : decode cX11_mend 50 = .ok (.iload_n 2, 1) := by decide +kernel
theorem dX11_mend_51 : decode cX11_mend 51 = .ok (.iload_n 3, 1) := by decide +kernel
theorem dX11_mend_52 : decode cX11_mend 52 = .ok (.invokevirtual 132, 3) := by decide +kernel
theorem dX11_mend_55 : decode cX11_mend 55 = .ok (.aload_n 0, 1) := by decide +kernel
theorem dX11_mend_56 : decode cX11_mend 56 = .ok (.getfield 79, 3) := by decide +kernel
theorem dX11_mend_59 : decode cX11_mend 59 = .ok (.iload_n 1, 1) := by decide +kernel
theorem dX11_mend_60 : decode cX11_mend 60 = .ok (.iload_n 2, 1) := by decide +kernel
theorem dX11_mend_61 : decode cX11_mend 61 = .ok (.iload 4, 2) := by decide +kernel
theorem dX11_mend_63 : decode cX11_mend 63 = .ok (.iload_n 3, 1) := by decide +kernel
theorem dX11_mend_64 : decode cX11_mend 64 = .ok (.invokevirtual 136, 3) := by decide +kernel
theorem dX11_mend_67 : decode cX11_mend 67 = .ok (.iload 4, 2) := by decide +kernel
theorem dX11_mend_69 : decode cX11_mend 69 = .ok (.ireturn, 1) := by decide +kernel
theorem dX11_of_0 : decode cX11_of 0 = .ok (.iload_n 2, 1) := by decide +kernel
theorem dX11_of_1 : decode cX11_of 1 = .ok (.bipush 8, 2) := by decide +kernel
theorem dX11_of_3 : decode cX11_of 3 = .ok (.if_icmp .ne 26, 3) := by decide +kernel
theorem dX11_of_6 : decode cX11_of 6 = .ok (.iload_n 1, 1) := by decide +kernel
theorem dX11_of_7 : decode cX11_of 7 = .ok (.iconst 0, 1) := by decide +kernel
theorem dX11_of_8 : decode cX11_of 8 = .ok (.iconst 5, 1) := by decide +kernel
theorem dX11_of_9 : decode cX11_of 9 = .ok (.invokestatic 97, 3) := by decide +kernel
theorem dX11_of_12 : decode cX11_of 12 = .ok (.ifCond .eq 15, 3) := by decide +kernel
theorem dX11_of_15 : decode cX11_of 15 = .ok (.aload_n 0, 1) := by decide +kernel
theorem dX11_of_16 : decode cX11_of 16 = .ok (.getfield 28, 3) := by decide +kernel
theorem dX11_of_19 : decode cX11_of 19 = .ok (.getfield 140, 3) := by decide +kernel
theorem dX11_of_22 : decode cX11_of 22 = .ok (.iload_n 1, 1) := by decide +kernel
theorem dX11_of_23 : decode cX11_of 23 = .ok (.iaload, 1) := by decide +kernel
theorem dX11_of_24 : decode cX11_of 24 = .ok (.goto 4, 3) := by decide +kernel
theorem dX11_of_27 : decode cX11_of 27 = .ok (.iconst (-1), 1) := by decide +kernel
theorem dX11_of_28 : decode cX11_of 28 = .ok (.ireturn, 1) := by decide +kernel
theorem dX11_of_29 : decode cX11_of 29 = .ok (.aload_n 0, 1) := by decide +kernel
theorem dX11_of_30 : decode cX11_of 30 = .ok (.iload_n 1, 1) := by decide +kernel
theorem dX11_of_31 : decode cX11_of 31 = .ok (.iload_n 2, 1) := by decide +kernel
theorem dX11_of_32 : decode cX11_of 32 = .ok (.invokevirtual 117, 3) := by decide +kernel
theorem dX11_of_35 : decode cX11_of 35 = .ok (.ifCond .eq 15, 3) := by decide +kernel
theorem dX11_of_38 : decode cX11_of 38 = .ok (.aload_n 0, 1) := by decide +kernel
theorem dX11_of_39 : decode cX11_of 39 = .ok (.getfield 28, 3) := by decide +kernel
theorem dX11_of_42 : decode cX11_of 42 = .ok (.iload_n 1, 1) := by decide +kernel
theorem dX11_of_43 : decode cX11_of 43 = .ok (.iload_n 2, 1) := by decide +kernel
theorem dX11_of_44 : decode cX11_of 44 = .ok (.invokevirtual 128, 3) := by decide +kernel
theorem dX11_of_47 : decode cX11_of 47 = .ok (.goto 4, 3) := by decide +kernel
theorem dX11_of_50 : decode cX11_of 50 = .ok (.iconst (-1), 1) := by decide +kernel
theorem dX11_of_51 : decode cX11_of 51 = .ok (.ireturn, 1) := by decide +kernel
theorem dX11_feed_0 : decode cX11_feed 0 = .ok (.iload_n 1, 1) := by decide +kernel
theorem dX11_feed_1 : decode cX11_feed 1 = .ok (.iconst 0, 1) := by decide +kernel
theorem dX11_feed_2 : decode cX11_feed 2 = .ok (.sipush 255, 3) := by decide +kernel
theorem dX11_feed_5 : decode cX11_feed 5 = .ok (.invokestatic 97, 3) := by decide +kernel
theorem dX11_feed_8 : decode cX11_feed 8 = .ok (.ifCond .eq 14, 3) := by decide +kernel
theorem dX11_feed_11 : decode cX11_feed 11 = .ok (.aload_n 0, 1) := by decide +kernel
theorem dX11_feed_12 : decode cX11_feed 12 = .ok (.getfield 10, 3) := by decide +kernel
theorem dX11_feed_15 : decode cX11_feed 15 = .ok (.iload_n 1, 1) := by decide +kernel
theorem dX11_feed_16 : decode cX11_feed 16 = .ok (.invokevirtual 143, 3) := by decide +kernel
theorem dX11_feed_19 : decode cX11_feed 19 = .ok (.goto 4, 3) := by decide +kernel
theorem dX11_feed_22 : decode cX11_feed 22 = .ok (.iconst (-1), 1) := by decide +kernel
theorem dX11_feed_23 : decode cX11_feed 23 = .ok (.ireturn, 1) := by decide +kernel
theorem dX11_law_0 : decode cX11_law 0 = .ok (.aload_n 0, 1) := by decide +kernel
theorem dX11_law_1 : decode cX11_law 1 = .ok (.getfield 10, 3) := by decide +kernel
theorem dX11_law_4 : decode cX11_law 4 = .ok (.invokevirtual 146, 3) := by decide +kernel
theorem dX11_law_7 : decode cX11_law 7 = .ok (.istore_n 1, 1) := by decide +kernel
theorem dX11_law_8 : decode cX11_law 8 = .ok (.iload_n 1, 1) := by decide +kernel
theorem dX11_law_9 : decode cX11_law 9 = .ok (.ifCond .ge 14, 3) := by decide +kernel
theorem dX11_law_12 : decode cX11_law 12 = .ok (.aload_n 0, 1) := by decide +kernel
theorem dX11_law_13 : decode cX11_law 13 = .ok (.getfield 19, 3) := by decide +kernel
theorem dX11_law_16 : decode cX11_law 16 = .ok (.aload_n 0, 1) := by decide +kernel
theorem dX11_law_17 : decode cX11_law 17 = .ok (.getfield 10, 3) := by decide +kernel
theorem dX11_law_20 : decode cX11_law 20 = .ok (.invokevirtual 149, 3) := by decide +kernel
theorem dX11_law_23 : decode cX11_law 23 = .ok (.aload_n 0, 1) := by decide +kernel
theorem dX11_law_24 : decode cX11_law 24 = .ok (.getfield 10, 3) := by decide +kernel
theorem dX11_law_27 : decode cX11_law 27 = .ok (.invokevirtual 153, 3) := by decide +kernel
theorem dX11_law_30 : decode cX11_law 30 = .ok (.iload_n 1, 1) := by decide +kernel
theorem dX11_law_31 : decode cX11_law 31 = .ok (.ifCond .ge 7, 3) := by decide +kernel
theorem dX11_law_34 : decode cX11_law 34 = .ok (.iconst 1, 1) := by decide +kernel
theorem dX11_law_35 : decode cX11_law 35 = .ok (.goto 7, 3) := by decide +kernel
theorem dX11_law_38 : decode cX11_law 38 = .ok (.bipush (-100), 2) := by decide +kernel
theorem dX11_law_40 : decode cX11_law 40 = .ok (.iload_n 1, 1) := by decide +kernel
theorem dX11_law_41 : decode cX11_law 41 = .ok (.isub, 1) := by decide +kernel
theorem dX11_law_42 : decode cX11_law 42 = .ok (.ireturn, 1) := by decide +kernel
theorem dX11_stack_0 : decode cX11_stack 0 = .ok (.iload_n 1, 1) := by decide +kernel
theorem dX11_stack_1 : decode cX11_stack 1 = .ok (.iconst 0, 1) := by decide +kernel
theorem dX11_stack_2 : decode cX11_stack 2 = .ok (.bipush 40, 2) := by decide +kernel
theorem dX11_stack_4 : decode cX11_stack 4 = .ok (.invokestatic 97, 3) := by decide +kernel
theorem dX11_stack_7 : decode cX11_stack 7 = .ok (.ifCond .eq 12, 3) := by decide +kernel
theorem dX11_stack_10 : decode cX11_stack 10 = .ok (.iload_n 2, 1) := by decide +kernel
theorem dX11_stack_11 : decode cX11_stack 11 = .ok (.iconst 0, 1) := by decide +kernel
theorem dX11_stack_12 : decode cX11_stack 12 = .ok (.iconst 3, 1) := by decide +kernel
theorem dX11_stack_13 : decode cX11_stack 13 = .ok (.invokestatic 97, 3) := by decide +kernel
theorem dX11_stack_16 : decode cX11_stack 16 = .ok (.ifCond .ne 5, 3) := by decide +kernel
theorem dX11_stack_19 : decode cX11_stack 19 = .ok (.iconst (-1), 1) := by decide +kernel
theorem dX11_stack_20 : decode cX11_stack 20 = .ok (.ireturn, 1) := by decide +kernel
theorem dX11_stack_21 : decode cX11_stack 21 = .ok (.aload_n 0, 1) := by decide +kernel
theorem dX11_stack_22 : decode cX11_stack 22 = .ok (.getfield 40, 3) := by decide +kernel
theorem dX11_stack_25 : decode cX11_stack 25 = .ok (.iload_n 1, 1) := by decide +kernel
theorem dX11_stack_26 : decode cX11_stack 26 = .ok (.invokevirtual 164, 3) := by decide +kernel
theorem dX11_stack_29 : decode cX11_stack 29 = .ok (.astore_n 3, 1) := by decide +kernel
theorem dX11_stack_30 : decode cX11_stack 30 = .ok (.iload_n 2, 1) := by decide +kernel
theorem dX11_stack_31 : decode cX11_stack 31 = .ok (.tableswitch 40 0 2 #[25, 30, 35], 25) := by decide +kernel
theorem dX11_stack_56 : decode cX11_stack 56 = .ok (.aload_n 3, 1) := by decide +kernel
theorem dX11_stack_57 : decode cX11_stack 57 = .ok (.invokevirtual 177, 3) := by decide +kernel
theorem dX11_stack_60 : decode cX11_stack 60 = .ok (.ireturn, 1) := by decide +kernel
theorem dX11_stack_61 : decode cX11_stack 61 = .ok (.aload_n 3, 1) := by decide +kernel
theorem dX11_stack_62 : decode cX11_stack 62 = .ok (.invokevirtual 180, 3) := by decide +kernel
theorem dX11_stack_65 : decode cX11_stack 65 = .ok (.ireturn, 1) := by decide +kernel
theorem dX11_stack_66 : decode cX11_stack 66 = .ok (.aload_n 3, 1) := by decide +kernel
theorem dX11_stack_67 : decode cX11_stack 67 = .ok (.invokevirtual 183, 3) := by decide +kernel
theorem dX11_stack_70 : decode cX11_stack 70 = .ok (.ireturn, 1) := by decide +kernel
theorem dX11_stack_71 : decode cX11_stack 71 = .ok (.aload_n 3, 1) := by decide +kernel
theorem dX11_stack_72 : decode cX11_stack 72 = .ok (.invokevirtual 186, 3) := by decide +kernel
theorem dX11_stack_75 : decode cX11_stack 75 = .ok (.ireturn, 1) := by decide +kernel
theorem dX11_rods_0 : decode cX11_rods 0 = .ok (.iload_n 1, 1) := by decide +kernel
theorem dX11_rods_1 : decode cX11_rods 1 = .ok (.iconst 0, 1) := by decide +kernel
theorem dX11_rods_2 : decode cX11_rods 2 = .ok (.bipush 99, 2) := by decide +kernel
theorem dX11_rods_4 : decode cX11_rods 4 = .ok (.invokestatic 97, 3) := by decide +kernel
theorem dX11_rods_7 : decode cX11_rods 7 = .ok (.ifCond .eq 14, 3) := by decide +kernel
theorem dX11_rods_10 : decode cX11_rods 10 = .ok (.aload_n 0, 1) := by decide +kernel
theorem dX11_rods_11 : decode cX11_rods 11 = .ok (.getfield 49, 3) := by decide +kernel
theorem dX11_rods_14 : decode cX11_rods 14 = .ok (.iload_n 1, 1) := by decide +kernel
theorem dX11_rods_15 : decode cX11_rods 15 = .ok (.invokevirtual 192, 3) := by decide +kernel
theorem dX11_rods_18 : decode cX11_rods 18 = .ok (.goto 4, 3) := by decide +kernel
theorem dX11_rods_21 : decode cX11_rods 21 = .ok (.iconst (-1), 1) := by decide +kernel
theorem dX11_rods_22 : decode cX11_rods 22 = .ok (.ireturn, 1) := by decide +kernel
theorem dX11_rodsAt_0 : decode cX11_rodsAt 0 = .ok (.iload_n 1, 1) := by decide +kernel
theorem dX11_rodsAt_1 : decode cX11_rodsAt 1 = .ok (.iconst 0, 1) := by decide +kernel
theorem dX11_rodsAt_2 : decode cX11_rodsAt 2 = .ok (.bipush 99, 2) := by decide +kernel
theorem dX11_rodsAt_4 : decode cX11_rodsAt 4 = .ok (.invokestatic 97, 3) := by decide +kernel
theorem dX11_rodsAt_7 : decode cX11_rodsAt 7 = .ok (.ifCond .ne 7, 3) := by decide +kernel
theorem dX11_rodsAt_10 : decode cX11_rodsAt 10 = .ok (.ldc2_w 197, 3) := by decide +kernel
theorem dX11_rodsAt_13 : decode cX11_rodsAt 13 = .ok (.lreturn, 1) := by decide +kernel
theorem dX11_rodsAt_14 : decode cX11_rodsAt 14 = .ok (.aload_n 0, 1) := by decide +kernel
theorem dX11_rodsAt_15 : decode cX11_rodsAt 15 = .ok (.getfield 49, 3) := by decide +kernel
theorem dX11_rodsAt_18 : decode cX11_rodsAt 18 = .ok (.iload_n 1, 1) := by decide +kernel
theorem dX11_rodsAt_19 : decode cX11_rodsAt 19 = .ok (.invokevirtual 192, 3) := by decide +kernel
theorem dX11_rodsAt_22 : decode cX11_rodsAt 22 = .ok (.bipush (-2), 2) := by decide +kernel
theorem dX11_rodsAt_24 : decode cX11_rodsAt 24 = .ok (.if_icmp .ne 9, 3) := by decide +kernel
theorem dX11_rodsAt_27 : decode cX11_rodsAt 27 = .ok (.ldc2_w 199, 3) := by decide +kernel
theorem dX11_rodsAt_30 : decode cX11_rodsAt 30 = .ok (.goto 11, 3) := by decide +kernel
theorem dX11_rodsAt_33 : decode cX11_rodsAt 33 = .ok (.aload_n 0, 1) := by decide +kernel
theorem dX11_rodsAt_34 : decode cX11_rodsAt 34 = .ok (.getfield 49, 3) := by decide +kernel
theorem dX11_rodsAt_37 : decode cX11_rodsAt 37 = .ok (.getfield 201, 3) := by decide +kernel
theorem dX11_rodsAt_40 : decode cX11_rodsAt 40 = .ok (.i2l, 1) := by decide +kernel
theorem dX11_rodsAt_41 : decode cX11_rodsAt 41 = .ok (.lreturn, 1) := by decide +kernel
theorem dX11_turn_0 : decode cX11_turn 0 = .ok (.iload_n 1, 1) := by decide +kernel
theorem dX11_turn_1 : decode cX11_turn 1 = .ok (.iconst 0, 1) := by decide +kernel
theorem dX11_turn_2 : decode cX11_turn 2 = .ok (.iconst 3, 1) := by decide +kernel
theorem dX11_turn_3 : decode cX11_turn 3 = .ok (.invokestatic 97, 3) := by decide +kernel
theorem dX11_turn_6 : decode cX11_turn 6 = .ok (.ifCond .eq 22, 3) := by decide +kernel
theorem dX11_turn_9 : decode cX11_turn 9 = .ok (.iload_n 2, 1) := by decide +kernel
theorem dX11_turn_10 : decode cX11_turn 10 = .ok (.iconst 0, 1) := by decide +kernel
theorem dX11_turn_11 : decode cX11_turn 11 = .ok (.bipush 20, 2) := by decide +kernel
theorem dX11_turn_13 : decode cX11_turn 13 = .ok (.invokestatic 97, 3) := by decide +kernel
theorem dX11_turn_16 : decode cX11_turn 16 = .ok (.ifCond .eq 12, 3) := by decide +kernel
theorem dX11_turn_19 : decode cX11_turn 19 = .ok (.iload_n 3, 1) := by decide +kernel
theorem dX11_turn_20 : decode cX11_turn 20 = .ok (.iconst 0, 1) := by decide +kernel
theorem dX11_turn_21 : decode cX11_turn 21 = .ok (.iconst 1, 1) := by decide +kernel
theorem dX11_turn_22 : decode cX11_turn 22 = .ok (.invokestatic 97, 3) := by decide +kernel
theorem dX11_turn_25 : decode cX11_turn 25 = .ok (.ifCond .ne 5, 3) := by decide +kernel
theorem dX11_turn_28 : decode cX11_turn 28 = .ok (.iconst (-1), 1) := by decide +kernel
theorem dX11_turn_29 : decode cX11_turn 29 = .ok (.ireturn, 1) := by decide +kernel
theorem dX11_turn_30 : decode cX11_turn 30 = .ok (.aload_n 0, 1) := by decide +kernel
theorem dX11_turn_31 : decode cX11_turn 31 = .ok (.getfield 40, 3) := by decide +kernel
theorem dX11_turn_34 : decode cX11_turn 34 = .ok (.iload_n 1, 1) := by decide +kernel
theorem dX11_turn_35 : decode cX11_turn 35 = .ok (.iload_n 2, 1) := by decide +kernel
theorem dX11_turn_36 : decode cX11_turn 36 = .ok (.invokevirtual 205, 3) := by decide +kernel
theorem dX11_turn_39 : decode cX11_turn 39 = .ok (.iload_n 3, 1) := by decide +kernel
theorem dX11_turn_40 : decode cX11_turn 40 = .ok (.ifCond .ne 13, 3) := by decide +kernel
theorem dX11_turn_43 : decode cX11_turn 43 = .ok (.aload_n 0, 1) := by decide +kernel
theorem dX11_turn_44 : decode cX11_turn 44 = .ok (.getfield 40, 3) := by decide +kernel
theorem dX11_turn_47 : decode cX11_turn 47 = .ok (.getfield 209, 3) := by decide +kernel
theorem dX11_turn_50 : decode cX11_turn 50 = .ok (.goto 10, 3) := by decide +kernel
theorem dX11_turn_53 : decode cX11_turn 53 = .ok (.aload_n 0, 1) := by decide +kernel
theorem dX11_turn_54 : decode cX11_turn 54 = .ok (.getfield 40, 3) := by decide +kernel
theorem dX11_turn_57 : decode cX11_turn 57 = .ok (.getfield 212, 3) := by decide +kernel
theorem dX11_turn_60 : decode cX11_turn 60 = .ok (.ireturn, 1) := by decide +kernel
theorem dX11_chimney_0 : decode cX11_chimney 0 = .ok (.iload_n 1, 1) := by decide +kernel
theorem dX11_chimney_1 : decode cX11_chimney 1 = .ok (.iconst 0, 1) := by decide +kernel
theorem dX11_chimney_2 : decode cX11_chimney 2 = .ok (.bipush 20, 2) := by decide +kernel
theorem dX11_chimney_4 : decode cX11_chimney 4 = .ok (.invokestatic 97, 3) := by decide +kernel
theorem dX11_chimney_7 : decode cX11_chimney 7 = .ok (.ifCond .eq 12, 3) := by decide +kernel
theorem dX11_chimney_10 : decode cX11_chimney 10 = .ok (.iload_n 2, 1) := by decide +kernel
theorem dX11_chimney_11 : decode cX11_chimney 11 = .ok (.iconst 0, 1) := by decide +kernel
theorem dX11_chimney_12 : decode cX11_chimney 12 = .ok (.iconst 1, 1) := by decide +kernel
theorem dX11_chimney_13 : decode cX11_chimney 13 = .ok (.invokestatic 97, 3) := by decide +kernel
theorem dX11_chimney_16 : decode cX11_chimney 16 = .ok (.ifCond .ne 5, 3) := by decide +kernel
theorem dX11_chimney_19 : decode cX11_chimney 19 = .ok (.iconst (-1), 1) := by decide +kernel
theorem dX11_chimney_20 : decode cX11_chimney 20 = .ok (.ireturn, 1) := by decide +kernel
theorem dX11_chimney_21 : decode cX11_chimney 21 = .ok (.aload_n 0, 1) := by decide +kernel
theorem dX11_chimney_22 : decode cX11_chimney 22 = .ok (.getfield 40, 3) := by decide +kernel
theorem dX11_chimney_25 : decode cX11_chimney 25 = .ok (.iload_n 1, 1) := by decide +kernel
theorem dX11_chimney_26 : decode cX11_chimney 26 = .ok (.invokevirtual 215, 3) := by decide +kernel
theorem dX11_chimney_29 : decode cX11_chimney 29 = .ok (.iload_n 2, 1) := by decide +kernel
theorem dX11_chimney_30 : decode cX11_chimney 30 = .ok (.ifCond .ne 13, 3) := by decide +kernel
theorem dX11_chimney_33 : decode cX11_chimney 33 = .ok (.aload_n 0, 1) := by decide +kernel
theorem dX11_chimney_34 : decode cX11_chimney 34 = .ok (.getfield 40, 3) := by decide +kernel
theorem dX11_chimney_37 : decode cX11_chimney 37 = .ok (.getfield 212, 3) := by decide +kernel
theorem dX11_chimney_40 : decode cX11_chimney 40 = .ok (.goto 10, 3) := by decide +kernel
theorem dX11_chimney_43 : decode cX11_chimney 43 = .ok (.aload_n 0, 1) := by decide +kernel
theorem dX11_chimney_44 : decode cX11_chimney 44 = .ok (.getfield 40, 3) := by decide +kernel
theorem dX11_chimney_47 : decode cX11_chimney 47 = .ok (.getfield 209, 3) := by decide +kernel
theorem dX11_chimney_50 : decode cX11_chimney 50 = .ok (.ireturn, 1) := by decide +kernel
theorem dX11_latest_0 : decode cX11_latest 0 = .ok (.aload_n 0, 1) := by decide +kernel
theorem dX11_latest_1 : decode cX11_latest 1 = .ok (.getfield 40, 3) := by decide +kernel
theorem dX11_latest_4 : decode cX11_latest 4 = .ok (.invokevirtual 219, 3) := by decide +kernel
theorem dX11_latest_7 : decode cX11_latest 7 = .ok (.ireturn, 1) := by decide +kernel
theorem dX11_lay_0 : decode cX11_lay 0 = .ok (.iload_n 1, 1) := by decide +kernel
theorem dX11_lay_1 : decode cX11_lay 1 = .ok (.invokestatic 105, 3) := by decide +kernel
theorem dX11_lay_4 : decode cX11_lay 4 = .ok (.ifCond .eq 18, 3) := by decide +kernel
theorem dX11_lay_7 : decode cX11_lay 7 = .ok (.iload_n 2, 1) := by decide +kernel
theorem dX11_lay_8 : decode cX11_lay 8 = .ok (.iconst 0, 1) := by decide +kernel
theorem dX11_lay_9 : decode cX11_lay 9 = .ok (.bipush 8, 2) := by decide +kernel
theorem dX11_lay_11 : decode cX11_lay 11 = .ok (.invokestatic 97, 3) := by decide +kernel
theorem dX11_lay_14 : decode cX11_lay 14 = .ok (.ifCond .eq 8, 3) := by decide +kernel
theorem dX11_lay_17 : decode cX11_lay 17 = .ok (.iload_n 3, 1) := by decide +kernel
theorem dX11_lay_18 : decode cX11_lay 18 = .ok (.iconst (-1), 1) := by decide +kernel
theorem dX11_lay_19 : decode cX11_lay 19 = .ok (.if_icmp .ge 5, 3) := by decide +kernel
theorem dX11_lay_22 : decode cX11_lay 22 = .ok (.iconst (-1), 1) := by decide +kernel
theorem dX11_lay_23 : decode cX11_lay 23 = .ok (.ireturn, 1) := by decide +kernel
theorem dX11_lay_24 : decode cX11_lay 24 = .ok (.aload_n 0, 1) := by decide +kernel
theorem dX11_lay_25 : decode cX11_lay 25 = .ok (.getfield 92, 3) := by decide +kernel
theorem dX11_lay_28 : decode cX11_lay 28 = .ok (.iload_n 1, 1) := by decide +kernel
theorem dX11_lay_29 : decode cX11_lay 29 = .ok (.aaload, 1) := by decide +kernel
theorem dX11_lay_30 : decode cX11_lay 30 = .ok (.invokevirtual 109, 3) := by decide +kernel
theorem dX11_lay_33 : decode cX11_lay 33 = .ok (.istore 4, 2) := by decide +kernel
theorem dX11_lay_35 : decode cX11_lay 35 = .ok (.iload 4, 2) := by decide +kernel
theorem dX11_lay_37 : decode cX11_lay 37 = .ok (.ifCond .eq 6, 3) := by decide +kernel
theorem dX11_lay_40 : decode cX11_lay 40 = .ok (.iload 4, 2) := by decide +kernel
theorem dX11_lay_42 : decode cX11_lay 42 = .ok (.ireturn, 1) := by decide +kernel
theorem dX11_lay_43 : decode cX11_lay 43 = .ok (.aload_n 0, 1) := by decide +kernel
theorem dX11_lay_44 : decode cX11_lay 44 = .ok (.getfield 56, 3) := by decide +kernel
theorem dX11_lay_47 : decode cX11_lay 47 = .ok (.aload_n 0, 1) := by decide +kernel
theorem dX11_lay_48 : decode cX11_lay 48 = .ok (.getfield 92, 3) := by decide +kernel
theorem dX11_lay_51 : decode cX11_lay 51 = .ok (.iload_n 1, 1) := by decide +kernel
theorem dX11_lay_52 : decode cX11_lay 52 = .ok (.aaload, 1) := by decide +kernel
theorem dX11_lay_53 : decode cX11_lay 53 = .ok (.iload_n 2, 1) := by decide +kernel
theorem dX11_lay_54 : decode cX11_lay 54 = .ok (.invokevirtual 222, 3) := by decide +kernel
theorem dX11_lay_57 : decode cX11_lay 57 = .ok (.iload_n 3, 1) := by decide +kernel
theorem dX11_lay_58 : decode cX11_lay 58 = .ok (.ifCond .ge 13, 3) := by decide +kernel
theorem dX11_lay_61 : decode cX11_lay 61 = .ok (.aload_n 0, 1) := by decide +kernel
theorem dX11_lay_62 : decode cX11_lay 62 = .ok (.getfield 56, 3) := by decide +kernel
theorem dX11_lay_65 : decode cX11_lay 65 = .ok (.getfield 226, 3) := by decide +kernel
theorem dX11_lay_68 : decode cX11_lay 68 = .ok (.goto 11, 3) := by decide +kernel
theorem dX11_lay_71 : decode cX11_lay 71 = .ok (.aload_n 0, 1) := by decide +kernel
theorem dX11_lay_72 : decode cX11_lay 72 = .ok (.getfield 56, 3) := by decide +kernel
theorem dX11_lay_75 : decode cX11_lay 75 = .ok (.iload_n 3, 1) := by decide +kernel
theorem dX11_lay_76 : decode cX11_lay 76 = .ok (.invokevirtual 227, 3) := by decide +kernel
theorem dX11_lay_79 : decode cX11_lay 79 = .ok (.ireturn, 1) := by decide +kernel
theorem dX11_worth_0 : decode cX11_worth 0 = .ok (.aload_n 0, 1) := by decide +kernel
theorem dX11_worth_1 : decode cX11_worth 1 = .ok (.getfield 28, 3) := by decide +kernel
theorem dX11_worth_4 : decode cX11_worth 4 = .ok (.invokevirtual 230, 3) := by decide +kernel
theorem dX11_worth_7 : decode cX11_worth 7 = .ok (.ireturn, 1) := by decide +kernel
theorem dX11_sell_0 : decode cX11_sell 0 = .ok (.iload_n 1, 1) := by decide +kernel
theorem dX11_sell_1 : decode cX11_sell 1 = .ok (.iconst 0, 1) := by decide +kernel
theorem dX11_sell_2 : decode cX11_sell 2 = .ok (.bipush 40, 2) := by decide +kernel
theorem dX11_sell_4 : decode cX11_sell 4 = .ok (.invokestatic 97, 3) := by decide +kernel
theorem dX11_sell_7 : decode cX11_sell 7 = .ok (.ifCond .eq 22, 3) := by decide +kernel
theorem dX11_sell_10 : decode cX11_sell 10 = .ok (.iload_n 2, 1) := by decide +kernel
theorem dX11_sell_11 : decode cX11_sell 11 = .ok (.iconst 0, 1) := by decide +kernel
theorem dX11_sell_12 : decode cX11_sell 12 = .ok (.bipush 99, 2) := by decide +kernel
theorem dX11_sell_14 : decode cX11_sell 14 = .ok (.invokestatic 97, 3) := by decide +kernel
theorem dX11_sell_17 : decode cX11_sell 17 = .ok (.ifCond .eq 12, 3) := by decide +kernel
theorem dX11_sell_20 : decode cX11_sell 20 = .ok (.iload_n 3, 1) := by decide +kernel
theorem dX11_sell_21 : decode cX11_sell 21 = .ok (.iconst 0, 1) := by decide +kernel
theorem dX11_sell_22 : decode cX11_sell 22 = .ok (.iconst 1, 1) := by decide +kernel
theorem dX11_sell_23 : decode cX11_sell 23 = .ok (.invokestatic 97, 3) := by decide +kernel
theorem dX11_sell_26 : decode cX11_sell 26 = .ok (.ifCond .ne 6, 3) := by decide +kernel
theorem dX11_sell_29 : decode cX11_sell 29 = .ok (.ldc 163, 2) := by decide +kernel
theorem dX11_sell_31 : decode cX11_sell 31 = .ok (.ireturn, 1) := by decide +kernel
theorem dX11_sell_32 : decode cX11_sell 32 = .ok (.aload_n 0, 1) := by decide +kernel
theorem dX11_sell_33 : decode cX11_sell 33 = .ok (.getfield 40, 3) := by decide +kernel
theorem dX11_sell_36 : decode cX11_sell 36 = .ok (.iload_n 1, 1) := by decide +kernel
theorem dX11_sell_37 : decode cX11_sell 37 = .ok (.iload_n 2, 1) := by decide +kernel
theorem dX11_sell_38 : decode cX11_sell 38 = .ok (.invokevirtual 233, 3) := by decide +kernel
theorem dX11_sell_41 : decode cX11_sell 41 = .ok (.iload_n 3, 1) := by decide +kernel
theorem dX11_sell_42 : decode cX11_sell 42 = .ok (.ifCond .ne 13, 3) := by decide +kernel
theorem dX11_sell_45 : decode cX11_sell 45 = .ok (.aload_n 0, 1) := by decide +kernel
theorem dX11_sell_46 : decode cX11_sell 46 = .ok (.getfield 40, 3) := by decide +kernel
theorem dX11_sell_49 : decode cX11_sell 49 = .ok (.getfield 212, 3) := by decide +kernel
theorem dX11_sell_52 : decode cX11_sell 52 = .ok (.goto 10, 3) := by decide +kernel
theorem dX11_sell_55 : decode cX11_sell 55 = .ok (.aload_n 0, 1) := by decide +kernel
theorem dX11_sell_56 : decode cX11_sell 56 = .ok (.getfield 40, 3) := by decide +kernel
theorem dX11_sell_59 : decode cX11_sell 59 = .ok (.getfield 209, 3) := by decide +kernel
theorem dX11_sell_62 : decode cX11_sell 62 = .ok (.ireturn, 1) := by decide +kernel
theorem dX11_judge_0 : decode cX11_judge 0 = .ok (.iload_n 1, 1) := by decide +kernel
theorem dX11_judge_1 : decode cX11_judge 1 = .ok (.invokestatic 105, 3) := by decide +kernel
theorem dX11_judge_4 : decode cX11_judge 4 = .ok (.ifCond .eq 14, 3) := by decide +kernel
theorem dX11_judge_7 : decode cX11_judge 7 = .ok (.aload_n 0, 1) := by decide +kernel
theorem dX11_judge_8 : decode cX11_judge 8 = .ok (.getfield 28, 3) := by decide +kernel
theorem dX11_judge_11 : decode cX11_judge 11 = .ok (.iload_n 2, 1) := by decide +kernel
theorem dX11_judge_12 : decode cX11_judge 12 = .ok (.invokevirtual 156, 3) := by decide +kernel
theorem dX11_judge_15 : decode cX11_judge 15 = .ok (.ifCond .ne 5, 3) := by decide +kernel
theorem dX11_judge_18 : decode cX11_judge 18 = .ok (.iconst (-1), 1) := by decide +kernel
theorem dX11_judge_19 : decode cX11_judge 19 = .ok (.ireturn, 1) := by decide +kernel
theorem dX11_judge_20 : decode cX11_judge 20 = .ok (.aload_n 0, 1) := by decide +kernel
theorem dX11_judge_21 : decode cX11_judge 21 = .ok (.getfield 92, 3) := by decide +kernel
theorem dX11_judge_24 : decode cX11_judge 24 = .ok (.iload_n 1, 1) := by decide +kernel
theorem dX11_judge_25 : decode cX11_judge 25 = .ok (.aaload, 1) := by decide +kernel
theorem dX11_judge_26 : decode cX11_judge 26 = .ok (.invokevirtual 109, 3) := by decide +kernel
theorem dX11_judge_29 : decode cX11_judge 29 = .ok (.istore_n 3, 1) := by decide +kernel
theorem dX11_judge_30 : decode cX11_judge 30 = .ok (.iload_n 3, 1) := by decide +kernel
theorem dX11_judge_31 : decode cX11_judge 31 = .ok (.ifCond .eq 7, 3) := by decide +kernel
theorem dX11_judge_34 : decode cX11_judge 34 = .ok (.iload_n 3, 1) := by decide +kernel
theorem dX11_judge_35 : decode cX11_judge 35 = .ok (.goto 17, 3) := by decide +kernel
theorem dX11_judge_38 : decode cX11_judge 38 = .ok (.aload_n 0, 1) := by decide +kernel
theorem dX11_judge_39 : decode cX11_judge 39 = .ok (.getfield 72, 3) := by decide +kernel
theorem dX11_judge_42 : decode cX11_judge 42 = .ok (.aload_n 0, 1) := by decide +kernel
theorem dX11_judge_43 : decode cX11_judge 43 = .ok (.getfield 92, 3) := by decide +kernel
theorem dX11_judge_46 : decode cX11_judge 46 = .ok (.iload_n 1, 1) := by decide +kernel
theorem dX11_judge_47 : decode cX11_judge 47 = .ok (.aaload, 1) := by decide +kernel
theorem dX11_judge_48 : decode cX11_judge 48 = .ok (.iload_n 2, 1) := by decide +kernel
theorem dX11_judge_49 : decode cX11_judge 49 = .ok (.invokevirtual 239, 3) := by decide +kernel
theorem dX11_judge_52 : decode cX11_judge 52 = .ok (.ireturn, 1) := by decide +kernel
theorem dX11_book_0 : decode cX11_book 0 = .ok (.iload_n 1, 1) := by decide +kernel
theorem dX11_book_1 : decode cX11_book 1 = .ok (.invokestatic 105, 3) := by decide +kernel
theorem dX11_book_4 : decode cX11_book 4 = .ok (.ifCond .eq 44, 3) := by decide +kernel
theorem dX11_book_7 : decode cX11_book 7 = .ok (.iload_n 2, 1) := by decide +kernel
theorem dX11_book_8 : decode cX11_book 8 = .ok (.ifCond .lt 40, 3) := by decide +kernel
theorem dX11_book_11 : decode cX11_book 11 = .ok (.aload_n 0, 1) := by decide +kernel
theorem dX11_book_12 : decode cX11_book 12 = .ok (.getfield 28, 3) := by decide +kernel
theorem dX11_book_15 : decode cX11_book 15 = .ok (.iload_n 2, 1) := by decide +kernel
theorem dX11_book_16 : decode cX11_book 16 = .ok (.bipush 100, 2) := by decide +kernel
theorem dX11_book_18 : decode cX11_book 18 = .ok (.idiv, 1) := by decide +kernel
theorem dX11_book_19 : decode cX11_book 19 = .ok (.invokevirtual 156, 3) := by decide +kernel
theorem dX11_book_22 : decode cX11_book 22 = .ok (.ifCond .eq 26, 3) := by decide +kernel
theorem dX11_book_25 : decode cX11_book 25 = .ok (.aload_n 0, 1) := by decide +kernel
theorem dX11_book_26 : decode cX11_book 26 = .ok (.getfield 28, 3) := by decide +kernel
theorem dX11_book_29 : decode cX11_book 29 = .ok (.iload_n 2, 1) := by decide +kernel
theorem dX11_book_30 : decode cX11_book 30 = .ok (.bipush 100, 2) := by decide +kernel
theorem dX11_book_32 : decode cX11_book 32 = .ok (.irem, 1) := by decide +kernel
theorem dX11_book_33 : decode cX11_book 33 = .ok (.invokevirtual 156, 3) := by decide +kernel
theorem dX11_book_36 : decode cX11_book 36 = .ok (.ifCond .eq 12, 3) := by decide +kernel
theorem dX11_book_39 : decode cX11_book 39 = .ok (.iload_n 3, 1) := by decide +kernel
theorem dX11_book_40 : decode cX11_book 40 = .ok (.iconst 0, 1) := by decide +kernel
theorem dX11_book_41 : decode cX11_book 41 = .ok (.iconst 2, 1) := by decide +kernel
theorem dX11_book_42 : decode cX11_book 42 = .ok (.invokestatic 97, 3) := by decide +kernel
theorem dX11_book_45 : decode cX11_book 45 = .ok (.ifCond .ne 5, 3) := by decide +kernel
theorem dX11_book_48 : decode cX11_book 48 = .ok (.iconst (-1), 1) := by decide +kernel
theorem dX11_book_49 : decode cX11_book 49 = .ok (.ireturn, 1) := by decide +kernel
theorem dX11_book_50 : decode cX11_book 50 = .ok (.aload_n 0, 1) := by decide +kernel
theorem dX11_book_51 : decode cX11_book 51 = .ok (.getfield 92, 3) := by decide +kernel
theorem dX11_book_54 : decode cX11_book 54 = .ok (.iload_n 1, 1) := by decide +kernel
theorem dX11_book_55 : decode cX11_book 55 = .ok (.aaload, 1) := by decide +kernel
theorem dX11_book_56 : decode cX11_book 56 = .ok (.invokevirtual 109, 3) := by decide +kernel
theorem dX11_book_59 : decode cX11_book 59 = .ok (.istore 4, 2) := by decide +kernel
theorem dX11_book_61 : decode cX11_book 61 = .ok (.iload 4, 2) := by decide +kernel
theorem dX11_book_63 : decode cX11_book 63 = .ok (.ifCond .eq 6, 3) := by decide +kernel
theorem dX11_book_66 : decode cX11_book 66 = .ok (.iload 4, 2) := by decide +kernel
theorem dX11_book_68 : decode cX11_book 68 = .ok (.ireturn, 1) := by decide +kernel
theorem dX11_book_69 : decode cX11_book 69 = .ok (.aload_n 0, 1) := by decide +kernel
theorem dX11_book_70 : decode cX11_book 70 = .ok (.getfield 72, 3) := by decide +kernel
theorem dX11_book_73 : decode cX11_book 73 = .ok (.aload_n 0, 1) := by decide +kernel
theorem dX11_book_74 : decode cX11_book 74 = .ok (.getfield 92, 3) := by decide +kernel
theorem dX11_book_77 : decode cX11_book 77 = .ok (.iload_n 1, 1) := by decide +kernel
theorem dX11_book_78 : decode cX11_book 78 = .ok (.aaload, 1) := by decide +kernel
theorem dX11_book_79 : decode cX11_book 79 = .ok (.iload_n 2, 1) := by decide +kernel
theorem dX11_book_80 : decode cX11_book 80 = .ok (.iload_n 3, 1) := by decide +kernel
theorem dX11_book_81 : decode cX11_book 81 = .ok (.iconst 2, 1) := by decide +kernel
theorem dX11_book_82 : decode cX11_book 82 = .ok (.if_icmp .ne 7, 3) := by decide +kernel
theorem dX11_book_85 : decode cX11_book 85 = .ok (.iconst 3, 1) := by decide +kernel
theorem dX11_book_86 : decode cX11_book 86 = .ok (.goto 4, 3) := by decide +kernel
theorem dX11_book_89 : decode cX11_book 89 = .ok (.iconst 0, 1) := by decide +kernel
theorem dX11_book_90 : decode cX11_book 90 = .ok (.invokevirtual 243, 3) := by decide +kernel
theorem dX11_book_93 : decode cX11_book 93 = .ok (.istore 5, 2) := by decide +kernel
theorem dX11_book_95 : decode cX11_book 95 = .ok (.iload_n 3, 1) := by decide +kernel
theorem dX11_book_96 : decode cX11_book 96 = .ok (.lookupswitch 40 #[(0, 28), (1, 34)], 28) := by decide +kernel
theorem dX11_book_124 : decode cX11_book 124 = .ok (.iload 5, 2) := by decide +kernel
theorem dX11_book_126 : decode cX11_book 126 = .ok (.invokestatic 246, 3) := by decide +kernel
theorem dX11_book_129 : decode cX11_book 129 = .ok (.ireturn, 1) := by decide +kernel
theorem dX11_book_130 : decode cX11_book 130 = .ok (.iload 5, 2) := by decide +kernel
theorem dX11_book_132 : decode cX11_book 132 = .ok (.invokestatic 251, 3) := by decide +kernel
theorem dX11_book_135 : decode cX11_book 135 = .ok (.ireturn, 1) := by decide +kernel
theorem dX11_book_136 : decode cX11_book 136 = .ok (.iload 5, 2) := by decide +kernel
theorem dX11_book_138 : decode cX11_book 138 = .ok (.ireturn, 1) := by decide +kernel
theorem dX11_byTurns_0 : decode cX11_byTurns 0 = .ok (.iload_n 1, 1) := by decide +kernel
theorem dX11_byTurns_1 : decode cX11_byTurns 1 = .ok (.bipush 10, 2) := by decide +kernel
theorem dX11_byTurns_3 : decode cX11_byTurns 3 = .ok (.bipush 39, 2) := by decide +kernel
theorem dX11_byTurns_5 : decode cX11_byTurns 5 = .ok (.invokestatic 97, 3) := by decide +kernel
theorem dX11_byTurns_8 : decode cX11_byTurns 8 = .ok (.ifCond .eq 12, 3) := by decide +kernel
theorem dX11_byTurns_11 : decode cX11_byTurns 11 = .ok (.iload_n 2, 1) := by decide +kernel
theorem dX11_byTurns_12 : decode cX11_byTurns 12 = .ok (.iconst 0, 1) := by decide +kernel
theorem dX11_byTurns_13 : decode cX11_byTurns 13 = .ok (.iconst 1, 1) := by decide +kernel
theorem dX11_byTurns_14 : decode cX11_byTurns 14 = .ok (.invokestatic 97, 3) := by decide +kernel
theorem dX11_byTurns_17 : decode cX11_byTurns 17 = .ok (.ifCond .ne 5, 3) := by decide +kernel
theorem dX11_byTurns_20 : decode cX11_byTurns 20 = .ok (.iconst (-1), 1) := by decide +kernel
theorem dX11_byTurns_21 : decode cX11_byTurns 21 = .ok (.ireturn, 1) := by decide +kernel
theorem dX11_byTurns_22 : decode cX11_byTurns 22 = .ok (.aload_n 0, 1) := by decide +kernel
theorem dX11_byTurns_23 : decode cX11_byTurns 23 = .ok (.getfield 65, 3) := by decide +kernel
theorem dX11_byTurns_26 : decode cX11_byTurns 26 = .ok (.iload_n 1, 1) := by decide +kernel
theorem dX11_byTurns_27 : decode cX11_byTurns 27 = .ok (.bipush 10, 2) := by decide +kernel
theorem dX11_byTurns_29 : decode cX11_byTurns 29 = .ok (.idiv, 1) := by decide +kernel
theorem dX11_byTurns_30 : decode cX11_byTurns 30 = .ok (.iload_n 1, 1) := by decide +kernel
theorem dX11_byTurns_31 : decode cX11_byTurns 31 = .ok (.bipush 10, 2) := by decide +kernel
theorem dX11_byTurns_33 : decode cX11_byTurns 33 = .ok (.irem, 1) := by decide +kernel
theorem dX11_byTurns_34 : decode cX11_byTurns 34 = .ok (.invokevirtual 254, 3) := by decide +kernel
theorem dX11_byTurns_37 : decode cX11_byTurns 37 = .ok (.iload_n 2, 1) := by decide +kernel
theorem dX11_byTurns_38 : decode cX11_byTurns 38 = .ok (.ifCond .ne 13, 3) := by decide +kernel
theorem dX11_byTurns_41 : decode cX11_byTurns 41 = .ok (.aload_n 0, 1) := by decide +kernel
theorem dX11_byTurns_42 : decode cX11_byTurns 42 = .ok (.getfield 65, 3) := by decide +kernel
theorem dX11_byTurns_45 : decode cX11_byTurns 45 = .ok (.getfield 257, 3) := by decide +kernel
theorem dX11_byTurns_48 : decode cX11_byTurns 48 = .ok (.goto 10, 3) := by decide +kernel
theorem dX11_byTurns_51 : decode cX11_byTurns 51 = .ok (.aload_n 0, 1) := by decide +kernel
theorem dX11_byTurns_52 : decode cX11_byTurns 52 = .ok (.getfield 65, 3) := by decide +kernel
theorem dX11_byTurns_55 : decode cX11_byTurns 55 = .ok (.getfield 258, 3) := by decide +kernel
theorem dX11_byTurns_58 : decode cX11_byTurns 58 = .ok (.ireturn, 1) := by decide +kernel
theorem dX11_turned_0 : decode cX11_turned 0 = .ok (.iload_n 1, 1) := by decide +kernel
theorem dX11_turned_1 : decode cX11_turned 1 = .ok (.iconst 0, 1) := by decide +kernel
theorem dX11_turned_2 : decode cX11_turned 2 = .ok (.iconst 5, 1) := by decide +kernel
theorem dX11_turned_3 : decode cX11_turned 3 = .ok (.invokestatic 97, 3) := by decide +kernel
theorem dX11_turned_6 : decode cX11_turned 6 = .ok (.ifCond .ne 5, 3) := by decide +kernel
theorem dX11_turned_9 : decode cX11_turned 9 = .ok (.iconst (-1), 1) := by decide +kernel
theorem dX11_turned_10 : decode cX11_turned 10 = .ok (.ireturn, 1) := by decide +kernel
theorem dX11_turned_11 : decode cX11_turned 11 = .ok (.aload_n 0, 1) := by decide +kernel
theorem dX11_turned_12 : decode cX11_turned 12 = .ok (.getfield 28, 3) := by decide +kernel
theorem dX11_turned_15 : decode cX11_turned 15 = .ok (.iload_n 1, 1) := by decide +kernel
theorem dX11_turned_16 : decode cX11_turned 16 = .ok (.invokevirtual 264, 3) := by decide +kernel
theorem dX11_turned_19 : decode cX11_turned 19 = .ok (.aload_n 0, 1) := by decide +kernel
theorem dX11_turned_20 : decode cX11_turned 20 = .ok (.getfield 28, 3) := by decide +kernel
theorem dX11_turned_23 : decode cX11_turned 23 = .ok (.getfield 267, 3) := by decide +kernel
theorem dX11_turned_26 : decode cX11_turned 26 = .ok (.iconst 1, 1) := by decide +kernel
theorem dX11_turned_27 : decode cX11_turned 27 = .ok (.dup2, 1) := by decide +kernel
theorem dX11_turned_28 : decode cX11_turned 28 = .ok (.iaload, 1) := by decide +kernel
theorem dX11_turned_29 : decode cX11_turned 29 = .ok (.iconst 1, 1) := by decide +kernel
theorem dX11_turned_30 : decode cX11_turned 30 = .ok (.iadd, 1) := by decide +kernel
theorem dX11_turned_31 : decode cX11_turned 31 = .ok (.iastore, 1) := by decide +kernel
theorem dX11_turned_32 : decode cX11_turned 32 = .ok (.aload_n 0, 1) := by decide +kernel
theorem dX11_turned_33 : decode cX11_turned 33 = .ok (.getfield 28, 3) := by decide +kernel
theorem dX11_turned_36 : decode cX11_turned 36 = .ok (.getfield 140, 3) := by decide +kernel
theorem dX11_turned_39 : decode cX11_turned 39 = .ok (.iload_n 1, 1) := by decide +kernel
theorem dX11_turned_40 : decode cX11_turned 40 = .ok (.iaload, 1) := by decide +kernel
theorem dX11_turned_41 : decode cX11_turned 41 = .ok (.ireturn, 1) := by decide +kernel
theorem dX11_read_0 : decode cX11_read 0 = .ok (.aload_n 0, 1) := by decide +kernel
theorem dX11_read_1 : decode cX11_read 1 = .ok (.getfield 28, 3) := by decide +kernel
theorem dX11_read_4 : decode cX11_read 4 = .ok (.iload_n 1, 1) := by decide +kernel
theorem dX11_read_5 : decode cX11_read 5 = .ok (.invokevirtual 156, 3) := by decide +kernel
theorem dX11_read_8 : decode cX11_read 8 = .ok (.ifCond .ne 5, 3) := by decide +kernel
theorem dX11_read_11 : decode cX11_read 11 = .ok (.iconst (-1), 1) := by decide +kernel
theorem dX11_read_12 : decode cX11_read 12 = .ok (.ireturn, 1) := by decide +kernel
theorem dX11_read_13 : decode cX11_read 13 = .ok (.aload_n 0, 1) := by decide +kernel
theorem dX11_read_14 : decode cX11_read 14 = .ok (.getfield 28, 3) := by decide +kernel
theorem dX11_read_17 : decode cX11_read 17 = .ok (.getfield 168, 3) := by decide +kernel
theorem dX11_read_20 : decode cX11_read 20 = .ok (.iload_n 1, 1) := by decide +kernel
theorem dX11_read_21 : decode cX11_read 21 = .ok (.iaload, 1) := by decide +kernel
theorem dX11_read_22 : decode cX11_read 22 = .ok (.istore_n 2, 1) := by decide +kernel
theorem dX11_read_23 : decode cX11_read 23 = .ok (.aload_n 0, 1) := by decide +kernel
theorem dX11_read_24 : decode cX11_read 24 = .ok (.getfield 28, 3) := by decide +kernel
theorem dX11_read_27 : decode cX11_read 27 = .ok (.getfield 267, 3) := by decide +kernel
theorem dX11_read_30 : decode cX11_read 30 = .ok (.iconst 3, 1) := by decide +kernel
theorem dX11_read_31 : decode cX11_read 31 = .ok (.dup2, 1) := by decide +kernel
theorem dX11_read_32 : decode cX11_read 32 = .ok (.iaload, 1) := by decide +kernel
theorem dX11_read_33 : decode cX11_read 33 = .ok (.iconst 1, 1) := by decide +kernel
theorem dX11_read_34 : decode cX11_read 34 = .ok (.iadd, 1) := by decide +kernel
theorem dX11_read_35 : decode cX11_read 35 = .ok (.iastore, 1) := by decide +kernel
theorem dX11_read_36 : decode cX11_read 36 = .ok (.aload_n 0, 1) := by decide +kernel
theorem dX11_read_37 : decode cX11_read 37 = .ok (.getfield 28, 3) := by decide +kernel
theorem dX11_read_40 : decode cX11_read 40 = .ok (.getfield 267, 3) := by decide +kernel
theorem dX11_read_43 : decode cX11_read 43 = .ok (.iconst 5, 1) := by decide +kernel
theorem dX11_read_44 : decode cX11_read 44 = .ok (.aload_n 0, 1) := by decide +kernel
theorem dX11_read_45 : decode cX11_read 45 = .ok (.getfield 28, 3) := by decide +kernel
theorem dX11_read_48 : decode cX11_read 48 = .ok (.getfield 267, 3) := by decide +kernel
theorem dX11_read_51 : decode cX11_read 51 = .ok (.iconst 5, 1) := by decide +kernel
theorem dX11_read_52 : decode cX11_read 52 = .ok (.iaload, 1) := by decide +kernel
theorem dX11_read_53 : decode cX11_read 53 = .ok (.iload_n 2, 1) := by decide +kernel
theorem dX11_read_54 : decode cX11_read 54 = .ok (.invokestatic 273, 3) := by decide +kernel
theorem dX11_read_57 : decode cX11_read 57 = .ok (.iastore, 1) := by decide +kernel
theorem dX11_read_58 : decode cX11_read 58 = .ok (.iload_n 2, 1) := by decide +kernel
theorem dX11_read_59 : decode cX11_read 59 = .ok (.ireturn, 1) := by decide +kernel
theorem dX11_day_0 : decode cX11_day 0 = .ok (.aload_n 0, 1) := by decide +kernel
theorem dX11_day_1 : decode cX11_day 1 = .ok (.getfield 28, 3) := by decide +kernel
theorem dX11_day_4 : decode cX11_day 4 = .ok (.invokevirtual 278, 3) := by decide +kernel
theorem dX11_day_7 : decode cX11_day 7 = .ok (.aload_n 0, 1) := by decide +kernel
theorem dX11_day_8 : decode cX11_day 8 = .ok (.getfield 28, 3) := by decide +kernel
theorem dX11_day_11 : decode cX11_day 11 = .ok (.getfield 267, 3) := by decide +kernel
theorem dX11_day_14 : decode cX11_day 14 = .ok (.iconst 4, 1) := by decide +kernel
theorem dX11_day_15 : decode cX11_day 15 = .ok (.dup2, 1) := by decide +kernel
theorem dX11_day_16 : decode cX11_day 16 = .ok (.iaload, 1) := by decide +kernel
theorem dX11_day_17 : decode cX11_day 17 = .ok (.iconst 1, 1) := by decide +kernel
theorem dX11_day_18 : decode cX11_day 18 = .ok (.iadd, 1) := by decide +kernel
theorem dX11_day_19 : decode cX11_day 19 = .ok (.iastore, 1) := by decide +kernel
theorem dX11_day_20 : decode cX11_day 20 = .ok (.aload_n 0, 1) := by decide +kernel
theorem dX11_day_21 : decode cX11_day 21 = .ok (.getfield 28, 3) := by decide +kernel
theorem dX11_day_24 : decode cX11_day 24 = .ok (.invokevirtual 183, 3) := by decide +kernel
theorem dX11_day_27 : decode cX11_day 27 = .ok (.ireturn, 1) := by decide +kernel
theorem dX11_led_0 : decode cX11_led 0 = .ok (.iload_n 1, 1) := by decide +kernel
theorem dX11_led_1 : decode cX11_led 1 = .ok (.iconst 0, 1) := by decide +kernel
theorem dX11_led_2 : decode cX11_led 2 = .ok (.iconst 5, 1) := by decide +kernel
theorem dX11_led_3 : decode cX11_led 3 = .ok (.invokestatic 97, 3) := by decide +kernel
theorem dX11_led_6 : decode cX11_led 6 = .ok (.ifCond .eq 15, 3) := by decide +kernel
theorem dX11_led_9 : decode cX11_led 9 = .ok (.aload_n 0, 1) := by decide +kernel
theorem dX11_led_10 : decode cX11_led 10 = .ok (.getfield 28, 3) := by decide +kernel
theorem dX11_led_13 : decode cX11_led 13 = .ok (.getfield 267, 3) := by decide +kernel
theorem dX11_led_16 : decode cX11_led 16 = .ok (.iload_n 1, 1) := by decide +kernel
theorem dX11_led_17 : decode cX11_led 17 = .ok (.iaload, 1) := by decide +kernel
theorem dX11_led_18 : decode cX11_led 18 = .ok (.goto 4, 3) := by decide +kernel
theorem dX11_led_21 : decode cX11_led 21 = .ok (.iconst (-1), 1) := by decide +kernel
theorem dX11_led_22 : decode cX11_led 22 = .ok (.ireturn, 1) := by decide +kernel
theorem dX11_image_0 : decode cX11_image 0 = .ok (.aload_n 0, 1) := by decide +kernel
theorem dX11_image_1 : decode cX11_image 1 = .ok (.getfield 32, 3) := by decide +kernel
theorem dX11_image_4 : decode cX11_image 4 = .ok (.aload_n 0, 1) := by decide +kernel
theorem dX11_image_5 : decode cX11_image 5 = .ok (.getfield 28, 3) := by decide +kernel
theorem dX11_image_8 : decode cX11_image 8 = .ok (.invokevirtual 281, 3) := by decide +kernel
theorem dX11_image_11 : decode cX11_image 11 = .ok (.aload_n 0, 1) := by decide +kernel
theorem dX11_image_12 : decode cX11_image 12 = .ok (.iconst 1, 1) := by decide +kernel
theorem dX11_image_13 : decode cX11_image 13 = .ok (.putfield 284, 3) := by decide +kernel
theorem dX11_image_16 : decode cX11_image 16 = .ok (.aload_n 0, 1) := by decide +kernel
theorem dX11_image_17 : decode cX11_image 17 = .ok (.getfield 28, 3) := by decide +kernel
theorem dX11_image_20 : decode cX11_image 20 = .ok (.getfield 267, 3) := by decide +kernel
theorem dX11_image_23 : decode cX11_image 23 = .ok (.iconst 4, 1) := by decide +kernel
theorem dX11_image_24 : decode cX11_image 24 = .ok (.iaload, 1) := by decide +kernel
theorem dX11_image_25 : decode cX11_image 25 = .ok (.ireturn, 1) := by decide +kernel
theorem dX11_back_0 : decode cX11_back 0 = .ok (.aload_n 0, 1) := by decide +kernel
theorem dX11_back_1 : decode cX11_back 1 = .ok (.getfield 284, 3) := by decide +kernel
theorem dX11_back_4 : decode cX11_back 4 = .ok (.ifCond .ne 6, 3) := by decide +kernel
theorem dX11_back_7 : decode cX11_back 7 = .ok (.bipush (-5), 2) := by decide +kernel
theorem dX11_back_9 : decode cX11_back 9 = .ok (.ireturn, 1) := by decide +kernel
theorem dX11_back_10 : decode cX11_back 10 = .ok (.aload_n 0, 1) := by decide +kernel
theorem dX11_back_11 : decode cX11_back 11 = .ok (.getfield 28, 3) := by decide +kernel
theorem dX11_back_14 : decode cX11_back 14 = .ok (.aload_n 0, 1) := by decide +kernel
theorem dX11_back_15 : decode cX11_back 15 = .ok (.getfield 32, 3) := by decide +kernel
theorem dX11_back_18 : decode cX11_back 18 = .ok (.invokevirtual 281, 3) := by decide +kernel
theorem dX11_back_21 : decode cX11_back 21 = .ok (.aload_n 0, 1) := by decide +kernel
theorem dX11_back_22 : decode cX11_back 22 = .ok (.getfield 28, 3) := by decide +kernel
theorem dX11_back_25 : decode cX11_back 25 = .ok (.getfield 267, 3) := by decide +kernel
theorem dX11_back_28 : decode cX11_back 28 = .ok (.iconst 4, 1) := by decide +kernel
theorem dX11_back_29 : decode cX11_back 29 = .ok (.iaload, 1) := by decide +kernel
theorem dX11_back_30 : decode cX11_back 30 = .ok (.ireturn, 1) := by decide +kernel
theorem dX11_row_0 : decode cX11_row 0 = .ok (.iload_n 1, 1) := by decide +kernel
theorem dX11_row_1 : decode cX11_row 1 = .ok (.invokestatic 105, 3) := by decide +kernel
theorem dX11_row_4 : decode cX11_row 4 = .ok (.ifCond .eq 18, 3) := by decide +kernel
theorem dX11_row_7 : decode cX11_row 7 = .ok (.iload_n 2, 1) := by decide +kernel
theorem dX11_row_8 : decode cX11_row 8 = .ok (.iconst 0, 1) := by decide +kernel
theorem dX11_row_9 : decode cX11_row 9 = .ok (.iconst 4, 1) := by decide +kernel
theorem dX11_row_10 : decode cX11_row 10 = .ok (.invokestatic 97, 3) := by decide +kernel
theorem dX11_row_13 : decode cX11_row 13 = .ok (.ifCond .eq 9, 3) := by decide +kernel
theorem dX11_row_16 : decode cX11_row 16 = .ok (.iload_n 3, 1) := by decide +kernel
theorem dX11_row_17 : decode cX11_row 17 = .ok (.bipush 60, 2) := by decide +kernel
theorem dX11_row_19 : decode cX11_row 19 = .ok (.if_icmp .le 5, 3) := by decide +kernel
theorem dX11_row_22 : decode cX11_row 22 = .ok (.iconst (-1), 1) := by decide +kernel
theorem dX11_row_23 : decode cX11_row 23 = .ok (.ireturn, 1) := by decide +kernel
theorem dX11_row_24 : decode cX11_row 24 = .ok (.iload_n 3, 1) := by decide +kernel
theorem dX11_row_25 : decode cX11_row 25 = .ok (.ifCond .ge 6, 3) := by decide +kernel
theorem dX11_row_28 : decode cX11_row 28 = .ok (.bipush (-14), 2) := by decide +kernel
theorem dX11_row_30 : decode cX11_row 30 = .ok (.ireturn, 1) := by decide +kernel
theorem dX11_row_31 : decode cX11_row 31 = .ok (.aload_n 0, 1) := by decide +kernel
theorem dX11_row_32 : decode cX11_row 32 = .ok (.getfield 92, 3) := by decide +kernel
theorem dX11_row_35 : decode cX11_row 35 = .ok (.iload_n 1, 1) := by decide +kernel
theorem dX11_row_36 : decode cX11_row 36 = .ok (.aaload, 1) := by decide +kernel
theorem dX11_row_37 : decode cX11_row 37 = .ok (.iload_n 2, 1) := by decide +kernel
theorem dX11_row_38 : decode cX11_row 38 = .ok (.iload_n 3, 1) := by decide +kernel
theorem dX11_row_39 : decode cX11_row 39 = .ok (.invokevirtual 317, 3) := by decide +kernel
theorem dX11_row_42 : decode cX11_row 42 = .ok (.iconst 1, 1) := by decide +kernel
theorem dX11_row_43 : decode cX11_row 43 = .ok (.ireturn, 1) := by decide +kernel
theorem dX11_put_0 : decode cX11_put 0 = .ok (.iload_n 1, 1) := by decide +kernel
theorem dX11_put_1 : decode cX11_put 1 = .ok (.invokestatic 105, 3) := by decide +kernel
theorem dX11_put_4 : decode cX11_put 4 = .ok (.ifCond .ne 5, 3) := by decide +kernel
theorem dX11_put_7 : decode cX11_put 7 = .ok (.iconst (-1), 1) := by decide +kernel
theorem dX11_put_8 : decode cX11_put 8 = .ok (.ireturn, 1) := by decide +kernel
theorem dX11_put_9 : decode cX11_put 9 = .ok (.aload_n 0, 1) := by decide +kernel
theorem dX11_put_10 : decode cX11_put 10 = .ok (.getfield 92, 3) := by decide +kernel
theorem dX11_put_13 : decode cX11_put 13 = .ok (.iload_n 1, 1) := by decide +kernel
theorem dX11_put_14 : decode cX11_put 14 = .ok (.aaload, 1) := by decide +kernel
theorem dX11_put_15 : decode cX11_put 15 = .ok (.iload_n 2, 1) := by decide +kernel
theorem dX11_put_16 : decode cX11_put 16 = .ok (.invokevirtual 320, 3) := by decide +kernel
theorem dX11_put_19 : decode cX11_put 19 = .ok (.istore 5, 2) := by decide +kernel
theorem dX11_put_21 : decode cX11_put 21 = .ok (.iload 5, 2) := by decide +kernel
theorem dX11_put_23 : decode cX11_put 23 = .ok (.ifCond .ne 14, 3) := by decide +kernel
theorem dX11_put_26 : decode cX11_put 26 = .ok (.aload_n 0, 1) := by decide +kernel
theorem dX11_put_27 : decode cX11_put 27 = .ok (.getfield 92, 3) := by decide +kernel
theorem dX11_put_30 : decode cX11_put 30 = .ok (.iload_n 1, 1) := by decide +kernel
theorem dX11_put_31 : decode cX11_put 31 = .ok (.aaload, 1) := by decide +kernel
theorem dX11_put_32 : decode cX11_put 32 = .ok (.iload_n 2, 1) := by decide +kernel
theorem dX11_put_33 : decode cX11_put 33 = .ok (.lload_n 3, 1) := by decide +kernel
theorem dX11_put_34 : decode cX11_put 34 = .ok (.invokevirtual 323, 3) := by decide +kernel
theorem dX11_put_37 : decode cX11_put 37 = .ok (.iload 5, 2) := by decide +kernel
theorem dX11_put_39 : decode cX11_put 39 = .ok (.ifCond .ne 7, 3) := by decide +kernel
theorem dX11_put_42 : decode cX11_put 42 = .ok (.iconst 1, 1) := by decide +kernel
theorem dX11_put_43 : decode cX11_put 43 = .ok (.goto 5, 3) := by decide +kernel
theorem dX11_put_46 : decode cX11_put 46 = .ok (.iload 5, 2) := by decide +kernel
theorem dX11_put_48 : decode cX11_put 48 = .ok (.ireturn, 1) := by decide +kernel
theorem dX11_count_0 : decode cX11_count 0 = .ok (.iload_n 1, 1) := by decide +kernel
theorem dX11_count_1 : decode cX11_count 1 = .ok (.tableswitch 87 0 5 #[39, 47, 55, 63, 71, 79], 39) := by decide +kernel
theorem dX11_count_40 : decode cX11_count 40 = .ok (.aload_n 0, 1) := by decide +kernel
theorem dX11_count_41 : decode cX11_count 41 = .ok (.getfield 28, 3) := by decide +kernel
theorem dX11_count_44 : decode cX11_count 44 = .ok (.invokevirtual 359, 3) := by decide +kernel
theorem dX11_count_47 : decode cX11_count 47 = .ok (.ireturn, 1) := by decide +kernel
theorem dX11_count_48 : decode cX11_count 48 = .ok (.aload_n 0, 1) := by decide +kernel
theorem dX11_count_49 : decode cX11_count 49 = .ok (.getfield 28, 3) := by decide +kernel
theorem dX11_count_52 : decode cX11_count 52 = .ok (.invokevirtual 183, 3) := by decide +kernel
theorem dX11_count_55 : decode cX11_count 55 = .ok (.ireturn, 1) := by decide +kernel
theorem dX11_count_56 : decode cX11_count 56 = .ok (.aload_n 0, 1) := by decide +kernel
theorem dX11_count_57 : decode cX11_count 57 = .ok (.getfield 10, 3) := by decide +kernel
theorem dX11_count_60 : decode cX11_count 60 = .ok (.getfield 362, 3) := by decide +kernel
theorem dX11_count_63 : decode cX11_count 63 = .ok (.ireturn, 1) := by decide +kernel
theorem dX11_count_64 : decode cX11_count 64 = .ok (.aload_n 0, 1) := by decide +kernel
theorem dX11_count_65 : decode cX11_count 65 = .ok (.getfield 79, 3) := by decide +kernel
theorem dX11_count_68 : decode cX11_count 68 = .ok (.getfield 365, 3) := by decide +kernel
theorem dX11_count_71 : decode cX11_count 71 = .ok (.ireturn, 1) := by decide +kernel
theorem dX11_count_72 : decode cX11_count 72 = .ok (.aload_n 0, 1) := by decide +kernel
theorem dX11_count_73 : decode cX11_count 73 = .ok (.getfield 86, 3) := by decide +kernel
theorem dX11_count_76 : decode cX11_count 76 = .ok (.getfield 308, 3) := by decide +kernel
theorem dX11_count_79 : decode cX11_count 79 = .ok (.ireturn, 1) := by decide +kernel
theorem dX11_count_80 : decode cX11_count 80 = .ok (.aload_n 0, 1) := by decide +kernel
theorem dX11_count_81 : decode cX11_count 81 = .ok (.getfield 86, 3) := by decide +kernel
theorem dX11_count_84 : decode cX11_count 84 = .ok (.getfield 299, 3) := by decide +kernel
theorem dX11_count_87 : decode cX11_count 87 = .ok (.ireturn, 1) := by decide +kernel
theorem dX11_count_88 : decode cX11_count 88 = .ok (.iconst (-1), 1) := by decide +kernel
theorem dX11_count_89 : decode cX11_count 89 = .ok (.ireturn, 1) := by decide +kernel
theorem dX11_within_0 : decode cX11_within 0 = .ok (.iload_n 0, 1) := by decide +kernel
theorem dX11_within_1 : decode cX11_within 1 = .ok (.iload_n 1, 1) := by decide +kernel
theorem dX11_within_2 : decode cX11_within 2 = .ok (.if_icmp .lt 12, 3) := by decide +kernel
theorem dX11_within_5 : decode cX11_within 5 = .ok (.iload_n 0, 1) := by decide +kernel
theorem dX11_within_6 : decode cX11_within 6 = .ok (.iload_n 2, 1) := by decide +kernel
theorem dX11_within_7 : decode cX11_within 7 = .ok (.if_icmp .gt 7, 3) := by decide +kernel
theorem dX11_within_10 : decode cX11_within 10 = .ok (.iconst 1, 1) := by decide +kernel
theorem dX11_within_11 : decode cX11_within 11 = .ok (.goto 4, 3) := by decide +kernel
theorem dX11_within_14 : decode cX11_within 14 = .ok (.iconst 0, 1) := by decide +kernel
theorem dX11_within_15 : decode cX11_within 15 = .ok (.ireturn, 1) := by decide +kernel
theorem dX11_isShelf_0 : decode cX11_isShelf 0 = .ok (.iload_n 0, 1) := by decide +kernel
theorem dX11_isShelf_1 : decode cX11_isShelf 1 = .ok (.iconst 0, 1) := by decide +kernel
theorem dX11_isShelf_2 : decode cX11_isShelf 2 = .ok (.iconst 5, 1) := by decide +kernel
theorem dX11_isShelf_3 : decode cX11_isShelf 3 = .ok (.invokestatic 97, 3) := by decide +kernel
theorem dX11_isShelf_6 : decode cX11_isShelf 6 = .ok (.ireturn, 1) := by decide +kernel
theorem dX11_lowestBit_0 : decode cX11_lowestBit 0 = .ok (.iload_n 0, 1) := by decide +kernel
theorem dX11_lowestBit_1 : decode cX11_lowestBit 1 = .ok (.ifCond .ne 8, 3) := by decide +kernel
theorem dX11_lowestBit_4 : decode cX11_lowestBit 4 = .ok (.bipush (-2), 2) := by decide +kernel
theorem dX11_lowestBit_6 : decode cX11_lowestBit 6 = .ok (.goto 12, 3) := by decide +kernel
theorem dX11_lowestBit_9 : decode cX11_lowestBit 9 = .ok (.iload_n 0, 1) := by decide +kernel
theorem dX11_lowestBit_10 : decode cX11_lowestBit 10 = .ok (.iload_n 0, 1) := by decide +kernel
theorem dX11_lowestBit_11 : decode cX11_lowestBit 11 = .ok (.ineg, 1) := by decide +kernel
theorem dX11_lowestBit_12 : decode cX11_lowestBit 12 = .ok (.iand, 1) := by decide +kernel
theorem dX11_lowestBit_13 : decode cX11_lowestBit 13 = .ok (.iconst 1, 1) := by decide +kernel
theorem dX11_lowestBit_14 : decode cX11_lowestBit 14 = .ok (.isub, 1) := by decide +kernel
theorem dX11_lowestBit_15 : decode cX11_lowestBit 15 = .ok (.invokestatic 246, 3) := by decide +kernel
theorem dX11_lowestBit_18 : decode cX11_lowestBit 18 = .ok (.ireturn, 1) := by decide +kernel
theorem dX11_isNumber_0 : decode cX11_isNumber 0 = .ok (.iload_n 2, 1) := by decide +kernel
theorem dX11_isNumber_1 : decode cX11_isNumber 1 = .ok (.iconst 0, 1) := by decide +kernel
theorem dX11_isNumber_2 : decode cX11_isNumber 2 = .ok (.bipush 7, 2) := by decide +kernel
theorem dX11_isNumber_4 : decode cX11_isNumber 4 = .ok (.invokestatic 97, 3) := by decide +kernel
theorem dX11_isNumber_7 : decode cX11_isNumber 7 = .ok (.ifCond .ne 5, 3) := by decide +kernel
theorem dX11_isNumber_10 : decode cX11_isNumber 10 = .ok (.iconst 0, 1) := by decide +kernel
theorem dX11_isNumber_11 : decode cX11_isNumber 11 = .ok (.ireturn, 1) := by decide +kernel
theorem dX11_isNumber_12 : decode cX11_isNumber 12 = .ok (.iload_n 2, 1) := by decide +kernel
theorem dX11_isNumber_13 : decode cX11_isNumber 13 = .ok (.iconst 4, 1) := by decide +kernel
theorem dX11_isNumber_14 : decode cX11_isNumber 14 = .ok (.if_icmp .gt 12, 3) := by decide +kernel
theorem dX11_isNumber_17 : decode cX11_isNumber 17 = .ok (.aload_n 0, 1) := by decide +kernel
theorem dX11_isNumber_18 : decode cX11_isNumber 18 = .ok (.getfield 28, 3) := by decide +kernel
theorem dX11_isNumber_21 : decode cX11_isNumber 21 = .ok (.iload_n 1, 1) := by decide +kernel
theorem dX11_isNumber_22 : decode cX11_isNumber 22 = .ok (.invokevirtual 156, 3) := by decide +kernel
theorem dX11_isNumber_25 : decode cX11_isNumber 25 = .ok (.ireturn, 1) := by decide +kernel
theorem dX11_isNumber_26 : decode cX11_isNumber 26 = .ok (.iload_n 2, 1) := by decide +kernel
theorem dX11_isNumber_27 : decode cX11_isNumber 27 = .ok (.iconst 5, 1) := by decide +kernel
theorem dX11_isNumber_28 : decode cX11_isNumber 28 = .ok (.if_icmp .ne 12, 3) := by decide +kernel
theorem dX11_isNumber_31 : decode cX11_isNumber 31 = .ok (.iload_n 1, 1) := by decide +kernel
theorem dX11_isNumber_32 : decode cX11_isNumber 32 = .ok (.iconst 0, 1) := by decide +kernel
theorem dX11_isNumber_33 : decode cX11_isNumber 33 = .ok (.iconst 5, 1) := by decide +kernel
theorem dX11_isNumber_34 : decode cX11_isNumber 34 = .ok (.invokestatic 97, 3) := by decide +kernel
theorem dX11_isNumber_37 : decode cX11_isNumber 37 = .ok (.goto 12, 3) := by decide +kernel
theorem dX11_isNumber_40 : decode cX11_isNumber 40 = .ok (.iload_n 1, 1) := by decide +kernel
theorem dX11_isNumber_41 : decode cX11_isNumber 41 = .ok (.ifCond .ne 7, 3) := by decide +kernel
theorem dX11_isNumber_44 : decode cX11_isNumber 44 = .ok (.iconst 1, 1) := by decide +kernel
theorem dX11_isNumber_45 : decode cX11_isNumber 45 = .ok (.goto 4, 3) := by decide +kernel
theorem dX11_isNumber_48 : decode cX11_isNumber 48 = .ok (.iconst 0, 1) := by decide +kernel
theorem dX11_isNumber_49 : decode cX11_isNumber 49 = .ok (.ireturn, 1) := by decide +kernel
theorem dX11_cartOne_0 : decode cX11_cartOne 0 = .ok (.aload_n 0, 1) := by decide +kernel
theorem dX11_cartOne_1 : decode cX11_cartOne 1 = .ok (.getfield 28, 3) := by decide +kernel
theorem dX11_cartOne_4 : decode cX11_cartOne 4 = .ok (.iload_n 1, 1) := by decide +kernel
theorem dX11_cartOne_5 : decode cX11_cartOne 5 = .ok (.iload_n 2, 1) := by decide +kernel
theorem dX11_cartOne_6 : decode cX11_cartOne 6 = .ok (.iload_n 3, 1) := by decide +kernel
theorem dX11_cartOne_7 : decode cX11_cartOne 7 = .ok (.invokevirtual 368, 3) := by decide +kernel
theorem dX11_cartOne_10 : decode cX11_cartOne 10 = .ok (.istore 4, 2) := by decide +kernel
theorem dX11_cartOne_12 : decode cX11_cartOne 12 = .ok (.iload 4, 2) := by decide +kernel
theorem dX11_cartOne_14 : decode cX11_cartOne 14 = .ok (.ifCond .lt 16, 3) := by decide +kernel
theorem dX11_cartOne_17 : decode cX11_cartOne 17 = .ok (.aload_n 0, 1) := by decide +kernel
theorem dX11_cartOne_18 : decode cX11_cartOne 18 = .ok (.getfield 28, 3) := by decide +kernel
theorem dX11_cartOne_21 : decode cX11_cartOne 21 = .ok (.getfield 267, 3) := by decide +kernel
theorem dX11_cartOne_24 : decode cX11_cartOne 24 = .ok (.iconst 0, 1) := by decide +kernel
theorem dX11_cartOne_25 : decode cX11_cartOne 25 = .ok (.dup2, 1) := by decide +kernel
theorem dX11_cartOne_26 : decode cX11_cartOne 26 = .ok (.iaload, 1) := by decide +kernel
theorem dX11_cartOne_27 : decode cX11_cartOne 27 = .ok (.iconst 1, 1) := by decide +kernel
theorem dX11_cartOne_28 : decode cX11_cartOne 28 = .ok (.iadd, 1) := by decide +kernel
theorem dX11_cartOne_29 : decode cX11_cartOne 29 = .ok (.iastore, 1) := by decide +kernel
theorem dX11_cartOne_30 : decode cX11_cartOne 30 = .ok (.iload 4, 2) := by decide +kernel
theorem dX11_cartOne_32 : decode cX11_cartOne 32 = .ok (.ireturn, 1) := by decide +kernel
theorem dJ6_valueOf_2dffe_0 : decode cJ6_valueOf_2dffe 0 = .ok (.iload_n 0, 1) := by decide +kernel
theorem dJ6_valueOf_2dffe_1 : decode cJ6_valueOf_2dffe 1 = .ok (.bipush (-128), 2) := by decide +kernel
theorem dJ6_valueOf_2dffe_3 : decode cJ6_valueOf_2dffe 3 = .ok (.if_icmp .lt 20, 3) := by decide +kernel
theorem dJ6_valueOf_2dffe_6 : decode cJ6_valueOf_2dffe 6 = .ok (.iload_n 0, 1) := by decide +kernel
theorem dJ6_valueOf_2dffe_7 : decode cJ6_valueOf_2dffe 7 = .ok (.getstatic 191, 3) := by decide +kernel
theorem dJ6_valueOf_2dffe_10 : decode cJ6_valueOf_2dffe 10 = .ok (.if_icmp .gt 13, 3) := by decide +kernel
theorem dJ6_valueOf_2dffe_13 : decode cJ6_valueOf_2dffe 13 = .ok (.getstatic 195, 3) := by decide +kernel
theorem dJ6_valueOf_2dffe_16 : decode cJ6_valueOf_2dffe 16 = .ok (.iload_n 0, 1) := by decide +kernel
theorem dJ6_valueOf_2dffe_17 : decode cJ6_valueOf_2dffe 17 = .ok (.sipush 128, 3) := by decide +kernel
theorem dJ6_valueOf_2dffe_20 : decode cJ6_valueOf_2dffe 20 = .ok (.iadd, 1) := by decide +kernel
theorem dJ6_valueOf_2dffe_21 : decode cJ6_valueOf_2dffe 21 = .ok (.aaload, 1) := by decide +kernel
theorem dJ6_valueOf_2dffe_22 : decode cJ6_valueOf_2dffe 22 = .ok (.areturn, 1) := by decide +kernel
theorem dJ6_valueOf_2dffe_23 : decode cJ6_valueOf_2dffe 23 = .ok (.new 1, 3) := by decide +kernel
theorem dJ6_valueOf_2dffe_26 : decode cJ6_valueOf_2dffe 26 = .ok (.dup, 1) := by decide +kernel
theorem dJ6_valueOf_2dffe_27 : decode cJ6_valueOf_2dffe 27 = .ok (.iload_n 0, 1) := by decide +kernel
theorem dJ6_valueOf_2dffe_28 : decode cJ6_valueOf_2dffe 28 = .ok (.invokespecial 199, 3) := by decide +kernel
theorem dJ6_valueOf_2dffe_31 : decode cJ6_valueOf_2dffe 31 = .ok (.areturn, 1) := by decide +kernel
theorem dJ6_init_d00df_0 : decode cJ6_init_d00df 0 = .ok (.aload_n 0, 1) := by decide +kernel
theorem dJ6_init_d00df_1 : decode cJ6_init_d00df 1 = .ok (.invokespecial 202, 3) := by decide +kernel
theorem dJ6_init_d00df_4 : decode cJ6_init_d00df 4 = .ok (.aload_n 0, 1) := by decide +kernel
theorem dJ6_init_d00df_5 : decode cJ6_init_d00df 5 = .ok (.iload_n 1, 1) := by decide +kernel
theorem dJ6_init_d00df_6 : decode cJ6_init_d00df 6 = .ok (.putfield 205, 3) := by decide +kernel
theorem dJ6_init_d00df_9 : decode cJ6_init_d00df 9 = .ok (.return_, 1) := by decide +kernel
theorem dJ6_intValue_8abf5_0 : decode cJ6_intValue_8abf5 0 = .ok (.aload_n 0, 1) := by decide +kernel
theorem dJ6_intValue_8abf5_1 : decode cJ6_intValue_8abf5 1 = .ok (.getfield 205, 3) := by decide +kernel
theorem dJ6_intValue_8abf5_4 : decode cJ6_intValue_8abf5 4 = .ok (.ireturn, 1) := by decide +kernel
theorem dJ6_bitCount_0f7a4_0 : decode cJ6_bitCount_0f7a4 0 = .ok (.iload_n 0, 1) := by decide +kernel
theorem dJ6_bitCount_0f7a4_1 : decode cJ6_bitCount_0f7a4 1 = .ok (.iload_n 0, 1) := by decide +kernel
theorem dJ6_bitCount_0f7a4_2 : decode cJ6_bitCount_0f7a4 2 = .ok (.iconst 1, 1) := by decide +kernel
theorem dJ6_bitCount_0f7a4_3 : decode cJ6_bitCount_0f7a4 3 = .ok (.iushr, 1) := by decide +kernel
theorem dJ6_bitCount_0f7a4_4 : decode cJ6_bitCount_0f7a4 4 = .ok (.ldc_w 265, 3) := by decide +kernel
theorem dJ6_bitCount_0f7a4_7 : decode cJ6_bitCount_0f7a4 7 = .ok (.iand, 1) := by decide +kernel
theorem dJ6_bitCount_0f7a4_8 : decode cJ6_bitCount_0f7a4 8 = .ok (.isub, 1) := by decide +kernel
theorem dJ6_bitCount_0f7a4_9 : decode cJ6_bitCount_0f7a4 9 = .ok (.istore_n 0, 1) := by decide +kernel
theorem dJ6_bitCount_0f7a4_10 : decode cJ6_bitCount_0f7a4 10 = .ok (.iload_n 0, 1) := by decide +kernel
theorem dJ6_bitCount_0f7a4_11 : decode cJ6_bitCount_0f7a4 11 = .ok (.ldc_w 266, 3) := by decide +kernel
theorem dJ6_bitCount_0f7a4_14 : decode cJ6_bitCount_0f7a4 14 = .ok (.iand, 1) := by decide +kernel
theorem dJ6_bitCount_0f7a4_15 : decode cJ6_bitCount_0f7a4 15 = .ok (.iload_n 0, 1) := by decide +kernel
theorem dJ6_bitCount_0f7a4_16 : decode cJ6_bitCount_0f7a4 16 = .ok (.iconst 2, 1) := by decide +kernel
theorem dJ6_bitCount_0f7a4_17 : decode cJ6_bitCount_0f7a4 17 = .ok (.iushr, 1) := by decide +kernel
theorem dJ6_bitCount_0f7a4_18 : decode cJ6_bitCount_0f7a4 18 = .ok (.ldc_w 266, 3) := by decide +kernel
theorem dJ6_bitCount_0f7a4_21 : decode cJ6_bitCount_0f7a4 21 = .ok (.iand, 1) := by decide +kernel
theorem dJ6_bitCount_0f7a4_22 : decode cJ6_bitCount_0f7a4 22 = .ok (.iadd, 1) := by decide +kernel
theorem dJ6_bitCount_0f7a4_23 : decode cJ6_bitCount_0f7a4 23 = .ok (.istore_n 0, 1) := by decide +kernel
theorem dJ6_bitCount_0f7a4_24 : decode cJ6_bitCount_0f7a4 24 = .ok (.iload_n 0, 1) := by decide +kernel
theorem dJ6_bitCount_0f7a4_25 : decode cJ6_bitCount_0f7a4 25 = .ok (.iload_n 0, 1) := by decide +kernel
theorem dJ6_bitCount_0f7a4_26 : decode cJ6_bitCount_0f7a4 26 = .ok (.iconst 4, 1) := by decide +kernel
theorem dJ6_bitCount_0f7a4_27 : decode cJ6_bitCount_0f7a4 27 = .ok (.iushr, 1) := by decide +kernel
theorem dJ6_bitCount_0f7a4_28 : decode cJ6_bitCount_0f7a4 28 = .ok (.iadd, 1) := by decide +kernel
theorem dJ6_bitCount_0f7a4_29 : decode cJ6_bitCount_0f7a4 29 = .ok (.ldc_w 267, 3) := by decide +kernel
theorem dJ6_bitCount_0f7a4_32 : decode cJ6_bitCount_0f7a4 32 = .ok (.iand, 1) := by decide +kernel
theorem dJ6_bitCount_0f7a4_33 : decode cJ6_bitCount_0f7a4 33 = .ok (.istore_n 0, 1) := by decide +kernel
theorem dJ6_bitCount_0f7a4_34 : decode cJ6_bitCount_0f7a4 34 = .ok (.iload_n 0, 1) := by decide +kernel
theorem dJ6_bitCount_0f7a4_35 : decode cJ6_bitCount_0f7a4 35 = .ok (.iload_n 0, 1) := by decide +kernel
theorem dJ6_bitCount_0f7a4_36 : decode cJ6_bitCount_0f7a4 36 = .ok (.bipush 8, 2) := by decide +kernel
theorem dJ6_bitCount_0f7a4_38 : decode cJ6_bitCount_0f7a4 38 = .ok (.iushr, 1) := by decide +kernel
theorem dJ6_bitCount_0f7a4_39 : decode cJ6_bitCount_0f7a4 39 = .ok (.iadd, 1) := by decide +kernel
theorem dJ6_bitCount_0f7a4_40 : decode cJ6_bitCount_0f7a4 40 = .ok (.istore_n 0, 1) := by decide +kernel
theorem dJ6_bitCount_0f7a4_41 : decode cJ6_bitCount_0f7a4 41 = .ok (.iload_n 0, 1) := by decide +kernel
theorem dJ6_bitCount_0f7a4_42 : decode cJ6_bitCount_0f7a4 42 = .ok (.iload_n 0, 1) := by decide +kernel
theorem dJ6_bitCount_0f7a4_43 : decode cJ6_bitCount_0f7a4 43 = .ok (.bipush 16, 2) := by decide +kernel
theorem dJ6_bitCount_0f7a4_45 : decode cJ6_bitCount_0f7a4 45 = .ok (.iushr, 1) := by decide +kernel
theorem dJ6_bitCount_0f7a4_46 : decode cJ6_bitCount_0f7a4 46 = .ok (.iadd, 1) := by decide +kernel
theorem dJ6_bitCount_0f7a4_47 : decode cJ6_bitCount_0f7a4 47 = .ok (.istore_n 0, 1) := by decide +kernel
theorem dJ6_bitCount_0f7a4_48 : decode cJ6_bitCount_0f7a4 48 = .ok (.iload_n 0, 1) := by decide +kernel
theorem dJ6_bitCount_0f7a4_49 : decode cJ6_bitCount_0f7a4 49 = .ok (.bipush 63, 2) := by decide +kernel
theorem dJ6_bitCount_0f7a4_51 : decode cJ6_bitCount_0f7a4 51 = .ok (.iand, 1) := by decide +kernel
theorem dJ6_bitCount_0f7a4_52 : decode cJ6_bitCount_0f7a4 52 = .ok (.ireturn, 1) := by decide +kernel
theorem dJ13_bitCount_95d88_0 : decode cJ13_bitCount_95d88 0 = .ok (.lload_n 0, 1) := by decide +kernel
theorem dJ13_bitCount_95d88_1 : decode cJ13_bitCount_95d88 1 = .ok (.lload_n 0, 1) := by decide +kernel
theorem dJ13_bitCount_95d88_2 : decode cJ13_bitCount_95d88 2 = .ok (.iconst 1, 1) := by decide +kernel
theorem dJ13_bitCount_95d88_3 : decode cJ13_bitCount_95d88 3 = .ok (.lushr, 1) := by decide +kernel
theorem dJ13_bitCount_95d88_4 : decode cJ13_bitCount_95d88 4 = .ok (.ldc2_w 314, 3) := by decide +kernel
theorem dJ13_bitCount_95d88_7 : decode cJ13_bitCount_95d88 7 = .ok (.land, 1) := by decide +kernel
theorem dJ13_bitCount_95d88_8 : decode cJ13_bitCount_95d88 8 = .ok (.lsub, 1) := by decide +kernel
theorem dJ13_bitCount_95d88_9 : decode cJ13_bitCount_95d88 9 = .ok (.lstore_n 0, 1) := by decide +kernel
theorem dJ13_bitCount_95d88_10 : decode cJ13_bitCount_95d88 10 = .ok (.lload_n 0, 1) := by decide +kernel
theorem dJ13_bitCount_95d88_11 : decode cJ13_bitCount_95d88 11 = .ok (.ldc2_w 316, 3) := by decide +kernel
theorem dJ13_bitCount_95d88_14 : decode cJ13_bitCount_95d88 14 = .ok (.land, 1) := by decide +kernel
theorem dJ13_bitCount_95d88_15 : decode cJ13_bitCount_95d88 15 = .ok (.lload_n 0, 1) := by decide +kernel
theorem dJ13_bitCount_95d88_16 : decode cJ13_bitCount_95d88 16 = .ok (.iconst 2, 1) := by decide +kernel
theorem dJ13_bitCount_95d88_17 : decode cJ13_bitCount_95d88 17 = .ok (.lushr, 1) := by decide +kernel
theorem dJ13_bitCount_95d88_18 : decode cJ13_bitCount_95d88 18 = .ok (.ldc2_w 316, 3) := by decide +kernel
theorem dJ13_bitCount_95d88_21 : decode cJ13_bitCount_95d88 21 = .ok (.land, 1) := by decide +kernel
theorem dJ13_bitCount_95d88_22 : decode cJ13_bitCount_95d88 22 = .ok (.ladd, 1) := by decide +kernel
theorem dJ13_bitCount_95d88_23 : decode cJ13_bitCount_95d88 23 = .ok (.lstore_n 0, 1) := by decide +kernel
theorem dJ13_bitCount_95d88_24 : decode cJ13_bitCount_95d88 24 = .ok (.lload_n 0, 1) := by decide +kernel
theorem dJ13_bitCount_95d88_25 : decode cJ13_bitCount_95d88 25 = .ok (.lload_n 0, 1) := by decide +kernel
theorem dJ13_bitCount_95d88_26 : decode cJ13_bitCount_95d88 26 = .ok (.iconst 4, 1) := by decide +kernel
theorem dJ13_bitCount_95d88_27 : decode cJ13_bitCount_95d88 27 = .ok (.lushr, 1) := by decide +kernel
theorem dJ13_bitCount_95d88_28 : decode cJ13_bitCount_95d88 28 = .ok (.ladd, 1) := by decide +kernel
theorem dJ13_bitCount_95d88_29 : decode cJ13_bitCount_95d88 29 = .ok (.ldc2_w 318, 3) := by decide +kernel
theorem dJ13_bitCount_95d88_32 : decode cJ13_bitCount_95d88 32 = .ok (.land, 1) := by decide +kernel
theorem dJ13_bitCount_95d88_33 : decode cJ13_bitCount_95d88 33 = .ok (.lstore_n 0, 1) := by decide +kernel
theorem dJ13_bitCount_95d88_34 : decode cJ13_bitCount_95d88 34 = .ok (.lload_n 0, 1) := by decide +kernel
theorem dJ13_bitCount_95d88_35 : decode cJ13_bitCount_95d88 35 = .ok (.lload_n 0, 1) := by decide +kernel
theorem dJ13_bitCount_95d88_36 : decode cJ13_bitCount_95d88 36 = .ok (.bipush 8, 2) := by decide +kernel
theorem dJ13_bitCount_95d88_38 : decode cJ13_bitCount_95d88 38 = .ok (.lushr, 1) := by decide +kernel
theorem dJ13_bitCount_95d88_39 : decode cJ13_bitCount_95d88 39 = .ok (.ladd, 1) := by decide +kernel
theorem dJ13_bitCount_95d88_40 : decode cJ13_bitCount_95d88 40 = .ok (.lstore_n 0, 1) := by decide +kernel
theorem dJ13_bitCount_95d88_41 : decode cJ13_bitCount_95d88 41 = .ok (.lload_n 0, 1) := by decide +kernel
theorem dJ13_bitCount_95d88_42 : decode cJ13_bitCount_95d88 42 = .ok (.lload_n 0, 1) := by decide +kernel
theorem dJ13_bitCount_95d88_43 : decode cJ13_bitCount_95d88 43 = .ok (.bipush 16, 2) := by decide +kernel
theorem dJ13_bitCount_95d88_45 : decode cJ13_bitCount_95d88 45 = .ok (.lushr, 1) := by decide +kernel
theorem dJ13_bitCount_95d88_46 : decode cJ13_bitCount_95d88 46 = .ok (.ladd, 1) := by decide +kernel
theorem dJ13_bitCount_95d88_47 : decode cJ13_bitCount_95d88 47 = .ok (.lstore_n 0, 1) := by decide +kernel
theorem dJ13_bitCount_95d88_48 : decode cJ13_bitCount_95d88 48 = .ok (.lload_n 0, 1) := by decide +kernel
theorem dJ13_bitCount_95d88_49 : decode cJ13_bitCount_95d88 49 = .ok (.lload_n 0, 1) := by decide +kernel
theorem dJ13_bitCount_95d88_50 : decode cJ13_bitCount_95d88 50 = .ok (.bipush 32, 2) := by decide +kernel
theorem dJ13_bitCount_95d88_52 : decode cJ13_bitCount_95d88 52 = .ok (.lushr, 1) := by decide +kernel
theorem dJ13_bitCount_95d88_53 : decode cJ13_bitCount_95d88 53 = .ok (.ladd, 1) := by decide +kernel
theorem dJ13_bitCount_95d88_54 : decode cJ13_bitCount_95d88 54 = .ok (.lstore_n 0, 1) := by decide +kernel
theorem dJ13_bitCount_95d88_55 : decode cJ13_bitCount_95d88 55 = .ok (.lload_n 0, 1) := by decide +kernel
theorem dJ13_bitCount_95d88_56 : decode cJ13_bitCount_95d88 56 = .ok (.l2i, 1) := by decide +kernel
theorem dJ13_bitCount_95d88_57 : decode cJ13_bitCount_95d88 57 = .ok (.bipush 127, 2) := by decide +kernel
theorem dJ13_bitCount_95d88_59 : decode cJ13_bitCount_95d88 59 = .ok (.iand, 1) := by decide +kernel
theorem dJ13_bitCount_95d88_60 : decode cJ13_bitCount_95d88 60 = .ok (.ireturn, 1) := by decide +kernel
