theorem dL_tell_0 : decode cL_tell 0 = .ok (.iconst 0, 1) := by decide +kernel
theorem dL_tell_1 : decode cL_tell 1 = .ok (.istore_n 3, 1) := by decide +kernel
theorem dL_tell_2 : decode cL_tell 2 = .ok (.iload_n 3, 1) := by decide +kernel
theorem dL_tell_3 : decode cL_tell 3 = .ok (.iload_n 2, 1) := by decide +kernel
theorem dL_tell_4 : decode cL_tell 4 = .ok (.if_icmp .ge 24, 3) := by decide +kernel
theorem dL_tell_7 : decode cL_tell 7 = .ok (.aload_n 0, 1) := by decide +kernel
theorem dL_tell_8 : decode cL_tell 8 = .ok (.aload_n 1, 1) := by decide +kernel
theorem dL_tell_9 : decode cL_tell 9 = .ok (.iload_n 3, 1) := by decide +kernel
theorem dL_tell_10 : decode cL_tell 10 = .ok (.iaload, 1) := by decide +kernel
theorem dL_tell_11 : decode cL_tell 11 = .ok (.invokevirtual 7, 3) := by decide +kernel
theorem dL_tell_14 : decode cL_tell 14 = .ok (.iload_n 3, 1) := by decide +kernel
theorem dL_tell_15 : decode cL_tell 15 = .ok (.iconst 1, 1) := by decide +kernel
theorem dL_tell_16 : decode cL_tell 16 = .ok (.iadd, 1) := by decide +kernel
theorem dL_tell_17 : decode cL_tell 17 = .ok (.if_icmp .eq 5, 3) := by decide +kernel
theorem dL_tell_20 : decode cL_tell 20 = .ok (.iconst 0, 1) := by decide +kernel
theorem dL_tell_21 : decode cL_tell 21 = .ok (.ireturn, 1) := by decide +kernel
theorem dL_tell_22 : decode cL_tell 22 = .ok (.iinc 3 1, 3) := by decide +kernel
theorem dL_tell_25 : decode cL_tell 25 = .ok (.goto (-23), 3) := by decide +kernel
theorem dL_tell_28 : decode cL_tell 28 = .ok (.aload_n 0, 1) := by decide +kernel
theorem dL_tell_29 : decode cL_tell 29 = .ok (.iconst 2, 1) := by decide +kernel
theorem dL_tell_30 : decode cL_tell 30 = .ok (.invokevirtual 13, 3) := by decide +kernel
theorem dL_tell_33 : decode cL_tell 33 = .ok (.iload_n 2, 1) := by decide +kernel
theorem dL_tell_34 : decode cL_tell 34 = .ok (.if_icmp .ne 7, 3) := by decide +kernel
theorem dL_tell_37 : decode cL_tell 37 = .ok (.iconst 1, 1) := by decide +kernel
theorem dL_tell_38 : decode cL_tell 38 = .ok (.goto 4, 3) := by decide +kernel
theorem dL_tell_41 : decode cL_tell 41 = .ok (.iconst 0, 1) := by decide +kernel
theorem dL_tell_42 : decode cL_tell 42 = .ok (.ireturn, 1) := by decide +kernel
theorem dL_cell_0 : decode cL_cell 0 = .ok (.iload_n 1, 1) := by decide +kernel
theorem dL_cell_1 : decode cL_cell 1 = .ok (.aload_n 0, 1) := by decide +kernel
theorem dL_cell_2 : decode cL_cell 2 = .ok (.arraylength, 1) := by decide +kernel
theorem dL_cell_3 : decode cL_cell 3 = .ok (.if_icmp .ge 12, 3) := by decide +kernel
theorem dL_cell_6 : decode cL_cell 6 = .ok (.aload_n 0, 1) := by decide +kernel
theorem dL_cell_7 : decode cL_cell 7 = .ok (.iload_n 1, 1) := by decide +kernel
theorem dL_cell_8 : decode cL_cell 8 = .ok (.iaload, 1) := by decide +kernel
theorem dL_cell_9 : decode cL_cell 9 = .ok (.ldc 16, 2) := by decide +kernel
theorem dL_cell_11 : decode cL_cell 11 = .ok (.iand, 1) := by decide +kernel
theorem dL_cell_12 : decode cL_cell 12 = .ok (.goto 8, 3) := by decide +kernel
theorem dL_cell_15 : decode cL_cell 15 = .ok (.iload_n 1, 1) := by decide +kernel
theorem dL_cell_16 : decode cL_cell 16 = .ok (.sipush 9067, 3) := by decide +kernel
theorem dL_cell_19 : decode cL_cell 19 = .ok (.imul, 1) := by decide +kernel
theorem dL_cell_20 : decode cL_cell 20 = .ok (.ireturn, 1) := by decide +kernel
theorem dL_high_0 : decode cL_high 0 = .ok (.aload_n 0, 1) := by decide +kernel
theorem dL_high_1 : decode cL_high 1 = .ok (.iconst 0, 1) := by decide +kernel
theorem dL_high_2 : decode cL_high 2 = .ok (.invokestatic 17, 3) := by decide +kernel
theorem dL_high_5 : decode cL_high 5 = .ok (.iconst 3, 1) := by decide +kernel
theorem dL_high_6 : decode cL_high 6 = .ok (.iload_n 1, 1) := by decide +kernel
theorem dL_high_7 : decode cL_high 7 = .ok (.imul, 1) := by decide +kernel
theorem dL_high_8 : decode cL_high 8 = .ok (.ishr, 1) := by decide +kernel
theorem dL_high_9 : decode cL_high 9 = .ok (.bipush 7, 2) := by decide +kernel
theorem dL_high_11 : decode cL_high 11 = .ok (.iand, 1) := by decide +kernel
theorem dL_high_12 : decode cL_high 12 = .ok (.bipush 6, 2) := by decide +kernel
theorem dL_high_14 : decode cL_high 14 = .ok (.irem, 1) := by decide +kernel
theorem dL_high_15 : decode cL_high 15 = .ok (.ireturn, 1) := by decide +kernel
theorem dL_hasLaw_0 : decode cL_hasLaw 0 = .ok (.aload_n 0, 1) := by decide +kernel
theorem dL_hasLaw_1 : decode cL_hasLaw 1 = .ok (.iconst 0, 1) := by decide +kernel
theorem dL_hasLaw_2 : decode cL_hasLaw 2 = .ok (.invokestatic 17, 3) := by decide +kernel
theorem dL_hasLaw_5 : decode cL_hasLaw 5 = .ok (.bipush 18, 2) := by decide +kernel
theorem dL_hasLaw_7 : decode cL_hasLaw 7 = .ok (.ishr, 1) := by decide +kernel
theorem dL_hasLaw_8 : decode cL_hasLaw 8 = .ok (.iconst 1, 1) := by decide +kernel
theorem dL_hasLaw_9 : decode cL_hasLaw 9 = .ok (.iand, 1) := by decide +kernel
theorem dL_hasLaw_10 : decode cL_hasLaw 10 = .ok (.iconst 1, 1) := by decide +kernel
theorem dL_hasLaw_11 : decode cL_hasLaw 11 = .ok (.if_icmp .ne 7, 3) := by decide +kernel
theorem dL_hasLaw_14 : decode cL_hasLaw 14 = .ok (.iconst 1, 1) := by decide +kernel
theorem dL_hasLaw_15 : decode cL_hasLaw 15 = .ok (.goto 4, 3) := by decide +kernel
theorem dL_hasLaw_18 : decode cL_hasLaw 18 = .ok (.iconst 0, 1) := by decide +kernel
theorem dL_hasLaw_19 : decode cL_hasLaw 19 = .ok (.ireturn, 1) := by decide +kernel
theorem dL_glows_0 : decode cL_glows 0 = .ok (.aload_n 0, 1) := by decide +kernel
theorem dL_glows_1 : decode cL_glows 1 = .ok (.iconst 0, 1) := by decide +kernel
theorem dL_glows_2 : decode cL_glows 2 = .ok (.invokestatic 17, 3) := by decide +kernel
theorem dL_glows_5 : decode cL_glows 5 = .ok (.bipush 19, 2) := by decide +kernel
theorem dL_glows_7 : decode cL_glows 7 = .ok (.ishr, 1) := by decide +kernel
theorem dL_glows_8 : decode cL_glows 8 = .ok (.iconst 1, 1) := by decide +kernel
theorem dL_glows_9 : decode cL_glows 9 = .ok (.iand, 1) := by decide +kernel
theorem dL_glows_10 : decode cL_glows 10 = .ok (.ifCond .ne 8, 3) := by decide +kernel
theorem dL_glows_13 : decode cL_glows 13 = .ok (.bipush 90, 2) := by decide +kernel
theorem dL_glows_15 : decode cL_glows 15 = .ok (.goto 16, 3) := by decide +kernel
theorem dL_glows_18 : decode cL_glows 18 = .ok (.bipush 30, 2) := by decide +kernel
theorem dL_glows_20 : decode cL_glows 20 = .ok (.aload_n 0, 1) := by decide +kernel
theorem dL_glows_21 : decode cL_glows 21 = .ok (.iconst 1, 1) := by decide +kernel
theorem dL_glows_22 : decode cL_glows 22 = .ok (.invokestatic 17, 3) := by decide +kernel
theorem dL_glows_25 : decode cL_glows 25 = .ok (.iconst 3, 1) := by decide +kernel
theorem dL_glows_26 : decode cL_glows 26 = .ok (.ishr, 1) := by decide +kernel
theorem dL_glows_27 : decode cL_glows 27 = .ok (.bipush 60, 2) := by decide +kernel
theorem dL_glows_29 : decode cL_glows 29 = .ok (.irem, 1) := by decide +kernel
theorem dL_glows_30 : decode cL_glows 30 = .ok (.iadd, 1) := by decide +kernel
theorem dL_glows_31 : decode cL_glows 31 = .ok (.ireturn, 1) := by decide +kernel
theorem dL_number_0 : decode cL_number 0 = .ok (.aload_n 0, 1) := by decide +kernel
theorem dL_number_1 : decode cL_number 1 = .ok (.iconst 2, 1) := by decide +kernel
theorem dL_number_2 : decode cL_number 2 = .ok (.iload_n 1, 1) := by decide +kernel
theorem dL_number_3 : decode cL_number 3 = .ok (.bipush 11, 2) := by decide +kernel
theorem dL_number_5 : decode cL_number 5 = .ok (.irem, 1) := by decide +kernel
theorem dL_number_6 : decode cL_number 6 = .ok (.iadd, 1) := by decide +kernel
theorem dL_number_7 : decode cL_number 7 = .ok (.invokestatic 17, 3) := by decide +kernel
theorem dL_number_10 : decode cL_number 10 = .ok (.iconst 1, 1) := by decide +kernel
theorem dL_number_11 : decode cL_number 11 = .ok (.iload_n 1, 1) := by decide +kernel
theorem dL_number_12 : decode cL_number 12 = .ok (.bipush 11, 2) := by decide +kernel
theorem dL_number_14 : decode cL_number 14 = .ok (.idiv, 1) := by decide +kernel
theorem dL_number_15 : decode cL_number 15 = .ok (.iadd, 1) := by decide +kernel
theorem dL_number_16 : decode cL_number 16 = .ok (.imul, 1) := by decide +kernel
theorem dL_number_17 : decode cL_number 17 = .ok (.iload_n 1, 1) := by decide +kernel
theorem dL_number_18 : decode cL_number 18 = .ok (.bipush 37, 2) := by decide +kernel
theorem dL_number_20 : decode cL_number 20 = .ok (.imul, 1) := by decide +kernel
theorem dL_number_21 : decode cL_number 21 = .ok (.iadd, 1) := by decide +kernel
theorem dL_number_22 : decode cL_number 22 = .ok (.istore_n 3, 1) := by decide +kernel
theorem dL_number_23 : decode cL_number 23 = .ok (.iload_n 2, 1) := by decide +kernel
theorem dL_number_24 : decode cL_number 24 = .ok (.ifCond .ne 15, 3) := by decide +kernel
theorem dL_number_27 : decode cL_number 27 = .ok (.iload_n 3, 1) := by decide +kernel
theorem dL_number_28 : decode cL_number 28 = .ok (.iconst 2, 1) := by decide +kernel
theorem dL_number_29 : decode cL_number 29 = .ok (.ishr, 1) := by decide +kernel
theorem dL_number_30 : decode cL_number 30 = .ok (.ldc 23, 2) := by decide +kernel
theorem dL_number_32 : decode cL_number 32 = .ok (.iand, 1) := by decide +kernel
theorem dL_number_33 : decode cL_number 33 = .ok (.bipush 10, 2) := by decide +kernel
theorem dL_number_35 : decode cL_number 35 = .ok (.irem, 1) := by decide +kernel
theorem dL_number_36 : decode cL_number 36 = .ok (.goto 89, 3) := by decide +kernel
theorem dL_number_39 : decode cL_number 39 = .ok (.iload_n 2, 1) := by decide +kernel
theorem dL_number_40 : decode cL_number 40 = .ok (.iconst 1, 1) := by decide +kernel
theorem dL_number_41 : decode cL_number 41 = .ok (.if_icmp .ne 29, 3) := by decide +kernel
theorem dL_number_44 : decode cL_number 44 = .ok (.iload_n 3, 1) := by decide +kernel
theorem dL_number_45 : decode cL_number 45 = .ok (.iconst 5, 1) := by decide +kernel
theorem dL_number_46 : decode cL_number 46 = .ok (.ishr, 1) := by decide +kernel
theorem dL_number_47 : decode cL_number 47 = .ok (.iconst 3, 1) := by decide +kernel
theorem dL_number_48 : decode cL_number 48 = .ok (.iand, 1) := by decide +kernel
theorem dL_number_49 : decode cL_number 49 = .ok (.ifCond .ne 8, 3) := by decide +kernel
theorem dL_number_52 : decode cL_number 52 = .ok (.bipush 20, 2) := by decide +kernel
theorem dL_number_54 : decode cL_number 54 = .ok (.goto 71, 3) := by decide +kernel
theorem dL_number_57 : decode cL_number 57 = .ok (.iload_n 3, 1) := by decide +kernel
theorem dL_number_58 : decode cL_number 58 = .ok (.bipush 6, 2) := by decide +kernel
theorem dL_number_60 : decode cL_number 60 = .ok (.ishr, 1) := by decide +kernel
theorem dL_number_61 : decode cL_number 61 = .ok (.ldc 23, 2) := by decide +kernel
theorem dL_number_63 : decode cL_number 63 = .ok (.iand, 1) := by decide +kernel
theorem dL_number_64 : decode cL_number 64 = .ok (.bipush 100, 2) := by decide +kernel
theorem dL_number_66 : decode cL_number 66 = .ok (.irem, 1) := by decide +kernel
theorem dL_number_67 : decode cL_number 67 = .ok (.goto 58, 3) := by decide +kernel
theorem dL_number_70 : decode cL_number 70 = .ok (.iload_n 2, 1) := by decide +kernel
theorem dL_number_71 : decode cL_number 71 = .ok (.iconst 2, 1) := by decide +kernel
theorem dL_number_72 : decode cL_number 72 = .ok (.if_icmp .ne 19, 3) := by decide +kernel
theorem dL_number_75 : decode cL_number 75 = .ok (.bipush 99, 2) := by decide +kernel
theorem dL_number_77 : decode cL_number 77 = .ok (.iload_n 3, 1) := by decide +kernel
theorem dL_number_78 : decode cL_number 78 = .ok (.bipush 9, 2) := by decide +kernel
theorem dL_number_80 : decode cL_number 80 = .ok (.ishr, 1) := by decide +kernel
theorem dL_number_81 : decode cL_number 81 = .ok (.ldc 23, 2) := by decide +kernel
theorem dL_number_83 : decode cL_number 83 = .ok (.iand, 1) := by decide +kernel
theorem dL_number_84 : decode cL_number 84 = .ok (.bipush 30, 2) := by decide +kernel
theorem dL_number_86 : decode cL_number 86 = .ok (.irem, 1) := by decide +kernel
theorem dL_number_87 : decode cL_number 87 = .ok (.isub, 1) := by decide +kernel
theorem dL_number_88 : decode cL_number 88 = .ok (.goto 37, 3) := by decide +kernel
theorem dL_number_91 : decode cL_number 91 = .ok (.iload_n 2, 1) := by decide +kernel
theorem dL_number_92 : decode cL_number 92 = .ok (.iconst 3, 1) := by decide +kernel
theorem dL_number_93 : decode cL_number 93 = .ok (.if_icmp .ne 23, 3) := by decide +kernel
theorem dL_number_96 : decode cL_number 96 = .ok (.iload_n 3, 1) := by decide +kernel
theorem dL_number_97 : decode cL_number 97 = .ok (.bipush 12, 2) := by decide +kernel
theorem dL_number_99 : decode cL_number 99 = .ok (.ishr, 1) := by decide +kernel
theorem dL_number_100 : decode cL_number 100 = .ok (.bipush 7, 2) := by decide +kernel
theorem dL_number_102 : decode cL_number 102 = .ok (.iand, 1) := by decide +kernel
theorem dL_number_103 : decode cL_number 103 = .ok (.bipush 7, 2) := by decide +kernel
theorem dL_number_105 : decode cL_number 105 = .ok (.if_icmp .ne 7, 3) := by decide +kernel
theorem dL_number_108 : decode cL_number 108 = .ok (.iconst 1, 1) := by decide +kernel
theorem dL_number_109 : decode cL_number 109 = .ok (.goto 16, 3) := by decide +kernel
theorem dL_number_112 : decode cL_number 112 = .ok (.iconst 0, 1) := by decide +kernel
theorem dL_number_113 : decode cL_number 113 = .ok (.goto 12, 3) := by decide +kernel
theorem dL_number_116 : decode cL_number 116 = .ok (.iload_n 3, 1) := by decide +kernel
theorem dL_number_117 : decode cL_number 117 = .ok (.iconst 4, 1) := by decide +kernel
theorem dL_number_118 : decode cL_number 118 = .ok (.ishr, 1) := by decide +kernel
theorem dL_number_119 : decode cL_number 119 = .ok (.ldc 23, 2) := by decide +kernel
theorem dL_number_121 : decode cL_number 121 = .ok (.iand, 1) := by decide +kernel
theorem dL_number_122 : decode cL_number 122 = .ok (.bipush 10, 2) := by decide +kernel
theorem dL_number_124 : decode cL_number 124 = .ok (.irem, 1) := by decide +kernel
theorem dL_number_125 : decode cL_number 125 = .ok (.ireturn, 1) := by decide +kernel
theorem dL_chimney_0 : decode cL_chimney 0 = .ok (.aload_n 0, 1) := by decide +kernel
theorem dL_chimney_1 : decode cL_chimney 1 = .ok (.bipush 13, 2) := by decide +kernel
theorem dL_chimney_3 : decode cL_chimney 3 = .ok (.invokestatic 17, 3) := by decide +kernel
theorem dL_chimney_6 : decode cL_chimney 6 = .ok (.iconst 2, 1) := by decide +kernel
theorem dL_chimney_7 : decode cL_chimney 7 = .ok (.iload_n 1, 1) := by decide +kernel
theorem dL_chimney_8 : decode cL_chimney 8 = .ok (.imul, 1) := by decide +kernel
theorem dL_chimney_9 : decode cL_chimney 9 = .ok (.ishr, 1) := by decide +kernel
theorem dL_chimney_10 : decode cL_chimney 10 = .ok (.iconst 3, 1) := by decide +kernel
theorem dL_chimney_11 : decode cL_chimney 11 = .ok (.iand, 1) := by decide +kernel
theorem dL_chimney_12 : decode cL_chimney 12 = .ok (.iconst 3, 1) := by decide +kernel
theorem dL_chimney_13 : decode cL_chimney 13 = .ok (.if_icmp .ne 7, 3) := by decide +kernel
theorem dL_chimney_16 : decode cL_chimney 16 = .ok (.iconst 1, 1) := by decide +kernel
theorem dL_chimney_17 : decode cL_chimney 17 = .ok (.goto 4, 3) := by decide +kernel
theorem dL_chimney_20 : decode cL_chimney 20 = .ok (.iconst 0, 1) := by decide +kernel
theorem dL_chimney_21 : decode cL_chimney 21 = .ok (.ireturn, 1) := by decide +kernel
theorem dL_built_0 : decode cL_built 0 = .ok (.iconst 0, 1) := by decide +kernel
theorem dL_built_1 : decode cL_built 1 = .ok (.istore_n 2, 1) := by decide +kernel
theorem dL_built_2 : decode cL_built 2 = .ok (.iload_n 2, 1) := by decide +kernel
theorem dL_built_3 : decode cL_built 3 = .ok (.bipush 6, 2) := by decide +kernel
theorem dL_built_5 : decode cL_built 5 = .ok (.if_icmp .ge 134, 3) := by decide +kernel
theorem dL_built_8 : decode cL_built 8 = .ok (.iconst 0, 1) := by decide +kernel
theorem dL_built_9 : decode cL_built 9 = .ok (.istore_n 3, 1) := by decide +kernel
theorem dL_built_10 : decode cL_built 10 = .ok (.iload_n 3, 1) := by decide +kernel
theorem dL_built_11 : decode cL_built 11 = .ok (.aload_n 1, 1) := by decide +kernel
theorem dL_built_12 : decode cL_built 12 = .ok (.iload_n 2, 1) := by decide +kernel
theorem dL_built_13 : decode cL_built 13 = .ok (.invokestatic 24, 3) := by decide +kernel
theorem dL_built_16 : decode cL_built 16 = .ok (.if_icmp .ge 101, 3) := by decide +kernel
theorem dL_built_19 : decode cL_built 19 = .ok (.iconst 5, 1) := by decide +kernel
theorem dL_built_20 : decode cL_built 20 = .ok (.iload_n 2, 1) := by decide +kernel
theorem dL_built_21 : decode cL_built 21 = .ok (.imul, 1) := by decide +kernel
theorem dL_built_22 : decode cL_built 22 = .ok (.iload_n 3, 1) := by decide +kernel
theorem dL_built_23 : decode cL_built 23 = .ok (.iadd, 1) := by decide +kernel
theorem dL_built_24 : decode cL_built 24 = .ok (.istore 4, 2) := by decide +kernel
theorem dL_built_26 : decode cL_built 26 = .ok (.aload_n 0, 1) := by decide +kernel
theorem dL_built_27 : decode cL_built 27 = .ok (.iload_n 2, 1) := by decide +kernel
theorem dL_built_28 : decode cL_built 28 = .ok (.bipush 10, 2) := by decide +kernel
theorem dL_built_30 : decode cL_built 30 = .ok (.aload_n 1, 1) := by decide +kernel
theorem dL_built_31 : decode cL_built 31 = .ok (.iload 4, 2) := by decide +kernel
theorem dL_built_33 : decode cL_built 33 = .ok (.iconst 0, 1) := by decide +kernel
theorem dL_built_34 : decode cL_built 34 = .ok (.invokestatic 27, 3) := by decide +kernel
theorem dL_built_37 : decode cL_built 37 = .ok (.imul, 1) := by decide +kernel
theorem dL_built_38 : decode cL_built 38 = .ok (.aload_n 1, 1) := by decide +kernel
theorem dL_built_39 : decode cL_built 39 = .ok (.iload 4, 2) := by decide +kernel
theorem dL_built_41 : decode cL_built 41 = .ok (.iconst 4, 1) := by decide +kernel
theorem dL_built_42 : decode cL_built 42 = .ok (.invokestatic 27, 3) := by decide +kernel
theorem dL_built_45 : decode cL_built 45 = .ok (.iadd, 1) := by decide +kernel
theorem dL_built_46 : decode cL_built 46 = .ok (.invokevirtual 31, 3) := by decide +kernel
theorem dL_built_49 : decode cL_built 49 = .ok (.iload 4, 2) := by decide +kernel
theorem dL_built_51 : decode cL_built 51 = .ok (.if_icmp .ne 58, 3) := by decide +kernel
theorem dL_built_54 : decode cL_built 54 = .ok (.aload_n 0, 1) := by decide +kernel
theorem dL_built_55 : decode cL_built 55 = .ok (.iload 4, 2) := by decide +kernel
theorem dL_built_57 : decode cL_built 57 = .ok (.iconst 1, 1) := by decide +kernel
theorem dL_built_58 : decode cL_built 58 = .ok (.aload_n 1, 1) := by decide +kernel
theorem dL_built_59 : decode cL_built 59 = .ok (.iload 4, 2) := by decide +kernel
theorem dL_built_61 : decode cL_built 61 = .ok (.iconst 1, 1) := by decide +kernel
theorem dL_built_62 : decode cL_built 62 = .ok (.invokestatic 27, 3) := by decide +kernel
theorem dL_built_65 : decode cL_built 65 = .ok (.invokevirtual 35, 3) := by decide +kernel
theorem dL_built_68 : decode cL_built 68 = .ok (.bipush 20, 2) := by decide +kernel
theorem dL_built_70 : decode cL_built 70 = .ok (.if_icmp .ne 39, 3) := by decide +kernel
theorem dL_built_73 : decode cL_built 73 = .ok (.aload_n 0, 1) := by decide +kernel
theorem dL_built_74 : decode cL_built 74 = .ok (.iload 4, 2) := by decide +kernel
theorem dL_built_76 : decode cL_built 76 = .ok (.iconst 2, 1) := by decide +kernel
theorem dL_built_77 : decode cL_built 77 = .ok (.aload_n 1, 1) := by decide +kernel
theorem dL_built_78 : decode cL_built 78 = .ok (.iload 4, 2) := by decide +kernel
theorem dL_built_80 : decode cL_built 80 = .ok (.iconst 2, 1) := by decide +kernel
theorem dL_built_81 : decode cL_built 81 = .ok (.invokestatic 27, 3) := by decide +kernel
theorem dL_built_84 : decode cL_built 84 = .ok (.invokevirtual 35, 3) := by decide +kernel
theorem dL_built_87 : decode cL_built 87 = .ok (.bipush 99, 2) := by decide +kernel
theorem dL_built_89 : decode cL_built 89 = .ok (.if_icmp .ne 20, 3) := by decide +kernel
theorem dL_built_92 : decode cL_built 92 = .ok (.aload_n 0, 1) := by decide +kernel
theorem dL_built_93 : decode cL_built 93 = .ok (.iload 4, 2) := by decide +kernel
theorem dL_built_95 : decode cL_built 95 = .ok (.iconst 3, 1) := by decide +kernel
theorem dL_built_96 : decode cL_built 96 = .ok (.aload_n 1, 1) := by decide +kernel
theorem dL_built_97 : decode cL_built 97 = .ok (.iload 4, 2) := by decide +kernel
theorem dL_built_99 : decode cL_built 99 = .ok (.iconst 3, 1) := by decide +kernel
theorem dL_built_100 : decode cL_built 100 = .ok (.invokestatic 27, 3) := by decide +kernel
theorem dL_built_103 : decode cL_built 103 = .ok (.invokevirtual 35, 3) := by decide +kernel
theorem dL_built_106 : decode cL_built 106 = .ok (.ifCond .eq 5, 3) := by decide +kernel
theorem dL_built_109 : decode cL_built 109 = .ok (.iconst 0, 1) := by decide +kernel
theorem dL_built_110 : decode cL_built 110 = .ok (.ireturn, 1) := by decide +kernel
theorem dL_built_111 : decode cL_built 111 = .ok (.iinc 3 1, 3) := by decide +kernel
theorem dL_built_114 : decode cL_built 114 = .ok (.goto (-104), 3) := by decide +kernel
theorem dL_built_117 : decode cL_built 117 = .ok (.aload_n 0, 1) := by decide +kernel
theorem dL_built_118 : decode cL_built 118 = .ok (.iload_n 2, 1) := by decide +kernel
theorem dL_built_119 : decode cL_built 119 = .ok (.iconst 5, 1) := by decide +kernel
theorem dL_built_120 : decode cL_built 120 = .ok (.aload_n 1, 1) := by decide +kernel
theorem dL_built_121 : decode cL_built 121 = .ok (.iload_n 2, 1) := by decide +kernel
theorem dL_built_122 : decode cL_built 122 = .ok (.invokestatic 39, 3) := by decide +kernel
theorem dL_built_125 : decode cL_built 125 = .ok (.invokevirtual 35, 3) := by decide +kernel
theorem dL_built_128 : decode cL_built 128 = .ok (.ifCond .eq 5, 3) := by decide +kernel
theorem dL_built_131 : decode cL_built 131 = .ok (.iconst 0, 1) := by decide +kernel
theorem dL_built_132 : decode cL_built 132 = .ok (.ireturn, 1) := by decide +kernel
theorem dL_built_133 : decode cL_built 133 = .ok (.iinc 2 1, 3) := by decide +kernel
theorem dL_built_136 : decode cL_built 136 = .ok (.goto (-134), 3) := by decide +kernel
theorem dL_built_139 : decode cL_built 139 = .ok (.aload_n 0, 1) := by decide +kernel
theorem dL_built_140 : decode cL_built 140 = .ok (.iconst 0, 1) := by decide +kernel
theorem dL_built_141 : decode cL_built 141 = .ok (.bipush 6, 2) := by decide +kernel
theorem dL_built_143 : decode cL_built 143 = .ok (.aload_n 1, 1) := by decide +kernel
theorem dL_built_144 : decode cL_built 144 = .ok (.invokestatic 42, 3) := by decide +kernel
theorem dL_built_147 : decode cL_built 147 = .ok (.invokevirtual 35, 3) := by decide +kernel
theorem dL_built_150 : decode cL_built 150 = .ok (.bipush 90, 2) := by decide +kernel
theorem dL_built_152 : decode cL_built 152 = .ok (.if_icmp .eq 5, 3) := by decide +kernel
theorem dL_built_155 : decode cL_built 155 = .ok (.iconst 0, 1) := by decide +kernel
theorem dL_built_156 : decode cL_built 156 = .ok (.ireturn, 1) := by decide +kernel
theorem dL_built_157 : decode cL_built 157 = .ok (.aload_n 1, 1) := by decide +kernel
theorem dL_built_158 : decode cL_built 158 = .ok (.invokestatic 46, 3) := by decide +kernel
theorem dL_built_161 : decode cL_built 161 = .ok (.ifCond .ne 5, 3) := by decide +kernel
theorem dL_built_164 : decode cL_built 164 = .ok (.iconst 1, 1) := by decide +kernel
theorem dL_built_165 : decode cL_built 165 = .ok (.ireturn, 1) := by decide +kernel
theorem dL_built_166 : decode cL_built 166 = .ok (.bipush 21, 2) := by decide +kernel
theorem dL_built_168 : decode cL_built 168 = .ok (.newarray .int, 2) := by decide +kernel
theorem dL_built_170 : decode cL_built 170 = .ok (.dup, 1) := by decide +kernel
theorem dL_built_171 : decode cL_built 171 = .ok (.iconst 0, 1) := by decide +kernel
theorem dL_built_172 : decode cL_built 172 = .ok (.bipush 100, 2) := by decide +kernel
theorem dL_built_174 : decode cL_built 174 = .ok (.iastore, 1) := by decide +kernel
theorem dL_built_175 : decode cL_built 175 = .ok (.dup, 1) := by decide +kernel
theorem dL_built_176 : decode cL_built 176 = .ok (.iconst 1, 1) := by decide +kernel
theorem dL_built_177 : decode cL_built 177 = .ok (.bipush 42, 2) := by decide +kernel
theorem dL_built_179 : decode cL_built 179 = .ok (.iastore, 1) := by decide +kernel
theorem dL_built_180 : decode cL_built 180 = .ok (.dup, 1) := by decide +kernel
theorem dL_built_181 : decode cL_built 181 = .ok (.iconst 2, 1) := by decide +kernel
theorem dL_built_182 : decode cL_built 182 = .ok (.bipush 50, 2) := by decide +kernel
theorem dL_built_184 : decode cL_built 184 = .ok (.iastore, 1) := by decide +kernel
theorem dL_built_185 : decode cL_built 185 = .ok (.dup, 1) := by decide +kernel
theorem dL_built_186 : decode cL_built 186 = .ok (.iconst 3, 1) := by decide +kernel
theorem dL_built_187 : decode cL_built 187 = .ok (.bipush 45, 2) := by decide +kernel
theorem dL_built_189 : decode cL_built 189 = .ok (.iastore, 1) := by decide +kernel
theorem dL_built_190 : decode cL_built 190 = .ok (.dup, 1) := by decide +kernel
theorem dL_built_191 : decode cL_built 191 = .ok (.iconst 4, 1) := by decide +kernel
theorem dL_built_192 : decode cL_built 192 = .ok (.bipush 97, 2) := by decide +kernel
theorem dL_built_194 : decode cL_built 194 = .ok (.iastore, 1) := by decide +kernel
theorem dL_built_195 : decode cL_built 195 = .ok (.dup, 1) := by decide +kernel
theorem dL_built_196 : decode cL_built 196 = .ok (.iconst 5, 1) := by decide +kernel
theorem dL_built_197 : decode cL_built 197 = .ok (.bipush 45, 2) := by decide +kernel
theorem dL_built_199 : decode cL_built 199 = .ok (.iastore, 1) := by decide +kernel
theorem dL_built_200 : decode cL_built 200 = .ok (.dup, 1) := by decide +kernel
theorem dL_built_201 : decode cL_built 201 = .ok (.bipush 6, 2) := by decide +kernel
theorem dL_built_203 : decode cL_built 203 = .ok (.bipush 115, 2) := by decide +kernel
theorem dL_built_205 : decode cL_built 205 = .ok (.iastore, 1) := by decide +kernel
theorem dL_built_206 : decode cL_built 206 = .ok (.dup, 1) := by decide +kernel
theorem dL_built_207 : decode cL_built 207 = .ok (.bipush 7, 2) := by decide +kernel
theorem dL_built_209 : decode cL_built 209 = .ok (.bipush 42, 2) := by decide +kernel
theorem dL_built_211 : decode cL_built 211 = .ok (.iastore, 1) := by decide +kernel
theorem dL_built_212 : decode cL_built 212 = .ok (.dup, 1) := by decide +kernel
theorem dL_built_213 : decode cL_built 213 = .ok (.bipush 8, 2) := by decide +kernel
theorem dL_built_215 : decode cL_built 215 = .ok (.bipush 52, 2) := by decide +kernel
theorem dL_built_217 : decode cL_built 217 = .ok (.iastore, 1) := by decide +kernel
theorem dL_built_218 : decode cL_built 218 = .ok (.dup, 1) := by decide +kernel
theorem dL_built_219 : decode cL_built 219 = .ok (.bipush 9, 2) := by decide +kernel
theorem dL_built_221 : decode cL_built 221 = .ok (.bipush 43, 2) := by decide +kernel
theorem dL_built_223 : decode cL_built 223 = .ok (.iastore, 1) := by decide +kernel
theorem dL_built_224 : decode cL_built 224 = .ok (.dup, 1) := by decide +kernel
theorem dL_built_225 : decode cL_built 225 = .ok (.bipush 10, 2) := by decide +kernel
theorem dL_built_227 : decode cL_built 227 = .ok (.bipush 40, 2) := by decide +kernel
theorem dL_built_229 : decode cL_built 229 = .ok (.iastore, 1) := by decide +kernel
theorem dL_built_230 : decode cL_built 230 = .ok (.dup, 1) := by decide +kernel
theorem dL_built_231 : decode cL_built 231 = .ok (.bipush 11, 2) := by decide +kernel
theorem dL_built_233 : decode cL_built 233 = .ok (.bipush 110, 2) := by decide +kernel
theorem dL_built_235 : decode cL_built 235 = .ok (.iastore, 1) := by decide +kernel
theorem dL_built_236 : decode cL_built 236 = .ok (.dup, 1) := by decide +kernel
theorem dL_built_237 : decode cL_built 237 = .ok (.bipush 12, 2) := by decide +kernel
theorem dL_built_239 : decode cL_built 239 = .ok (.bipush 45, 2) := by decide +kernel
theorem dL_built_241 : decode cL_built 241 = .ok (.iastore, 1) := by decide +kernel
theorem dL_built_242 : decode cL_built 242 = .ok (.dup, 1) := by decide +kernel
theorem dL_built_243 : decode cL_built 243 = .ok (.bipush 13, 2) := by decide +kernel
theorem dL_built_245 : decode cL_built 245 = .ok (.bipush 104, 2) := by decide +kernel
theorem dL_built_247 : decode cL_built 247 = .ok (.iastore, 1) := by decide +kernel
theorem dL_built_248 : decode cL_built 248 = .ok (.dup, 1) := by decide +kernel
theorem dL_built_249 : decode cL_built 249 = .ok (.bipush 14, 2) := by decide +kernel
theorem dL_built_251 : decode cL_built 251 = .ok (.bipush 41, 2) := by decide +kernel
theorem dL_built_253 : decode cL_built 253 = .ok (.iastore, 1) := by decide +kernel
theorem dL_built_254 : decode cL_built 254 = .ok (.dup, 1) := by decide +kernel
theorem dL_built_255 : decode cL_built 255 = .ok (.bipush 15, 2) := by decide +kernel
theorem dL_built_257 : decode cL_built 257 = .ok (.bipush 47, 2) := by decide +kernel
theorem dL_built_259 : decode cL_built 259 = .ok (.iastore, 1) := by decide +kernel
theorem dL_built_260 : decode cL_built 260 = .ok (.dup, 1) := by decide +kernel
theorem dL_built_261 : decode cL_built 261 = .ok (.bipush 16, 2) := by decide +kernel
theorem dL_built_263 : decode cL_built 263 = .ok (.bipush 53, 2) := by decide +kernel
theorem dL_built_265 : decode cL_built 265 = .ok (.iastore, 1) := by decide +kernel
theorem dL_built_266 : decode cL_built 266 = .ok (.dup, 1) := by decide +kernel
theorem dL_built_267 : decode cL_built 267 = .ok (.bipush 17, 2) := by decide +kernel
theorem dL_built_269 : decode cL_built 269 = .ok (.bipush 43, 2) := by decide +kernel
theorem dL_built_271 : decode cL_built 271 = .ok (.iastore, 1) := by decide +kernel
theorem dL_built_272 : decode cL_built 272 = .ok (.dup, 1) := by decide +kernel
theorem dL_built_273 : decode cL_built 273 = .ok (.bipush 18, 2) := by decide +kernel
theorem dL_built_275 : decode cL_built 275 = .ok (.bipush 108, 2) := by decide +kernel
theorem dL_built_277 : decode cL_built 277 = .ok (.iastore, 1) := by decide +kernel
theorem dL_built_278 : decode cL_built 278 = .ok (.dup, 1) := by decide +kernel
theorem dL_built_279 : decode cL_built 279 = .ok (.bipush 19, 2) := by decide +kernel
theorem dL_built_281 : decode cL_built 281 = .ok (.bipush 37, 2) := by decide +kernel
theorem dL_built_283 : decode cL_built 283 = .ok (.iastore, 1) := by decide +kernel
theorem dL_built_284 : decode cL_built 284 = .ok (.dup, 1) := by decide +kernel
theorem dL_built_285 : decode cL_built 285 = .ok (.bipush 20, 2) := by decide +kernel
theorem dL_built_287 : decode cL_built 287 = .ok (.bipush 50, 2) := by decide +kernel
theorem dL_built_289 : decode cL_built 289 = .ok (.iastore, 1) := by decide +kernel
theorem dL_built_290 : decode cL_built 290 = .ok (.astore_n 2, 1) := by decide +kernel
theorem dL_built_291 : decode cL_built 291 = .ok (.aload_n 0, 1) := by decide +kernel
theorem dL_built_292 : decode cL_built 292 = .ok (.aload_n 2, 1) := by decide +kernel
theorem dL_built_293 : decode cL_built 293 = .ok (.aload_n 2, 1) := by decide +kernel
theorem dL_built_294 : decode cL_built 294 = .ok (.arraylength, 1) := by decide +kernel
theorem dL_built_295 : decode cL_built 295 = .ok (.invokestatic 50, 3) := by decide +kernel
theorem dL_built_298 : decode cL_built 298 = .ok (.ifCond .eq 15, 3) := by decide +kernel
theorem dL_built_301 : decode cL_built 301 = .ok (.aload_n 0, 1) := by decide +kernel
theorem dL_built_302 : decode cL_built 302 = .ok (.invokevirtual 54, 3) := by decide +kernel
theorem dL_built_305 : decode cL_built 305 = .ok (.iconst 1, 1) := by decide +kernel
theorem dL_built_306 : decode cL_built 306 = .ok (.if_icmp .ne 7, 3) := by decide +kernel
theorem dL_built_309 : decode cL_built 309 = .ok (.iconst 1, 1) := by decide +kernel
theorem dL_built_310 : decode cL_built 310 = .ok (.goto 4, 3) := by decide +kernel
theorem dL_built_313 : decode cL_built 313 = .ok (.iconst 0, 1) := by decide +kernel
theorem dL_built_314 : decode cL_built 314 = .ok (.ireturn, 1) := by decide +kernel
theorem dL_put_0 : decode cL_put 0 = .ok (.aload_n 0, 1) := by decide +kernel
theorem dL_put_1 : decode cL_put 1 = .ok (.iload_n 1, 1) := by decide +kernel
theorem dL_put_2 : decode cL_put 2 = .ok (.iconst 0, 1) := by decide +kernel
theorem dL_put_3 : decode cL_put 3 = .ok (.aload_n 2, 1) := by decide +kernel
theorem dL_put_4 : decode cL_put 4 = .ok (.arraylength, 1) := by decide +kernel
theorem dL_put_5 : decode cL_put 5 = .ok (.invokevirtual 58, 3) := by decide +kernel
theorem dL_put_8 : decode cL_put 8 = .ok (.iconst 1, 1) := by decide +kernel
theorem dL_put_9 : decode cL_put 9 = .ok (.if_icmp .eq 5, 3) := by decide +kernel
theorem dL_put_12 : decode cL_put 12 = .ok (.iconst 0, 1) := by decide +kernel
theorem dL_put_13 : decode cL_put 13 = .ok (.ireturn, 1) := by decide +kernel
theorem dL_put_14 : decode cL_put 14 = .ok (.iconst 0, 1) := by decide +kernel
theorem dL_put_15 : decode cL_put 15 = .ok (.istore_n 3, 1) := by decide +kernel
theorem dL_put_16 : decode cL_put 16 = .ok (.iload_n 3, 1) := by decide +kernel
theorem dL_put_17 : decode cL_put 17 = .ok (.aload_n 2, 1) := by decide +kernel
theorem dL_put_18 : decode cL_put 18 = .ok (.arraylength, 1) := by decide +kernel
theorem dL_put_19 : decode cL_put 19 = .ok (.if_icmp .ge 25, 3) := by decide +kernel
theorem dL_put_22 : decode cL_put 22 = .ok (.aload_n 0, 1) := by decide +kernel
theorem dL_put_23 : decode cL_put 23 = .ok (.iload_n 1, 1) := by decide +kernel
theorem dL_put_24 : decode cL_put 24 = .ok (.iload_n 3, 1) := by decide +kernel
theorem dL_put_25 : decode cL_put 25 = .ok (.aload_n 2, 1) := by decide +kernel
theorem dL_put_26 : decode cL_put 26 = .ok (.iload_n 3, 1) := by decide +kernel
theorem dL_put_27 : decode cL_put 27 = .ok (.iaload, 1) := by decide +kernel
theorem dL_put_28 : decode cL_put 28 = .ok (.i2l, 1) := by decide +kernel
theorem dL_put_29 : decode cL_put 29 = .ok (.invokevirtual 61, 3) := by decide +kernel
theorem dL_put_32 : decode cL_put 32 = .ok (.iconst 1, 1) := by decide +kernel
theorem dL_put_33 : decode cL_put 33 = .ok (.if_icmp .eq 5, 3) := by decide +kernel
theorem dL_put_36 : decode cL_put 36 = .ok (.iconst 0, 1) := by decide +kernel
theorem dL_put_37 : decode cL_put 37 = .ok (.ireturn, 1) := by decide +kernel
theorem dL_put_38 : decode cL_put 38 = .ok (.iinc 3 1, 3) := by decide +kernel
theorem dL_put_41 : decode cL_put 41 = .ok (.goto (-25), 3) := by decide +kernel
theorem dL_put_44 : decode cL_put 44 = .ok (.iconst 1, 1) := by decide +kernel
theorem dL_put_45 : decode cL_put 45 = .ok (.ireturn, 1) := by decide +kernel
theorem dL_law_0 : decode cL_law 0 = .ok (.new 8, 3) := by decide +kernel
theorem dL_law_3 : decode cL_law 3 = .ok (.dup, 1) := by decide +kernel
theorem dL_law_4 : decode cL_law 4 = .ok (.invokespecial 65, 3) := by decide +kernel
theorem dL_law_7 : decode cL_law 7 = .ok (.astore_n 1, 1) := by decide +kernel
theorem dL_law_8 : decode cL_law 8 = .ok (.aload_n 1, 1) := by decide +kernel
theorem dL_law_9 : decode cL_law 9 = .ok (.aload_n 0, 1) := by decide +kernel
theorem dL_law_10 : decode cL_law 10 = .ok (.invokestatic 66, 3) := by decide +kernel
theorem dL_law_13 : decode cL_law 13 = .ok (.ifCond .ne 5, 3) := by decide +kernel
theorem dL_law_16 : decode cL_law 16 = .ok (.iconst 0, 1) := by decide +kernel
theorem dL_law_17 : decode cL_law 17 = .ok (.ireturn, 1) := by decide +kernel
theorem dL_law_18 : decode cL_law 18 = .ok (.new 70, 3) := by decide +kernel
theorem dL_law_21 : decode cL_law 21 = .ok (.dup, 1) := by decide +kernel
theorem dL_law_22 : decode cL_law 22 = .ok (.aload_n 0, 1) := by decide +kernel
theorem dL_law_23 : decode cL_law 23 = .ok (.invokespecial 72, 3) := by decide +kernel
theorem dL_law_26 : decode cL_law 26 = .ok (.astore_n 2, 1) := by decide +kernel
theorem dL_law_27 : decode cL_law 27 = .ok (.aload_n 2, 1) := by decide +kernel
theorem dL_law_28 : decode cL_law 28 = .ok (.invokevirtual 75, 3) := by decide +kernel
theorem dL_law_31 : decode cL_law 31 = .ok (.astore_n 3, 1) := by decide +kernel
theorem dL_law_32 : decode cL_law 32 = .ok (.aload_n 1, 1) := by decide +kernel
theorem dL_law_33 : decode cL_law 33 = .ok (.invokevirtual 79, 3) := by decide +kernel
theorem dL_law_36 : decode cL_law 36 = .ok (.ifCond .eq 5, 3) := by decide +kernel
theorem dL_law_39 : decode cL_law 39 = .ok (.iconst 0, 1) := by decide +kernel
theorem dL_law_40 : decode cL_law 40 = .ok (.ireturn, 1) := by decide +kernel
theorem dL_law_41 : decode cL_law 41 = .ok (.bipush 9, 2) := by decide +kernel
theorem dL_law_43 : decode cL_law 43 = .ok (.iconst 4, 1) := by decide +kernel
theorem dL_law_44 : decode cL_law 44 = .ok (.multianewarray 82 2, 4) := by decide +kernel
theorem dL_law_48 : decode cL_law 48 = .ok (.astore 4, 2) := by decide +kernel
theorem dL_law_50 : decode cL_law 50 = .ok (.iconst 0, 1) := by decide +kernel
theorem dL_law_51 : decode cL_law 51 = .ok (.istore 5, 2) := by decide +kernel
theorem dL_law_53 : decode cL_law 53 = .ok (.iload 5, 2) := by decide +kernel
theorem dL_law_55 : decode cL_law 55 = .ok (.bipush 9, 2) := by decide +kernel
theorem dL_law_57 : decode cL_law 57 = .ok (.if_icmp .ge 40, 3) := by decide +kernel
theorem dL_law_60 : decode cL_law 60 = .ok (.iconst 0, 1) := by decide +kernel
theorem dL_law_61 : decode cL_law 61 = .ok (.istore 6, 2) := by decide +kernel
theorem dL_law_63 : decode cL_law 63 = .ok (.iload 6, 2) := by decide +kernel
theorem dL_law_65 : decode cL_law 65 = .ok (.iconst 4, 1) := by decide +kernel
theorem dL_law_66 : decode cL_law 66 = .ok (.if_icmp .ge 25, 3) := by decide +kernel
theorem dL_law_69 : decode cL_law 69 = .ok (.aload 4, 2) := by decide +kernel
theorem dL_law_71 : decode cL_law 71 = .ok (.iload 5, 2) := by decide +kernel
theorem dL_law_73 : decode cL_law 73 = .ok (.aaload, 1) := by decide +kernel
theorem dL_law_74 : decode cL_law 74 = .ok (.iload 6, 2) := by decide +kernel
theorem dL_law_76 : decode cL_law 76 = .ok (.aload_n 1, 1) := by decide +kernel
theorem dL_law_77 : decode cL_law 77 = .ok (.iload 5, 2) := by decide +kernel
theorem dL_law_79 : decode cL_law 79 = .ok (.iload 6, 2) := by decide +kernel
theorem dL_law_81 : decode cL_law 81 = .ok (.invokevirtual 84, 3) := by decide +kernel
theorem dL_law_84 : decode cL_law 84 = .ok (.iastore, 1) := by decide +kernel
theorem dL_law_85 : decode cL_law 85 = .ok (.iinc 6 1, 3) := by decide +kernel
theorem dL_law_88 : decode cL_law 88 = .ok (.goto (-25), 3) := by decide +kernel
theorem dL_law_91 : decode cL_law 91 = .ok (.iinc 5 1, 3) := by decide +kernel
theorem dL_law_94 : decode cL_law 94 = .ok (.goto (-41), 3) := by decide +kernel
theorem dL_law_97 : decode cL_law 97 = .ok (.aload_n 3, 1) := by decide +kernel
theorem dL_law_98 : decode cL_law 98 = .ok (.invokevirtual 87, 3) := by decide +kernel
theorem dL_law_101 : decode cL_law 101 = .ok (.ifCond .eq 7, 3) := by decide +kernel
theorem dL_law_104 : decode cL_law 104 = .ok (.iconst 0, 1) := by decide +kernel
theorem dL_law_105 : decode cL_law 105 = .ok (.goto 24, 3) := by decide +kernel
theorem dL_law_108 : decode cL_law 108 = .ok (.aload_n 3, 1) := by decide +kernel
theorem dL_law_109 : decode cL_law 109 = .ok (.aload_n 0, 1) := by decide +kernel
theorem dL_law_110 : decode cL_law 110 = .ok (.bipush 14, 2) := by decide +kernel
theorem dL_law_112 : decode cL_law 112 = .ok (.invokestatic 17, 3) := by decide +kernel
theorem dL_law_115 : decode cL_law 115 = .ok (.aload_n 3, 1) := by decide +kernel
theorem dL_law_116 : decode cL_law 116 = .ok (.invokevirtual 93, 3) := by decide +kernel
theorem dL_law_119 : decode cL_law 119 = .ok (.irem, 1) := by decide +kernel
theorem dL_law_120 : decode cL_law 120 = .ok (.invokevirtual 96, 3) := by decide +kernel
theorem dL_law_123 : decode cL_law 123 = .ok (.checkcast 100, 3) := by decide +kernel
theorem dL_law_126 : decode cL_law 126 = .ok (.invokevirtual 102, 3) := by decide +kernel
theorem dL_law_129 : decode cL_law 129 = .ok (.istore 5, 2) := by decide +kernel
theorem dL_law_131 : decode cL_law 131 = .ok (.bipush 9, 2) := by decide +kernel
theorem dL_law_133 : decode cL_law 133 = .ok (.newarray .int, 2) := by decide +kernel
theorem dL_law_135 : decode cL_law 135 = .ok (.astore 6, 2) := by decide +kernel
theorem dL_law_137 : decode cL_law 137 = .ok (.iconst 0, 1) := by decide +kernel
theorem dL_law_138 : decode cL_law 138 = .ok (.istore 7, 2) := by decide +kernel
theorem dL_law_140 : decode cL_law 140 = .ok (.iload 7, 2) := by decide +kernel
theorem dL_law_142 : decode cL_law 142 = .ok (.bipush 9, 2) := by decide +kernel
theorem dL_law_144 : decode cL_law 144 = .ok (.if_icmp .ge 113, 3) := by decide +kernel
theorem dL_law_147 : decode cL_law 147 = .ok (.aload_n 3, 1) := by decide +kernel
theorem dL_law_148 : decode cL_law 148 = .ok (.invokevirtual 87, 3) := by decide +kernel
theorem dL_law_151 : decode cL_law 151 = .ok (.ifCond .ne 14, 3) := by decide +kernel
theorem dL_law_154 : decode cL_law 154 = .ok (.aload 6, 2) := by decide +kernel
theorem dL_law_156 : decode cL_law 156 = .ok (.iload 7, 2) := by decide +kernel
theorem dL_law_158 : decode cL_law 158 = .ok (.aload_n 1, 1) := by decide +kernel
theorem dL_law_159 : decode cL_law 159 = .ok (.iload 5, 2) := by decide +kernel
theorem dL_law_161 : decode cL_law 161 = .ok (.invokevirtual 105, 3) := by decide +kernel
theorem dL_law_164 : decode cL_law 164 = .ok (.iastore, 1) := by decide +kernel
theorem dL_law_165 : decode cL_law 165 = .ok (.iload 7, 2) := by decide +kernel
theorem dL_law_167 : decode cL_law 167 = .ok (.bipush 8, 2) := by decide +kernel
theorem dL_law_169 : decode cL_law 169 = .ok (.if_icmp .ge 19, 3) := by decide +kernel
theorem dL_law_172 : decode cL_law 172 = .ok (.aload_n 1, 1) := by decide +kernel
theorem dL_law_173 : decode cL_law 173 = .ok (.invokevirtual 108, 3) := by decide +kernel
theorem dL_law_176 : decode cL_law 176 = .ok (.aload 4, 2) := by decide +kernel
theorem dL_law_178 : decode cL_law 178 = .ok (.iload 7, 2) := by decide +kernel
theorem dL_law_180 : decode cL_law 180 = .ok (.iconst 1, 1) := by decide +kernel
theorem dL_law_181 : decode cL_law 181 = .ok (.iadd, 1) := by decide +kernel
theorem dL_law_182 : decode cL_law 182 = .ok (.aaload, 1) := by decide +kernel
theorem dL_law_183 : decode cL_law 183 = .ok (.iconst 2, 1) := by decide +kernel
theorem dL_law_184 : decode cL_law 184 = .ok (.iaload, 1) := by decide +kernel
theorem dL_law_185 : decode cL_law 185 = .ok (.if_icmp .ne 64, 3) := by decide +kernel
theorem dL_law_188 : decode cL_law 188 = .ok (.iload 7, 2) := by decide +kernel
theorem dL_law_190 : decode cL_law 190 = .ok (.bipush 8, 2) := by decide +kernel
theorem dL_law_192 : decode cL_law 192 = .ok (.if_icmp .ge 59, 3) := by decide +kernel
theorem dL_law_195 : decode cL_law 195 = .ok (.aload_n 1, 1) := by decide +kernel
theorem dL_law_196 : decode cL_law 196 = .ok (.iconst 0, 1) := by decide +kernel
theorem dL_law_197 : decode cL_law 197 = .ok (.iconst 0, 1) := by decide +kernel
theorem dL_law_198 : decode cL_law 198 = .ok (.invokevirtual 84, 3) := by decide +kernel
theorem dL_law_201 : decode cL_law 201 = .ok (.aload 4, 2) := by decide +kernel
theorem dL_law_203 : decode cL_law 203 = .ok (.iload 7, 2) := by decide +kernel
theorem dL_law_205 : decode cL_law 205 = .ok (.iconst 1, 1) := by decide +kernel
theorem dL_law_206 : decode cL_law 206 = .ok (.iadd, 1) := by decide +kernel
theorem dL_law_207 : decode cL_law 207 = .ok (.aaload, 1) := by decide +kernel
theorem dL_law_208 : decode cL_law 208 = .ok (.iconst 0, 1) := by decide +kernel
theorem dL_law_209 : decode cL_law 209 = .ok (.iaload, 1) := by decide +kernel
theorem dL_law_210 : decode cL_law 210 = .ok (.if_icmp .ne 39, 3) := by decide +kernel
theorem dL_law_213 : decode cL_law 213 = .ok (.aload_n 1, 1) := by decide +kernel
theorem dL_law_214 : decode cL_law 214 = .ok (.iconst 0, 1) := by decide +kernel
theorem dL_law_215 : decode cL_law 215 = .ok (.iconst 1, 1) := by decide +kernel
theorem dL_law_216 : decode cL_law 216 = .ok (.invokevirtual 84, 3) := by decide +kernel
theorem dL_law_219 : decode cL_law 219 = .ok (.aload 4, 2) := by decide +kernel
theorem dL_law_221 : decode cL_law 221 = .ok (.iload 7, 2) := by decide +kernel
theorem dL_law_223 : decode cL_law 223 = .ok (.iconst 1, 1) := by decide +kernel
theorem dL_law_224 : decode cL_law 224 = .ok (.iadd, 1) := by decide +kernel
theorem dL_law_225 : decode cL_law 225 = .ok (.aaload, 1) := by decide +kernel
theorem dL_law_226 : decode cL_law 226 = .ok (.iconst 1, 1) := by decide +kernel
theorem dL_law_227 : decode cL_law 227 = .ok (.iaload, 1) := by decide +kernel
theorem dL_law_228 : decode cL_law 228 = .ok (.if_icmp .ne 21, 3) := by decide +kernel
theorem dL_law_231 : decode cL_law 231 = .ok (.aload_n 1, 1) := by decide +kernel
theorem dL_law_232 : decode cL_law 232 = .ok (.iconst 0, 1) := by decide +kernel
theorem dL_law_233 : decode cL_law 233 = .ok (.iconst 3, 1) := by decide +kernel
theorem dL_law_234 : decode cL_law 234 = .ok (.invokevirtual 84, 3) := by decide +kernel
theorem dL_law_237 : decode cL_law 237 = .ok (.aload 4, 2) := by decide +kernel
theorem dL_law_239 : decode cL_law 239 = .ok (.iload 7, 2) := by decide +kernel
theorem dL_law_241 : decode cL_law 241 = .ok (.iconst 1, 1) := by decide +kernel
theorem dL_law_242 : decode cL_law 242 = .ok (.iadd, 1) := by decide +kernel
theorem dL_law_243 : decode cL_law 243 = .ok (.aaload, 1) := by decide +kernel
theorem dL_law_244 : decode cL_law 244 = .ok (.iconst 3, 1) := by decide +kernel
theorem dL_law_245 : decode cL_law 245 = .ok (.iaload, 1) := by decide +kernel
theorem dL_law_246 : decode cL_law 246 = .ok (.if_icmp .eq 5, 3) := by decide +kernel
theorem dL_law_249 : decode cL_law 249 = .ok (.iconst 0, 1) := by decide +kernel
theorem dL_law_250 : decode cL_law 250 = .ok (.ireturn, 1) := by decide +kernel
theorem dL_law_251 : decode cL_law 251 = .ok (.iinc 7 1, 3) := by decide +kernel
theorem dL_law_254 : decode cL_law 254 = .ok (.goto (-114), 3) := by decide +kernel
theorem dL_law_257 : decode cL_law 257 = .ok (.aload_n 1, 1) := by decide +kernel
theorem dL_law_258 : decode cL_law 258 = .ok (.iconst 4, 1) := by decide +kernel
theorem dL_law_259 : decode cL_law 259 = .ok (.invokevirtual 111, 3) := by decide +kernel
theorem dL_law_262 : decode cL_law 262 = .ok (.bipush 8, 2) := by decide +kernel
theorem dL_law_264 : decode cL_law 264 = .ok (.if_icmp .ne 39, 3) := by decide +kernel
theorem dL_law_267 : decode cL_law 267 = .ok (.aload_n 1, 1) := by decide +kernel
theorem dL_law_268 : decode cL_law 268 = .ok (.iconst 3, 1) := by decide +kernel
theorem dL_law_269 : decode cL_law 269 = .ok (.invokevirtual 111, 3) := by decide +kernel
theorem dL_law_272 : decode cL_law 272 = .ok (.aload_n 3, 1) := by decide +kernel
theorem dL_law_273 : decode cL_law 273 = .ok (.invokevirtual 87, 3) := by decide +kernel
theorem dL_law_276 : decode cL_law 276 = .ok (.ifCond .eq 7, 3) := by decide +kernel
theorem dL_law_279 : decode cL_law 279 = .ok (.iconst 0, 1) := by decide +kernel
theorem dL_law_280 : decode cL_law 280 = .ok (.goto 5, 3) := by decide +kernel
theorem dL_law_283 : decode cL_law 283 = .ok (.bipush 9, 2) := by decide +kernel
theorem dL_law_285 : decode cL_law 285 = .ok (.if_icmp .ne 18, 3) := by decide +kernel
theorem dL_law_288 : decode cL_law 288 = .ok (.aload_n 1, 1) := by decide +kernel
theorem dL_law_289 : decode cL_law 289 = .ok (.invokevirtual 114, 3) := by decide +kernel
theorem dL_law_292 : decode cL_law 292 = .ok (.ifCond .ne 11, 3) := by decide +kernel
theorem dL_law_295 : decode cL_law 295 = .ok (.aload_n 1, 1) := by decide +kernel
theorem dL_law_296 : decode cL_law 296 = .ok (.iconst 4, 1) := by decide +kernel
theorem dL_law_297 : decode cL_law 297 = .ok (.invokevirtual 111, 3) := by decide +kernel
theorem dL_law_300 : decode cL_law 300 = .ok (.ifCond .eq 5, 3) := by decide +kernel
theorem dL_law_303 : decode cL_law 303 = .ok (.iconst 0, 1) := by decide +kernel
theorem dL_law_304 : decode cL_law 304 = .ok (.ireturn, 1) := by decide +kernel
theorem dL_law_305 : decode cL_law 305 = .ok (.aload_n 3, 1) := by decide +kernel
theorem dL_law_306 : decode cL_law 306 = .ok (.invokevirtual 87, 3) := by decide +kernel
theorem dL_law_309 : decode cL_law 309 = .ok (.ifCond .ne 123, 3) := by decide +kernel
theorem dL_law_312 : decode cL_law 312 = .ok (.aload_n 1, 1) := by decide +kernel
theorem dL_law_313 : decode cL_law 313 = .ok (.iconst 0, 1) := by decide +kernel
theorem dL_law_314 : decode cL_law 314 = .ok (.aload 6, 2) := by decide +kernel
theorem dL_law_316 : decode cL_law 316 = .ok (.invokestatic 117, 3) := by decide +kernel
theorem dL_law_319 : decode cL_law 319 = .ok (.ifCond .eq 15, 3) := by decide +kernel
theorem dL_law_322 : decode cL_law 322 = .ok (.aload_n 1, 1) := by decide +kernel
theorem dL_law_323 : decode cL_law 323 = .ok (.iconst 0, 1) := by decide +kernel
theorem dL_law_324 : decode cL_law 324 = .ok (.iload 5, 2) := by decide +kernel
theorem dL_law_326 : decode cL_law 326 = .ok (.invokevirtual 120, 3) := by decide +kernel
theorem dL_law_329 : decode cL_law 329 = .ok (.bipush (-2), 2) := by decide +kernel
theorem dL_law_331 : decode cL_law 331 = .ok (.if_icmp .eq 5, 3) := by decide +kernel
theorem dL_law_334 : decode cL_law 334 = .ok (.iconst 0, 1) := by decide +kernel
theorem dL_law_335 : decode cL_law 335 = .ok (.ireturn, 1) := by decide +kernel
theorem dL_law_336 : decode cL_law 336 = .ok (.aload_n 3, 1) := by decide +kernel
theorem dL_law_337 : decode cL_law 337 = .ok (.aload_n 0, 1) := by decide +kernel
theorem dL_law_338 : decode cL_law 338 = .ok (.bipush 14, 2) := by decide +kernel
theorem dL_law_340 : decode cL_law 340 = .ok (.invokestatic 17, 3) := by decide +kernel
theorem dL_law_343 : decode cL_law 343 = .ok (.iconst 5, 1) := by decide +kernel
theorem dL_law_344 : decode cL_law 344 = .ok (.ishr, 1) := by decide +kernel
theorem dL_law_345 : decode cL_law 345 = .ok (.aload_n 3, 1) := by decide +kernel
theorem dL_law_346 : decode cL_law 346 = .ok (.invokevirtual 93, 3) := by decide +kernel
theorem dL_law_349 : decode cL_law 349 = .ok (.irem, 1) := by decide +kernel
theorem dL_law_350 : decode cL_law 350 = .ok (.invokevirtual 96, 3) := by decide +kernel
theorem dL_law_353 : decode cL_law 353 = .ok (.checkcast 100, 3) := by decide +kernel
theorem dL_law_356 : decode cL_law 356 = .ok (.invokevirtual 102, 3) := by decide +kernel
theorem dL_law_359 : decode cL_law 359 = .ok (.istore 7, 2) := by decide +kernel
theorem dL_law_361 : decode cL_law 361 = .ok (.aload_n 1, 1) := by decide +kernel
theorem dL_law_362 : decode cL_law 362 = .ok (.iconst 0, 1) := by decide +kernel
theorem dL_law_363 : decode cL_law 363 = .ok (.bipush 100, 2) := by decide +kernel
theorem dL_law_365 : decode cL_law 365 = .ok (.iload 5, 2) := by decide +kernel
theorem dL_law_367 : decode cL_law 367 = .ok (.imul, 1) := by decide +kernel
theorem dL_law_368 : decode cL_law 368 = .ok (.iload 7, 2) := by decide +kernel
theorem dL_law_370 : decode cL_law 370 = .ok (.iadd, 1) := by decide +kernel
theorem dL_law_371 : decode cL_law 371 = .ok (.iconst 0, 1) := by decide +kernel
theorem dL_law_372 : decode cL_law 372 = .ok (.invokevirtual 123, 3) := by decide +kernel
theorem dL_law_375 : decode cL_law 375 = .ok (.iconst 1, 1) := by decide +kernel
theorem dL_law_376 : decode cL_law 376 = .ok (.if_icmp .lt 54, 3) := by decide +kernel
theorem dL_law_379 : decode cL_law 379 = .ok (.aload_n 1, 1) := by decide +kernel
theorem dL_law_380 : decode cL_law 380 = .ok (.iconst 0, 1) := by decide +kernel
theorem dL_law_381 : decode cL_law 381 = .ok (.bipush 100, 2) := by decide +kernel
theorem dL_law_383 : decode cL_law 383 = .ok (.iload 5, 2) := by decide +kernel
theorem dL_law_385 : decode cL_law 385 = .ok (.imul, 1) := by decide +kernel
theorem dL_law_386 : decode cL_law 386 = .ok (.iload 7, 2) := by decide +kernel
theorem dL_law_388 : decode cL_law 388 = .ok (.iadd, 1) := by decide +kernel
theorem dL_law_389 : decode cL_law 389 = .ok (.iconst 1, 1) := by decide +kernel
theorem dL_law_390 : decode cL_law 390 = .ok (.invokevirtual 123, 3) := by decide +kernel
theorem dL_law_393 : decode cL_law 393 = .ok (.aload_n 2, 1) := by decide +kernel
theorem dL_law_394 : decode cL_law 394 = .ok (.getfield 126, 3) := by decide +kernel
theorem dL_law_397 : decode cL_law 397 = .ok (.iload 7, 2) := by decide +kernel
theorem dL_law_399 : decode cL_law 399 = .ok (.iaload, 1) := by decide +kernel
theorem dL_law_400 : decode cL_law 400 = .ok (.if_icmp .gt 30, 3) := by decide +kernel
theorem dL_law_403 : decode cL_law 403 = .ok (.aload_n 1, 1) := by decide +kernel
theorem dL_law_404 : decode cL_law 404 = .ok (.iconst 0, 1) := by decide +kernel
theorem dL_law_405 : decode cL_law 405 = .ok (.bipush 100, 2) := by decide +kernel
theorem dL_law_407 : decode cL_law 407 = .ok (.iload 5, 2) := by decide +kernel
theorem dL_law_409 : decode cL_law 409 = .ok (.imul, 1) := by decide +kernel
theorem dL_law_410 : decode cL_law 410 = .ok (.iload 7, 2) := by decide +kernel
theorem dL_law_412 : decode cL_law 412 = .ok (.iadd, 1) := by decide +kernel
theorem dL_law_413 : decode cL_law 413 = .ok (.iconst 2, 1) := by decide +kernel
theorem dL_law_414 : decode cL_law 414 = .ok (.invokevirtual 123, 3) := by decide +kernel
theorem dL_law_417 : decode cL_law 417 = .ok (.aload_n 2, 1) := by decide +kernel
theorem dL_law_418 : decode cL_law 418 = .ok (.getfield 130, 3) := by decide +kernel
theorem dL_law_421 : decode cL_law 421 = .ok (.iload 7, 2) := by decide +kernel
theorem dL_law_423 : decode cL_law 423 = .ok (.iaload, 1) := by decide +kernel
theorem dL_law_424 : decode cL_law 424 = .ok (.ishr, 1) := by decide +kernel
theorem dL_law_425 : decode cL_law 425 = .ok (.iconst 1, 1) := by decide +kernel
theorem dL_law_426 : decode cL_law 426 = .ok (.iand, 1) := by decide +kernel
theorem dL_law_427 : decode cL_law 427 = .ok (.ifCond .ne 5, 3) := by decide +kernel
theorem dL_law_430 : decode cL_law 430 = .ok (.iconst 0, 1) := by decide +kernel
theorem dL_law_431 : decode cL_law 431 = .ok (.ireturn, 1) := by decide +kernel
theorem dL_law_432 : decode cL_law 432 = .ok (.bipush 50, 2) := by decide +kernel
theorem dL_law_434 : decode cL_law 434 = .ok (.aload_n 0, 1) := by decide +kernel
theorem dL_law_435 : decode cL_law 435 = .ok (.bipush 15, 2) := by decide +kernel
theorem dL_law_437 : decode cL_law 437 = .ok (.invokestatic 17, 3) := by decide +kernel
theorem dL_law_440 : decode cL_law 440 = .ok (.bipush 50, 2) := by decide +kernel
theorem dL_law_442 : decode cL_law 442 = .ok (.irem, 1) := by decide +kernel
theorem dL_law_443 : decode cL_law 443 = .ok (.iadd, 1) := by decide +kernel
theorem dL_law_444 : decode cL_law 444 = .ok (.istore 7, 2) := by decide +kernel
theorem dL_law_446 : decode cL_law 446 = .ok (.aload_n 1, 1) := by decide +kernel
theorem dL_law_447 : decode cL_law 447 = .ok (.iload 7, 2) := by decide +kernel
theorem dL_law_449 : decode cL_law 449 = .ok (.invokevirtual 133, 3) := by decide +kernel
theorem dL_law_452 : decode cL_law 452 = .ok (.istore 8, 2) := by decide +kernel
theorem dL_law_454 : decode cL_law 454 = .ok (.aload_n 1, 1) := by decide +kernel
theorem dL_law_455 : decode cL_law 455 = .ok (.iload 7, 2) := by decide +kernel
theorem dL_law_457 : decode cL_law 457 = .ok (.invokevirtual 136, 3) := by decide +kernel
theorem dL_law_460 : decode cL_law 460 = .ok (.lstore 9, 2) := by decide +kernel
theorem dL_law_462 : decode cL_law 462 = .ok (.iload 8, 2) := by decide +kernel
theorem dL_law_464 : decode cL_law 464 = .ok (.ifCond .ge 7, 3) := by decide +kernel
theorem dL_law_467 : decode cL_law 467 = .ok (.iconst 1, 1) := by decide +kernel
theorem dL_law_468 : decode cL_law 468 = .ok (.goto 4, 3) := by decide +kernel
theorem dL_law_471 : decode cL_law 471 = .ok (.iconst 0, 1) := by decide +kernel
theorem dL_law_472 : decode cL_law 472 = .ok (.lload 9, 2) := by decide +kernel
theorem dL_law_474 : decode cL_law 474 = .ok (.lconst 0, 1) := by decide +kernel
theorem dL_law_475 : decode cL_law 475 = .ok (.lcmp, 1) := by decide +kernel
theorem dL_law_476 : decode cL_law 476 = .ok (.ifCond .ge 7, 3) := by decide +kernel
theorem dL_law_479 : decode cL_law 479 = .ok (.iconst 1, 1) := by decide +kernel
theorem dL_law_480 : decode cL_law 480 = .ok (.goto 4, 3) := by decide +kernel
theorem dL_law_483 : decode cL_law 483 = .ok (.iconst 0, 1) := by decide +kernel
theorem dL_law_484 : decode cL_law 484 = .ok (.if_icmp .ne 24, 3) := by decide +kernel
theorem dL_law_487 : decode cL_law 487 = .ok (.iload 8, 2) := by decide +kernel
theorem dL_law_489 : decode cL_law 489 = .ok (.iconst 4, 1) := by decide +kernel
theorem dL_law_490 : decode cL_law 490 = .ok (.if_icmp .gt 18, 3) := by decide +kernel
theorem dL_law_493 : decode cL_law 493 = .ok (.iload 8, 2) := by decide +kernel
theorem dL_law_495 : decode cL_law 495 = .ok (.ifCond .lt 15, 3) := by decide +kernel
theorem dL_law_498 : decode cL_law 498 = .ok (.lload 9, 2) := by decide +kernel
theorem dL_law_500 : decode cL_law 500 = .ok (.invokestatic 140, 3) := by decide +kernel
theorem dL_law_503 : decode cL_law 503 = .ok (.iload 8, 2) := by decide +kernel
theorem dL_law_505 : decode cL_law 505 = .ok (.if_icmp .eq 5, 3) := by decide +kernel
theorem dL_law_508 : decode cL_law 508 = .ok (.iconst 0, 1) := by decide +kernel
theorem dL_law_509 : decode cL_law 509 = .ok (.ireturn, 1) := by decide +kernel
theorem dL_law_510 : decode cL_law 510 = .ok (.iload 8, 2) := by decide +kernel
theorem dL_law_512 : decode cL_law 512 = .ok (.ifCond .lt 209, 3) := by decide +kernel
theorem dL_law_515 : decode cL_law 515 = .ok (.iconst (-1), 1) := by decide +kernel
theorem dL_law_516 : decode cL_law 516 = .ok (.istore 11, 2) := by decide +kernel
theorem dL_law_518 : decode cL_law 518 = .ok (.iload 11, 2) := by decide +kernel
theorem dL_law_520 : decode cL_law 520 = .ok (.bipush 30, 2) := by decide +kernel
theorem dL_law_522 : decode cL_law 522 = .ok (.if_icmp .ge 199, 3) := by decide +kernel
theorem dL_law_525 : decode cL_law 525 = .ok (.iload 11, 2) := by decide +kernel
theorem dL_law_527 : decode cL_law 527 = .ok (.ifCond .lt 18, 3) := by decide +kernel
theorem dL_law_530 : decode cL_law 530 = .ok (.lload 9, 2) := by decide +kernel
theorem dL_law_532 : decode cL_law 532 = .ok (.iload 11, 2) := by decide +kernel
theorem dL_law_534 : decode cL_law 534 = .ok (.lshr, 1) := by decide +kernel
theorem dL_law_535 : decode cL_law 535 = .ok (.lconst 1, 1) := by decide +kernel
theorem dL_law_536 : decode cL_law 536 = .ok (.land, 1) := by decide +kernel
theorem dL_law_537 : decode cL_law 537 = .ok (.lconst 0, 1) := by decide +kernel
theorem dL_law_538 : decode cL_law 538 = .ok (.lcmp, 1) := by decide +kernel
theorem dL_law_539 : decode cL_law 539 = .ok (.ifCond .ne 6, 3) := by decide +kernel
theorem dL_law_542 : decode cL_law 542 = .ok (.goto 173, 3) := by decide +kernel
theorem dL_law_545 : decode cL_law 545 = .ok (.iconst 1, 1) := by decide +kernel
theorem dL_law_546 : decode cL_law 546 = .ok (.istore 12, 2) := by decide +kernel
theorem dL_law_548 : decode cL_law 548 = .ok (.aload_n 3, 1) := by decide +kernel
theorem dL_law_549 : decode cL_law 549 = .ok (.invokevirtual 146, 3) := by decide +kernel
theorem dL_law_552 : decode cL_law 552 = .ok (.astore 13, 2) := by decide +kernel
theorem dL_law_554 : decode cL_law 554 = .ok (.aload 13, 2) := by decide +kernel
theorem dL_law_556 : decode cL_law 556 = .ok (.invokeinterface 150 1, 5) := by decide +kernel
theorem dL_law_561 : decode cL_law 561 = .ok (.ifCond .eq 137, 3) := by decide +kernel
theorem dL_law_564 : decode cL_law 564 = .ok (.aload 13, 2) := by decide +kernel
theorem dL_law_566 : decode cL_law 566 = .ok (.invokeinterface 155 1, 5) := by decide +kernel
theorem dL_law_571 : decode cL_law 571 = .ok (.checkcast 100, 3) := by decide +kernel
theorem dL_law_574 : decode cL_law 574 = .ok (.invokevirtual 102, 3) := by decide +kernel
theorem dL_law_577 : decode cL_law 577 = .ok (.istore 14, 2) := by decide +kernel
theorem dL_law_579 : decode cL_law 579 = .ok (.aload_n 1, 1) := by decide +kernel
theorem dL_law_580 : decode cL_law 580 = .ok (.iload 14, 2) := by decide +kernel
theorem dL_law_582 : decode cL_law 582 = .ok (.iconst 1, 1) := by decide +kernel
theorem dL_law_583 : decode cL_law 583 = .ok (.invokevirtual 159, 3) := by decide +kernel
theorem dL_law_586 : decode cL_law 586 = .ok (.iload 7, 2) := by decide +kernel
theorem dL_law_588 : decode cL_law 588 = .ok (.if_icmp .ge 6, 3) := by decide +kernel
theorem dL_law_591 : decode cL_law 591 = .ok (.goto (-37), 3) := by decide +kernel
theorem dL_law_594 : decode cL_law 594 = .ok (.iload 14, 2) := by decide +kernel
theorem dL_law_596 : decode cL_law 596 = .ok (.iload 11, 2) := by decide +kernel
theorem dL_law_598 : decode cL_law 598 = .ok (.if_icmp .eq 19, 3) := by decide +kernel
theorem dL_law_601 : decode cL_law 601 = .ok (.lload 9, 2) := by decide +kernel
theorem dL_law_603 : decode cL_law 603 = .ok (.iload 14, 2) := by decide +kernel
theorem dL_law_605 : decode cL_law 605 = .ok (.lshr, 1) := by decide +kernel
theorem dL_law_606 : decode cL_law 606 = .ok (.lconst 1, 1) := by decide +kernel
theorem dL_law_607 : decode cL_law 607 = .ok (.land, 1) := by decide +kernel
theorem dL_law_608 : decode cL_law 608 = .ok (.lconst 1, 1) := by decide +kernel
theorem dL_law_609 : decode cL_law 609 = .ok (.lcmp, 1) := by decide +kernel
theorem dL_law_610 : decode cL_law 610 = .ok (.ifCond .ne 7, 3) := by decide +kernel
theorem dL_law_613 : decode cL_law 613 = .ok (.iconst 1, 1) := by decide +kernel
theorem dL_law_614 : decode cL_law 614 = .ok (.goto 4, 3) := by decide +kernel
theorem dL_law_617 : decode cL_law 617 = .ok (.iconst 0, 1) := by decide +kernel
theorem dL_law_618 : decode cL_law 618 = .ok (.istore 15, 2) := by decide +kernel
theorem dL_law_620 : decode cL_law 620 = .ok (.aload_n 2, 1) := by decide +kernel
theorem dL_law_621 : decode cL_law 621 = .ok (.iload 14, 2) := by decide +kernel
theorem dL_law_623 : decode cL_law 623 = .ok (.invokevirtual 162, 3) := by decide +kernel
theorem dL_law_626 : decode cL_law 626 = .ok (.invokevirtual 146, 3) := by decide +kernel
theorem dL_law_629 : decode cL_law 629 = .ok (.astore 16, 2) := by decide +kernel
theorem dL_law_631 : decode cL_law 631 = .ok (.aload 16, 2) := by decide +kernel
theorem dL_law_633 : decode cL_law 633 = .ok (.invokeinterface 150 1, 5) := by decide +kernel
theorem dL_law_638 : decode cL_law 638 = .ok (.ifCond .eq 50, 3) := by decide +kernel
theorem dL_law_641 : decode cL_law 641 = .ok (.aload 16, 2) := by decide +kernel
theorem dL_law_643 : decode cL_law 643 = .ok (.invokeinterface 155 1, 5) := by decide +kernel
theorem dL_law_648 : decode cL_law 648 = .ok (.checkcast 100, 3) := by decide +kernel
theorem dL_law_651 : decode cL_law 651 = .ok (.invokevirtual 102, 3) := by decide +kernel
theorem dL_law_654 : decode cL_law 654 = .ok (.istore 17, 2) := by decide +kernel
theorem dL_law_656 : decode cL_law 656 = .ok (.iload 15, 2) := by decide +kernel
theorem dL_law_658 : decode cL_law 658 = .ok (.iload 17, 2) := by decide +kernel
theorem dL_law_660 : decode cL_law 660 = .ok (.iload 11, 2) := by decide +kernel
theorem dL_law_662 : decode cL_law 662 = .ok (.if_icmp .eq 19, 3) := by decide +kernel
theorem dL_law_665 : decode cL_law 665 = .ok (.lload 9, 2) := by decide +kernel
theorem dL_law_667 : decode cL_law 667 = .ok (.iload 17, 2) := by decide +kernel
theorem dL_law_669 : decode cL_law 669 = .ok (.lshr, 1) := by decide +kernel
theorem dL_law_670 : decode cL_law 670 = .ok (.lconst 1, 1) := by decide +kernel
theorem dL_law_671 : decode cL_law 671 = .ok (.land, 1) := by decide +kernel
theorem dL_law_672 : decode cL_law 672 = .ok (.lconst 1, 1) := by decide +kernel
theorem dL_law_673 : decode cL_law 673 = .ok (.lcmp, 1) := by decide +kernel
theorem dL_law_674 : decode cL_law 674 = .ok (.ifCond .ne 7, 3) := by decide +kernel
theorem dL_law_677 : decode cL_law 677 = .ok (.iconst 1, 1) := by decide +kernel
theorem dL_law_678 : decode cL_law 678 = .ok (.goto 4, 3) := by decide +kernel
theorem dL_law_681 : decode cL_law 681 = .ok (.iconst 0, 1) := by decide +kernel
theorem dL_law_682 : decode cL_law 682 = .ok (.ior, 1) := by decide +kernel
theorem dL_law_683 : decode cL_law 683 = .ok (.istore 15, 2) := by decide +kernel
theorem dL_law_685 : decode cL_law 685 = .ok (.goto (-54), 3) := by decide +kernel
theorem dL_law_688 : decode cL_law 688 = .ok (.iload 12, 2) := by decide +kernel
theorem dL_law_690 : decode cL_law 690 = .ok (.iload 15, 2) := by decide +kernel
theorem dL_law_692 : decode cL_law 692 = .ok (.iand, 1) := by decide +kernel
theorem dL_law_693 : decode cL_law 693 = .ok (.istore 12, 2) := by decide +kernel
theorem dL_law_695 : decode cL_law 695 = .ok (.goto (-141), 3) := by decide +kernel
theorem dL_law_698 : decode cL_law 698 = .ok (.iload 12, 2) := by decide +kernel
theorem dL_law_700 : decode cL_law 700 = .ok (.iload 11, 2) := by decide +kernel
theorem dL_law_702 : decode cL_law 702 = .ok (.ifCond .ge 7, 3) := by decide +kernel
theorem dL_law_705 : decode cL_law 705 = .ok (.iconst 1, 1) := by decide +kernel
theorem dL_law_706 : decode cL_law 706 = .ok (.goto 4, 3) := by decide +kernel
theorem dL_law_709 : decode cL_law 709 = .ok (.iconst 0, 1) := by decide +kernel
theorem dL_law_710 : decode cL_law 710 = .ok (.if_icmp .eq 5, 3) := by decide +kernel
theorem dL_law_713 : decode cL_law 713 = .ok (.iconst 0, 1) := by decide +kernel
theorem dL_law_714 : decode cL_law 714 = .ok (.ireturn, 1) := by decide +kernel
theorem dL_law_715 : decode cL_law 715 = .ok (.iinc 11 1, 3) := by decide +kernel
theorem dL_law_718 : decode cL_law 718 = .ok (.goto (-200), 3) := by decide +kernel
theorem dL_law_721 : decode cL_law 721 = .ok (.aload_n 0, 1) := by decide +kernel
theorem dL_law_722 : decode cL_law 722 = .ok (.bipush 16, 2) := by decide +kernel
theorem dL_law_724 : decode cL_law 724 = .ok (.invokestatic 17, 3) := by decide +kernel
theorem dL_law_727 : decode cL_law 727 = .ok (.bipush 12, 2) := by decide +kernel
theorem dL_law_729 : decode cL_law 729 = .ok (.irem, 1) := by decide +kernel
theorem dL_law_730 : decode cL_law 730 = .ok (.istore 11, 2) := by decide +kernel
theorem dL_law_732 : decode cL_law 732 = .ok (.bipush 100, 2) := by decide +kernel
theorem dL_law_734 : decode cL_law 734 = .ok (.istore 12, 2) := by decide +kernel
theorem dL_law_736 : decode cL_law 736 = .ok (.iconst 0, 1) := by decide +kernel
theorem dL_law_737 : decode cL_law 737 = .ok (.istore 13, 2) := by decide +kernel
theorem dL_law_739 : decode cL_law 739 = .ok (.iload 13, 2) := by decide +kernel
theorem dL_law_741 : decode cL_law 741 = .ok (.iconst 4, 1) := by decide +kernel
theorem dL_law_742 : decode cL_law 742 = .ok (.if_icmp .ge 176, 3) := by decide +kernel
theorem dL_law_745 : decode cL_law 745 = .ok (.aload_n 1, 1) := by decide +kernel
theorem dL_law_746 : decode cL_law 746 = .ok (.iload 13, 2) := by decide +kernel
theorem dL_law_748 : decode cL_law 748 = .ok (.iload 11, 2) := by decide +kernel
theorem dL_law_750 : decode cL_law 750 = .ok (.iconst 0, 1) := by decide +kernel
theorem dL_law_751 : decode cL_law 751 = .ok (.invokevirtual 166, 3) := by decide +kernel
theorem dL_law_754 : decode cL_law 754 = .ok (.istore 14, 2) := by decide +kernel
theorem dL_law_756 : decode cL_law 756 = .ok (.aload_n 1, 1) := by decide +kernel
theorem dL_law_757 : decode cL_law 757 = .ok (.iload 13, 2) := by decide +kernel
theorem dL_law_759 : decode cL_law 759 = .ok (.iload 11, 2) := by decide +kernel
theorem dL_law_761 : decode cL_law 761 = .ok (.iconst 1, 1) := by decide +kernel
theorem dL_law_762 : decode cL_law 762 = .ok (.invokevirtual 166, 3) := by decide +kernel
theorem dL_law_765 : decode cL_law 765 = .ok (.istore 15, 2) := by decide +kernel
theorem dL_law_767 : decode cL_law 767 = .ok (.iload 14, 2) := by decide +kernel
theorem dL_law_769 : decode cL_law 769 = .ok (.ifCond .ge 7, 3) := by decide +kernel
theorem dL_law_772 : decode cL_law 772 = .ok (.iconst 1, 1) := by decide +kernel
theorem dL_law_773 : decode cL_law 773 = .ok (.goto 4, 3) := by decide +kernel
theorem dL_law_776 : decode cL_law 776 = .ok (.iconst 0, 1) := by decide +kernel
theorem dL_law_777 : decode cL_law 777 = .ok (.aload_n 3, 1) := by decide +kernel
theorem dL_law_778 : decode cL_law 778 = .ok (.invokevirtual 87, 3) := by decide +kernel
theorem dL_law_781 : decode cL_law 781 = .ok (.if_icmp .ne 26, 3) := by decide +kernel
theorem dL_law_784 : decode cL_law 784 = .ok (.iload 14, 2) := by decide +kernel
theorem dL_law_786 : decode cL_law 786 = .ok (.ifCond .ge 7, 3) := by decide +kernel
theorem dL_law_789 : decode cL_law 789 = .ok (.iconst 1, 1) := by decide +kernel
theorem dL_law_790 : decode cL_law 790 = .ok (.goto 4, 3) := by decide +kernel
theorem dL_law_793 : decode cL_law 793 = .ok (.iconst 0, 1) := by decide +kernel
theorem dL_law_794 : decode cL_law 794 = .ok (.iload 15, 2) := by decide +kernel
theorem dL_law_796 : decode cL_law 796 = .ok (.ifCond .ge 7, 3) := by decide +kernel
theorem dL_law_799 : decode cL_law 799 = .ok (.iconst 1, 1) := by decide +kernel
theorem dL_law_800 : decode cL_law 800 = .ok (.goto 4, 3) := by decide +kernel
theorem dL_law_803 : decode cL_law 803 = .ok (.iconst 0, 1) := by decide +kernel
theorem dL_law_804 : decode cL_law 804 = .ok (.if_icmp .eq 5, 3) := by decide +kernel
theorem dL_law_807 : decode cL_law 807 = .ok (.iconst 0, 1) := by decide +kernel
theorem dL_law_808 : decode cL_law 808 = .ok (.ireturn, 1) := by decide +kernel
theorem dL_law_809 : decode cL_law 809 = .ok (.iload 14, 2) := by decide +kernel
theorem dL_law_811 : decode cL_law 811 = .ok (.ifCond .ge 6, 3) := by decide +kernel
theorem dL_law_814 : decode cL_law 814 = .ok (.goto 98, 3) := by decide +kernel
theorem dL_law_817 : decode cL_law 817 = .ok (.iload 15, 2) := by decide +kernel
theorem dL_law_819 : decode cL_law 819 = .ok (.invokestatic 169, 3) := by decide +kernel
theorem dL_law_822 : decode cL_law 822 = .ok (.iload 13, 2) := by decide +kernel
theorem dL_law_824 : decode cL_law 824 = .ok (.if_icmp .ne 20, 3) := by decide +kernel
theorem dL_law_827 : decode cL_law 827 = .ok (.iload 13, 2) := by decide +kernel
theorem dL_law_829 : decode cL_law 829 = .ok (.ifCond .ne 17, 3) := by decide +kernel
theorem dL_law_832 : decode cL_law 832 = .ok (.iload 14, 2) := by decide +kernel
theorem dL_law_834 : decode cL_law 834 = .ok (.aload_n 1, 1) := by decide +kernel
theorem dL_law_835 : decode cL_law 835 = .ok (.iload 11, 2) := by decide +kernel
theorem dL_law_837 : decode cL_law 837 = .ok (.iconst 1, 1) := by decide +kernel
theorem dL_law_838 : decode cL_law 838 = .ok (.invokevirtual 84, 3) := by decide +kernel
theorem dL_law_841 : decode cL_law 841 = .ok (.if_icmp .eq 5, 3) := by decide +kernel
theorem dL_law_844 : decode cL_law 844 = .ok (.iconst 0, 1) := by decide +kernel
theorem dL_law_845 : decode cL_law 845 = .ok (.ireturn, 1) := by decide +kernel
theorem dL_law_846 : decode cL_law 846 = .ok (.iconst 0, 1) := by decide +kernel
theorem dL_law_847 : decode cL_law 847 = .ok (.istore 16, 2) := by decide +kernel
theorem dL_law_849 : decode cL_law 849 = .ok (.iload 16, 2) := by decide +kernel
theorem dL_law_851 : decode cL_law 851 = .ok (.bipush 6, 2) := by decide +kernel
theorem dL_law_853 : decode cL_law 853 = .ok (.if_icmp .ge 38, 3) := by decide +kernel
theorem dL_law_856 : decode cL_law 856 = .ok (.iload 15, 2) := by decide +kernel
theorem dL_law_858 : decode cL_law 858 = .ok (.iload 16, 2) := by decide +kernel
theorem dL_law_860 : decode cL_law 860 = .ok (.ishr, 1) := by decide +kernel
theorem dL_law_861 : decode cL_law 861 = .ok (.iconst 1, 1) := by decide +kernel
theorem dL_law_862 : decode cL_law 862 = .ok (.iand, 1) := by decide +kernel
theorem dL_law_863 : decode cL_law 863 = .ok (.iconst 1, 1) := by decide +kernel
theorem dL_law_864 : decode cL_law 864 = .ok (.if_icmp .ne 21, 3) := by decide +kernel
theorem dL_law_867 : decode cL_law 867 = .ok (.aload_n 1, 1) := by decide +kernel
theorem dL_law_868 : decode cL_law 868 = .ok (.iload 16, 2) := by decide +kernel
theorem dL_law_870 : decode cL_law 870 = .ok (.invokevirtual 171, 3) := by decide +kernel
theorem dL_law_873 : decode cL_law 873 = .ok (.aload_n 2, 1) := by decide +kernel
theorem dL_law_874 : decode cL_law 874 = .ok (.getfield 174, 3) := by decide +kernel
theorem dL_law_877 : decode cL_law 877 = .ok (.iload 16, 2) := by decide +kernel
theorem dL_law_879 : decode cL_law 879 = .ok (.iaload, 1) := by decide +kernel
theorem dL_law_880 : decode cL_law 880 = .ok (.if_icmp .eq 5, 3) := by decide +kernel
theorem dL_law_883 : decode cL_law 883 = .ok (.iconst 0, 1) := by decide +kernel
theorem dL_law_884 : decode cL_law 884 = .ok (.ireturn, 1) := by decide +kernel
theorem dL_law_885 : decode cL_law 885 = .ok (.iinc 16 1, 3) := by decide +kernel
theorem dL_law_888 : decode cL_law 888 = .ok (.goto (-39), 3) := by decide +kernel
theorem dL_law_891 : decode cL_law 891 = .ok (.aload_n 1, 1) := by decide +kernel
theorem dL_law_892 : decode cL_law 892 = .ok (.iload 11, 2) := by decide +kernel
theorem dL_law_894 : decode cL_law 894 = .ok (.iconst 1, 1) := by decide +kernel
theorem dL_law_895 : decode cL_law 895 = .ok (.invokevirtual 84, 3) := by decide +kernel
theorem dL_law_898 : decode cL_law 898 = .ok (.iload 14, 2) := by decide +kernel
theorem dL_law_900 : decode cL_law 900 = .ok (.if_icmp .ne 10, 3) := by decide +kernel
theorem dL_law_903 : decode cL_law 903 = .ok (.aload_n 1, 1) := by decide +kernel
theorem dL_law_904 : decode cL_law 904 = .ok (.invokevirtual 114, 3) := by decide +kernel
theorem dL_law_907 : decode cL_law 907 = .ok (.ifCond .eq 5, 3) := by decide +kernel
theorem dL_law_910 : decode cL_law 910 = .ok (.iconst 0, 1) := by decide +kernel
theorem dL_law_911 : decode cL_law 911 = .ok (.ireturn, 1) := by decide +kernel
theorem dL_law_912 : decode cL_law 912 = .ok (.iinc 13 1, 3) := by decide +kernel
theorem dL_law_915 : decode cL_law 915 = .ok (.goto (-176), 3) := by decide +kernel
theorem dL_law_918 : decode cL_law 918 = .ok (.aload_n 1, 1) := by decide +kernel
theorem dL_law_919 : decode cL_law 919 = .ok (.iload 11, 2) := by decide +kernel
theorem dL_law_921 : decode cL_law 921 = .ok (.iconst 0, 1) := by decide +kernel
theorem dL_law_922 : decode cL_law 922 = .ok (.invokevirtual 176, 3) := by decide +kernel
theorem dL_law_925 : decode cL_law 925 = .ok (.istore 13, 2) := by decide +kernel
theorem dL_law_927 : decode cL_law 927 = .ok (.iload 13, 2) := by decide +kernel
theorem dL_law_929 : decode cL_law 929 = .ok (.ifCond .lt 49, 3) := by decide +kernel
theorem dL_law_932 : decode cL_law 932 = .ok (.aload_n 1, 1) := by decide +kernel
theorem dL_law_933 : decode cL_law 933 = .ok (.iload 11, 2) := by decide +kernel
theorem dL_law_935 : decode cL_law 935 = .ok (.iconst 1, 1) := by decide +kernel
theorem dL_law_936 : decode cL_law 936 = .ok (.invokevirtual 176, 3) := by decide +kernel
theorem dL_law_939 : decode cL_law 939 = .ok (.istore 14, 2) := by decide +kernel
theorem dL_law_941 : decode cL_law 941 = .ok (.aload_n 1, 1) := by decide +kernel
theorem dL_law_942 : decode cL_law 942 = .ok (.iload 13, 2) := by decide +kernel
theorem dL_law_944 : decode cL_law 944 = .ok (.iconst 5, 1) := by decide +kernel
theorem dL_law_945 : decode cL_law 945 = .ok (.iconst 1, 1) := by decide +kernel
theorem dL_law_946 : decode cL_law 946 = .ok (.invokevirtual 35, 3) := by decide +kernel
theorem dL_law_949 : decode cL_law 949 = .ok (.ifCond .ne 27, 3) := by decide +kernel
theorem dL_law_952 : decode cL_law 952 = .ok (.aload_n 1, 1) := by decide +kernel
theorem dL_law_953 : decode cL_law 953 = .ok (.iload 11, 2) := by decide +kernel
theorem dL_law_955 : decode cL_law 955 = .ok (.iconst 1, 1) := by decide +kernel
theorem dL_law_956 : decode cL_law 956 = .ok (.invokevirtual 84, 3) := by decide +kernel
theorem dL_law_959 : decode cL_law 959 = .ok (.iload 14, 2) := by decide +kernel
theorem dL_law_961 : decode cL_law 961 = .ok (.if_icmp .ne 15, 3) := by decide +kernel
theorem dL_law_964 : decode cL_law 964 = .ok (.aload_n 1, 1) := by decide +kernel
theorem dL_law_965 : decode cL_law 965 = .ok (.iload 13, 2) := by decide +kernel
theorem dL_law_967 : decode cL_law 967 = .ok (.iconst 5, 1) := by decide +kernel
theorem dL_law_968 : decode cL_law 968 = .ok (.iconst 0, 1) := by decide +kernel
theorem dL_law_969 : decode cL_law 969 = .ok (.invokevirtual 35, 3) := by decide +kernel
theorem dL_law_972 : decode cL_law 972 = .ok (.iconst 1, 1) := by decide +kernel
theorem dL_law_973 : decode cL_law 973 = .ok (.if_icmp .eq 5, 3) := by decide +kernel
theorem dL_law_976 : decode cL_law 976 = .ok (.iconst 0, 1) := by decide +kernel
theorem dL_law_977 : decode cL_law 977 = .ok (.ireturn, 1) := by decide +kernel
theorem dL_law_978 : decode cL_law 978 = .ok (.aload_n 1, 1) := by decide +kernel
theorem dL_law_979 : decode cL_law 979 = .ok (.invokevirtual 178, 3) := by decide +kernel
theorem dL_law_982 : decode cL_law 982 = .ok (.istore 14, 2) := by decide +kernel
theorem dL_law_984 : decode cL_law 984 = .ok (.iload 14, 2) := by decide +kernel
theorem dL_law_986 : decode cL_law 986 = .ok (.ifCond .lt 152, 3) := by decide +kernel
theorem dL_law_989 : decode cL_law 989 = .ok (.iconst 0, 1) := by decide +kernel
theorem dL_law_990 : decode cL_law 990 = .ok (.istore 15, 2) := by decide +kernel
theorem dL_law_992 : decode cL_law 992 = .ok (.iconst 0, 1) := by decide +kernel
theorem dL_law_993 : decode cL_law 993 = .ok (.istore 16, 2) := by decide +kernel
theorem dL_law_995 : decode cL_law 995 = .ok (.iload 16, 2) := by decide +kernel
theorem dL_law_997 : decode cL_law 997 = .ok (.bipush 41, 2) := by decide +kernel
theorem dL_law_999 : decode cL_law 999 = .ok (.if_icmp .ge 29, 3) := by decide +kernel
theorem dL_law_1002 : decode cL_law 1002 = .ok (.iload 15, 2) := by decide +kernel
theorem dL_law_1004 : decode cL_law 1004 = .ok (.aload_n 1, 1) := by decide +kernel
theorem dL_law_1005 : decode cL_law 1005 = .ok (.iload 16, 2) := by decide +kernel
theorem dL_law_1007 : decode cL_law 1007 = .ok (.iconst 2, 1) := by decide +kernel
theorem dL_law_1008 : decode cL_law 1008 = .ok (.invokevirtual 84, 3) := by decide +kernel
theorem dL_law_1011 : decode cL_law 1011 = .ok (.ifCond .le 7, 3) := by decide +kernel
theorem dL_law_1014 : decode cL_law 1014 = .ok (.iconst 1, 1) := by decide +kernel
theorem dL_law_1015 : decode cL_law 1015 = .ok (.goto 4, 3) := by decide +kernel
theorem dL_law_1018 : decode cL_law 1018 = .ok (.iconst 0, 1) := by decide +kernel
theorem dL_law_1019 : decode cL_law 1019 = .ok (.ior, 1) := by decide +kernel
theorem dL_law_1020 : decode cL_law 1020 = .ok (.istore 15, 2) := by decide +kernel
theorem dL_law_1022 : decode cL_law 1022 = .ok (.iinc 16 1, 3) := by decide +kernel
theorem dL_law_1025 : decode cL_law 1025 = .ok (.goto (-30), 3) := by decide +kernel
theorem dL_law_1028 : decode cL_law 1028 = .ok (.iload 15, 2) := by decide +kernel
theorem dL_law_1030 : decode cL_law 1030 = .ok (.ifCond .ne 5, 3) := by decide +kernel
theorem dL_law_1033 : decode cL_law 1033 = .ok (.iconst 0, 1) := by decide +kernel
theorem dL_law_1034 : decode cL_law 1034 = .ok (.ireturn, 1) := by decide +kernel
theorem dL_law_1035 : decode cL_law 1035 = .ok (.iconst 0, 1) := by decide +kernel
theorem dL_law_1036 : decode cL_law 1036 = .ok (.istore 16, 2) := by decide +kernel
theorem dL_law_1038 : decode cL_law 1038 = .ok (.iload 16, 2) := by decide +kernel
theorem dL_law_1040 : decode cL_law 1040 = .ok (.iload 14, 2) := by decide +kernel
theorem dL_law_1042 : decode cL_law 1042 = .ok (.if_icmp .ge 18, 3) := by decide +kernel
theorem dL_law_1045 : decode cL_law 1045 = .ok (.aload_n 1, 1) := by decide +kernel
theorem dL_law_1046 : decode cL_law 1046 = .ok (.invokevirtual 108, 3) := by decide +kernel
theorem dL_law_1049 : decode cL_law 1049 = .ok (.ifCond .eq 5, 3) := by decide +kernel
theorem dL_law_1052 : decode cL_law 1052 = .ok (.iconst 0, 1) := by decide +kernel
theorem dL_law_1053 : decode cL_law 1053 = .ok (.ireturn, 1) := by decide +kernel
theorem dL_law_1054 : decode cL_law 1054 = .ok (.iinc 16 1, 3) := by decide +kernel
theorem dL_law_1057 : decode cL_law 1057 = .ok (.goto (-19), 3) := by decide +kernel
theorem dL_law_1060 : decode cL_law 1060 = .ok (.aload_n 1, 1) := by decide +kernel
theorem dL_law_1061 : decode cL_law 1061 = .ok (.iconst 1, 1) := by decide +kernel
theorem dL_law_1062 : decode cL_law 1062 = .ok (.invokevirtual 13, 3) := by decide +kernel
theorem dL_law_1065 : decode cL_law 1065 = .ok (.ifCond .eq 5, 3) := by decide +kernel
theorem dL_law_1068 : decode cL_law 1068 = .ok (.iconst 0, 1) := by decide +kernel
theorem dL_law_1069 : decode cL_law 1069 = .ok (.ireturn, 1) := by decide +kernel
theorem dL_law_1070 : decode cL_law 1070 = .ok (.iconst 0, 1) := by decide +kernel
theorem dL_law_1071 : decode cL_law 1071 = .ok (.istore 16, 2) := by decide +kernel
theorem dL_law_1073 : decode cL_law 1073 = .ok (.iload 16, 2) := by decide +kernel
theorem dL_law_1075 : decode cL_law 1075 = .ok (.bipush 6, 2) := by decide +kernel
theorem dL_law_1077 : decode cL_law 1077 = .ok (.if_icmp .ge 20, 3) := by decide +kernel
theorem dL_law_1080 : decode cL_law 1080 = .ok (.aload_n 1, 1) := by decide +kernel
theorem dL_law_1081 : decode cL_law 1081 = .ok (.iload 16, 2) := by decide +kernel
theorem dL_law_1083 : decode cL_law 1083 = .ok (.invokevirtual 171, 3) := by decide +kernel
theorem dL_law_1086 : decode cL_law 1086 = .ok (.ifCond .ge 5, 3) := by decide +kernel
theorem dL_law_1089 : decode cL_law 1089 = .ok (.iconst 0, 1) := by decide +kernel
theorem dL_law_1090 : decode cL_law 1090 = .ok (.ireturn, 1) := by decide +kernel
theorem dL_law_1091 : decode cL_law 1091 = .ok (.iinc 16 1, 3) := by decide +kernel
theorem dL_law_1094 : decode cL_law 1094 = .ok (.goto (-21), 3) := by decide +kernel
theorem dL_law_1097 : decode cL_law 1097 = .ok (.iload 14, 2) := by decide +kernel
theorem dL_law_1099 : decode cL_law 1099 = .ok (.istore 16, 2) := by decide +kernel
theorem dL_law_1101 : decode cL_law 1101 = .ok (.iload 16, 2) := by decide +kernel
theorem dL_law_1103 : decode cL_law 1103 = .ok (.bipush 41, 2) := by decide +kernel
theorem dL_law_1105 : decode cL_law 1105 = .ok (.if_icmp .ge 24, 3) := by decide +kernel
theorem dL_law_1108 : decode cL_law 1108 = .ok (.aload_n 1, 1) := by decide +kernel
theorem dL_law_1109 : decode cL_law 1109 = .ok (.iload 16, 2) := by decide +kernel
theorem dL_law_1111 : decode cL_law 1111 = .ok (.iload 14, 2) := by decide +kernel
theorem dL_law_1113 : decode cL_law 1113 = .ok (.isub, 1) := by decide +kernel
theorem dL_law_1114 : decode cL_law 1114 = .ok (.iconst 2, 1) := by decide +kernel
theorem dL_law_1115 : decode cL_law 1115 = .ok (.invokevirtual 84, 3) := by decide +kernel
theorem dL_law_1118 : decode cL_law 1118 = .ok (.ifCond .eq 5, 3) := by decide +kernel
theorem dL_law_1121 : decode cL_law 1121 = .ok (.iconst 0, 1) := by decide +kernel
theorem dL_law_1122 : decode cL_law 1122 = .ok (.ireturn, 1) := by decide +kernel
theorem dL_law_1123 : decode cL_law 1123 = .ok (.iinc 16 1, 3) := by decide +kernel
theorem dL_law_1126 : decode cL_law 1126 = .ok (.goto (-25), 3) := by decide +kernel
theorem dL_law_1129 : decode cL_law 1129 = .ok (.aload_n 1, 1) := by decide +kernel
theorem dL_law_1130 : decode cL_law 1130 = .ok (.invokevirtual 114, 3) := by decide +kernel
theorem dL_law_1133 : decode cL_law 1133 = .ok (.ifCond .eq 5, 3) := by decide +kernel
theorem dL_law_1136 : decode cL_law 1136 = .ok (.iconst 0, 1) := by decide +kernel
theorem dL_law_1137 : decode cL_law 1137 = .ok (.ireturn, 1) := by decide +kernel
theorem dL_law_1138 : decode cL_law 1138 = .ok (.aload_n 0, 1) := by decide +kernel
theorem dL_law_1139 : decode cL_law 1139 = .ok (.bipush 17, 2) := by decide +kernel
theorem dL_law_1141 : decode cL_law 1141 = .ok (.invokestatic 17, 3) := by decide +kernel
theorem dL_law_1144 : decode cL_law 1144 = .ok (.iconst 5, 1) := by decide +kernel
theorem dL_law_1145 : decode cL_law 1145 = .ok (.irem, 1) := by decide +kernel
theorem dL_law_1146 : decode cL_law 1146 = .ok (.newarray .int, 2) := by decide +kernel
theorem dL_law_1148 : decode cL_law 1148 = .ok (.astore 15, 2) := by decide +kernel
theorem dL_law_1150 : decode cL_law 1150 = .ok (.iconst 0, 1) := by decide +kernel
theorem dL_law_1151 : decode cL_law 1151 = .ok (.istore 16, 2) := by decide +kernel
theorem dL_law_1153 : decode cL_law 1153 = .ok (.iload 16, 2) := by decide +kernel
theorem dL_law_1155 : decode cL_law 1155 = .ok (.aload 15, 2) := by decide +kernel
theorem dL_law_1157 : decode cL_law 1157 = .ok (.arraylength, 1) := by decide +kernel
theorem dL_law_1158 : decode cL_law 1158 = .ok (.if_icmp .ge 28, 3) := by decide +kernel
theorem dL_law_1161 : decode cL_law 1161 = .ok (.aload 15, 2) := by decide +kernel
theorem dL_law_1163 : decode cL_law 1163 = .ok (.iload 16, 2) := by decide +kernel
theorem dL_law_1165 : decode cL_law 1165 = .ok (.aload_n 0, 1) := by decide +kernel
theorem dL_law_1166 : decode cL_law 1166 = .ok (.bipush 17, 2) := by decide +kernel
theorem dL_law_1168 : decode cL_law 1168 = .ok (.invokestatic 17, 3) := by decide +kernel
theorem dL_law_1171 : decode cL_law 1171 = .ok (.iconst 3, 1) := by decide +kernel
theorem dL_law_1172 : decode cL_law 1172 = .ok (.iload 16, 2) := by decide +kernel
theorem dL_law_1174 : decode cL_law 1174 = .ok (.imul, 1) := by decide +kernel
theorem dL_law_1175 : decode cL_law 1175 = .ok (.ishr, 1) := by decide +kernel
theorem dL_law_1176 : decode cL_law 1176 = .ok (.bipush 10, 2) := by decide +kernel
theorem dL_law_1178 : decode cL_law 1178 = .ok (.irem, 1) := by decide +kernel
theorem dL_law_1179 : decode cL_law 1179 = .ok (.iastore, 1) := by decide +kernel
theorem dL_law_1180 : decode cL_law 1180 = .ok (.iinc 16 1, 3) := by decide +kernel
theorem dL_law_1183 : decode cL_law 1183 = .ok (.goto (-30), 3) := by decide +kernel
theorem dL_law_1186 : decode cL_law 1186 = .ok (.aload_n 1, 1) := by decide +kernel
theorem dL_law_1187 : decode cL_law 1187 = .ok (.iconst 1, 1) := by decide +kernel
theorem dL_law_1188 : decode cL_law 1188 = .ok (.aload 15, 2) := by decide +kernel
theorem dL_law_1190 : decode cL_law 1190 = .ok (.invokestatic 117, 3) := by decide +kernel
theorem dL_law_1193 : decode cL_law 1193 = .ok (.ifCond .ne 5, 3) := by decide +kernel
theorem dL_law_1196 : decode cL_law 1196 = .ok (.iconst 0, 1) := by decide +kernel
theorem dL_law_1197 : decode cL_law 1197 = .ok (.ireturn, 1) := by decide +kernel
theorem dL_law_1198 : decode cL_law 1198 = .ok (.aload_n 1, 1) := by decide +kernel
theorem dL_law_1199 : decode cL_law 1199 = .ok (.iconst 1, 1) := by decide +kernel
theorem dL_law_1200 : decode cL_law 1200 = .ok (.bipush 6, 2) := by decide +kernel
theorem dL_law_1202 : decode cL_law 1202 = .ok (.iconst (-1), 1) := by decide +kernel
theorem dL_law_1203 : decode cL_law 1203 = .ok (.invokevirtual 181, 3) := by decide +kernel
theorem dL_law_1206 : decode cL_law 1206 = .ok (.istore 16, 2) := by decide +kernel
theorem dL_law_1208 : decode cL_law 1208 = .ok (.iload 16, 2) := by decide +kernel
theorem dL_law_1210 : decode cL_law 1210 = .ok (.ifCond .lt 220, 3) := by decide +kernel
theorem dL_law_1213 : decode cL_law 1213 = .ok (.aload 15, 2) := by decide +kernel
theorem dL_law_1215 : decode cL_law 1215 = .ok (.arraylength, 1) := by decide +kernel
theorem dL_law_1216 : decode cL_law 1216 = .ok (.newarray .int, 2) := by decide +kernel
theorem dL_law_1218 : decode cL_law 1218 = .ok (.astore 17, 2) := by decide +kernel
theorem dL_law_1220 : decode cL_law 1220 = .ok (.iconst 0, 1) := by decide +kernel
theorem dL_law_1221 : decode cL_law 1221 = .ok (.istore 18, 2) := by decide +kernel
theorem dL_law_1223 : decode cL_law 1223 = .ok (.iload 18, 2) := by decide +kernel
theorem dL_law_1225 : decode cL_law 1225 = .ok (.aload 15, 2) := by decide +kernel
theorem dL_law_1227 : decode cL_law 1227 = .ok (.arraylength, 1) := by decide +kernel
theorem dL_law_1228 : decode cL_law 1228 = .ok (.if_icmp .ge 23, 3) := by decide +kernel
theorem dL_law_1231 : decode cL_law 1231 = .ok (.aload 17, 2) := by decide +kernel
theorem dL_law_1233 : decode cL_law 1233 = .ok (.iload 18, 2) := by decide +kernel
theorem dL_law_1235 : decode cL_law 1235 = .ok (.aload_n 1, 1) := by decide +kernel
theorem dL_law_1236 : decode cL_law 1236 = .ok (.iconst 1, 1) := by decide +kernel
theorem dL_law_1237 : decode cL_law 1237 = .ok (.bipush 6, 2) := by decide +kernel
theorem dL_law_1239 : decode cL_law 1239 = .ok (.iload 18, 2) := by decide +kernel
theorem dL_law_1241 : decode cL_law 1241 = .ok (.invokevirtual 181, 3) := by decide +kernel
theorem dL_law_1244 : decode cL_law 1244 = .ok (.iastore, 1) := by decide +kernel
theorem dL_law_1245 : decode cL_law 1245 = .ok (.iinc 18 1, 3) := by decide +kernel
theorem dL_law_1248 : decode cL_law 1248 = .ok (.goto (-25), 3) := by decide +kernel
theorem dL_law_1251 : decode cL_law 1251 = .ok (.iconst 0, 1) := by decide +kernel
theorem dL_law_1252 : decode cL_law 1252 = .ok (.istore 18, 2) := by decide +kernel
theorem dL_law_1254 : decode cL_law 1254 = .ok (.iconst 0, 1) := by decide +kernel
theorem dL_law_1255 : decode cL_law 1255 = .ok (.istore 19, 2) := by decide +kernel
theorem dL_law_1257 : decode cL_law 1257 = .ok (.iload 19, 2) := by decide +kernel
theorem dL_law_1259 : decode cL_law 1259 = .ok (.aload 15, 2) := by decide +kernel
theorem dL_law_1261 : decode cL_law 1261 = .ok (.arraylength, 1) := by decide +kernel
theorem dL_law_1262 : decode cL_law 1262 = .ok (.if_icmp .ge 90, 3) := by decide +kernel
theorem dL_law_1265 : decode cL_law 1265 = .ok (.aload 17, 2) := by decide +kernel
theorem dL_law_1267 : decode cL_law 1267 = .ok (.iload 19, 2) := by decide +kernel
theorem dL_law_1269 : decode cL_law 1269 = .ok (.iaload, 1) := by decide +kernel
theorem dL_law_1270 : decode cL_law 1270 = .ok (.ifCond .lt 28, 3) := by decide +kernel
theorem dL_law_1273 : decode cL_law 1273 = .ok (.aload 17, 2) := by decide +kernel
theorem dL_law_1275 : decode cL_law 1275 = .ok (.iload 19, 2) := by decide +kernel
theorem dL_law_1277 : decode cL_law 1277 = .ok (.iaload, 1) := by decide +kernel
theorem dL_law_1278 : decode cL_law 1278 = .ok (.aload 15, 2) := by decide +kernel
theorem dL_law_1280 : decode cL_law 1280 = .ok (.arraylength, 1) := by decide +kernel
theorem dL_law_1281 : decode cL_law 1281 = .ok (.if_icmp .ge 17, 3) := by decide +kernel
theorem dL_law_1284 : decode cL_law 1284 = .ok (.iload 18, 2) := by decide +kernel
theorem dL_law_1286 : decode cL_law 1286 = .ok (.aload 17, 2) := by decide +kernel
theorem dL_law_1288 : decode cL_law 1288 = .ok (.iload 19, 2) := by decide +kernel
theorem dL_law_1290 : decode cL_law 1290 = .ok (.iaload, 1) := by decide +kernel
theorem dL_law_1291 : decode cL_law 1291 = .ok (.ishr, 1) := by decide +kernel
theorem dL_law_1292 : decode cL_law 1292 = .ok (.iconst 1, 1) := by decide +kernel
theorem dL_law_1293 : decode cL_law 1293 = .ok (.iand, 1) := by decide +kernel
theorem dL_law_1294 : decode cL_law 1294 = .ok (.iconst 1, 1) := by decide +kernel
theorem dL_law_1295 : decode cL_law 1295 = .ok (.if_icmp .ne 5, 3) := by decide +kernel
theorem dL_law_1298 : decode cL_law 1298 = .ok (.iconst 0, 1) := by decide +kernel
theorem dL_law_1299 : decode cL_law 1299 = .ok (.ireturn, 1) := by decide +kernel
theorem dL_law_1300 : decode cL_law 1300 = .ok (.iload 18, 2) := by decide +kernel
theorem dL_law_1302 : decode cL_law 1302 = .ok (.iconst 1, 1) := by decide +kernel
theorem dL_law_1303 : decode cL_law 1303 = .ok (.aload 17, 2) := by decide +kernel
theorem dL_law_1305 : decode cL_law 1305 = .ok (.iload 19, 2) := by decide +kernel
theorem dL_law_1307 : decode cL_law 1307 = .ok (.iaload, 1) := by decide +kernel
theorem dL_law_1308 : decode cL_law 1308 = .ok (.ishl, 1) := by decide +kernel
theorem dL_law_1309 : decode cL_law 1309 = .ok (.ior, 1) := by decide +kernel
theorem dL_law_1310 : decode cL_law 1310 = .ok (.istore 18, 2) := by decide +kernel
theorem dL_law_1312 : decode cL_law 1312 = .ok (.aload_n 1, 1) := by decide +kernel
theorem dL_law_1313 : decode cL_law 1313 = .ok (.iload 19, 2) := by decide +kernel
theorem dL_law_1315 : decode cL_law 1315 = .ok (.bipush 10, 2) := by decide +kernel
theorem dL_law_1317 : decode cL_law 1317 = .ok (.aload 15, 2) := by decide +kernel
theorem dL_law_1319 : decode cL_law 1319 = .ok (.aload 17, 2) := by decide +kernel
theorem dL_law_1321 : decode cL_law 1321 = .ok (.iload 19, 2) := by decide +kernel
theorem dL_law_1323 : decode cL_law 1323 = .ok (.iaload, 1) := by decide +kernel
theorem dL_law_1324 : decode cL_law 1324 = .ok (.iaload, 1) := by decide +kernel
theorem dL_law_1325 : decode cL_law 1325 = .ok (.imul, 1) := by decide +kernel
theorem dL_law_1326 : decode cL_law 1326 = .ok (.invokevirtual 31, 3) := by decide +kernel
theorem dL_law_1329 : decode cL_law 1329 = .ok (.iconst 5, 1) := by decide +kernel
theorem dL_law_1330 : decode cL_law 1330 = .ok (.iload 19, 2) := by decide +kernel
theorem dL_law_1332 : decode cL_law 1332 = .ok (.imul, 1) := by decide +kernel
theorem dL_law_1333 : decode cL_law 1333 = .ok (.aload_n 2, 1) := by decide +kernel
theorem dL_law_1334 : decode cL_law 1334 = .ok (.getfield 174, 3) := by decide +kernel
theorem dL_law_1337 : decode cL_law 1337 = .ok (.iload 19, 2) := by decide +kernel
theorem dL_law_1339 : decode cL_law 1339 = .ok (.iaload, 1) := by decide +kernel
theorem dL_law_1340 : decode cL_law 1340 = .ok (.iadd, 1) := by decide +kernel
theorem dL_law_1341 : decode cL_law 1341 = .ok (.if_icmp .eq 5, 3) := by decide +kernel
theorem dL_law_1344 : decode cL_law 1344 = .ok (.iconst 0, 1) := by decide +kernel
theorem dL_law_1345 : decode cL_law 1345 = .ok (.ireturn, 1) := by decide +kernel
theorem dL_law_1346 : decode cL_law 1346 = .ok (.iinc 19 1, 3) := by decide +kernel
theorem dL_law_1349 : decode cL_law 1349 = .ok (.goto (-92), 3) := by decide +kernel
theorem dL_law_1352 : decode cL_law 1352 = .ok (.aload_n 1, 1) := by decide +kernel
theorem dL_law_1353 : decode cL_law 1353 = .ok (.bipush 6, 2) := by decide +kernel
theorem dL_law_1355 : decode cL_law 1355 = .ok (.iconst 1, 1) := by decide +kernel
theorem dL_law_1356 : decode cL_law 1356 = .ok (.invokevirtual 84, 3) := by decide +kernel
theorem dL_law_1359 : decode cL_law 1359 = .ok (.iload 16, 2) := by decide +kernel
theorem dL_law_1361 : decode cL_law 1361 = .ok (.if_icmp .ne 10, 3) := by decide +kernel
theorem dL_law_1364 : decode cL_law 1364 = .ok (.aload_n 1, 1) := by decide +kernel
theorem dL_law_1365 : decode cL_law 1365 = .ok (.invokevirtual 114, 3) := by decide +kernel
theorem dL_law_1368 : decode cL_law 1368 = .ok (.ifCond .eq 5, 3) := by decide +kernel
theorem dL_law_1371 : decode cL_law 1371 = .ok (.iconst 0, 1) := by decide +kernel
theorem dL_law_1372 : decode cL_law 1372 = .ok (.ireturn, 1) := by decide +kernel
theorem dL_law_1373 : decode cL_law 1373 = .ok (.iconst 0, 1) := by decide +kernel
theorem dL_law_1374 : decode cL_law 1374 = .ok (.istore 19, 2) := by decide +kernel
theorem dL_law_1376 : decode cL_law 1376 = .ok (.iload 19, 2) := by decide +kernel
theorem dL_law_1378 : decode cL_law 1378 = .ok (.aload 15, 2) := by decide +kernel
theorem dL_law_1380 : decode cL_law 1380 = .ok (.arraylength, 1) := by decide +kernel
theorem dL_law_1381 : decode cL_law 1381 = .ok (.if_icmp .ge 28, 3) := by decide +kernel
theorem dL_law_1384 : decode cL_law 1384 = .ok (.aload_n 1, 1) := by decide +kernel
theorem dL_law_1385 : decode cL_law 1385 = .ok (.iload 19, 2) := by decide +kernel
theorem dL_law_1387 : decode cL_law 1387 = .ok (.bipush 10, 2) := by decide +kernel
theorem dL_law_1389 : decode cL_law 1389 = .ok (.aload 15, 2) := by decide +kernel
theorem dL_law_1391 : decode cL_law 1391 = .ok (.iload 19, 2) := by decide +kernel
theorem dL_law_1393 : decode cL_law 1393 = .ok (.iaload, 1) := by decide +kernel
theorem dL_law_1394 : decode cL_law 1394 = .ok (.imul, 1) := by decide +kernel
theorem dL_law_1395 : decode cL_law 1395 = .ok (.invokevirtual 31, 3) := by decide +kernel
theorem dL_law_1398 : decode cL_law 1398 = .ok (.ifCond .ge 5, 3) := by decide +kernel
theorem dL_law_1401 : decode cL_law 1401 = .ok (.iconst 0, 1) := by decide +kernel
theorem dL_law_1402 : decode cL_law 1402 = .ok (.ireturn, 1) := by decide +kernel
theorem dL_law_1403 : decode cL_law 1403 = .ok (.iinc 19 1, 3) := by decide +kernel
theorem dL_law_1406 : decode cL_law 1406 = .ok (.goto (-30), 3) := by decide +kernel
theorem dL_law_1409 : decode cL_law 1409 = .ok (.aload_n 1, 1) := by decide +kernel
theorem dL_law_1410 : decode cL_law 1410 = .ok (.bipush 6, 2) := by decide +kernel
theorem dL_law_1412 : decode cL_law 1412 = .ok (.iconst 1, 1) := by decide +kernel
theorem dL_law_1413 : decode cL_law 1413 = .ok (.invokevirtual 84, 3) := by decide +kernel
theorem dL_law_1416 : decode cL_law 1416 = .ok (.iload 16, 2) := by decide +kernel
theorem dL_law_1418 : decode cL_law 1418 = .ok (.if_icmp .lt 10, 3) := by decide +kernel
theorem dL_law_1421 : decode cL_law 1421 = .ok (.aload_n 1, 1) := by decide +kernel
theorem dL_law_1422 : decode cL_law 1422 = .ok (.invokevirtual 114, 3) := by decide +kernel
theorem dL_law_1425 : decode cL_law 1425 = .ok (.ifCond .eq 5, 3) := by decide +kernel
theorem dL_law_1428 : decode cL_law 1428 = .ok (.iconst 0, 1) := by decide +kernel
theorem dL_law_1429 : decode cL_law 1429 = .ok (.ireturn, 1) := by decide +kernel
theorem dL_law_1430 : decode cL_law 1430 = .ok (.aload_n 1, 1) := by decide +kernel
theorem dL_law_1431 : decode cL_law 1431 = .ok (.bipush 20, 2) := by decide +kernel
theorem dL_law_1433 : decode cL_law 1433 = .ok (.iconst 2, 1) := by decide +kernel
theorem dL_law_1434 : decode cL_law 1434 = .ok (.iconst 0, 1) := by decide +kernel
theorem dL_law_1435 : decode cL_law 1435 = .ok (.invokevirtual 184, 3) := by decide +kernel
theorem dL_law_1438 : decode cL_law 1438 = .ok (.istore 17, 2) := by decide +kernel
theorem dL_law_1440 : decode cL_law 1440 = .ok (.aload_n 1, 1) := by decide +kernel
theorem dL_law_1441 : decode cL_law 1441 = .ok (.bipush 20, 2) := by decide +kernel
theorem dL_law_1443 : decode cL_law 1443 = .ok (.iconst 2, 1) := by decide +kernel
theorem dL_law_1444 : decode cL_law 1444 = .ok (.iconst 1, 1) := by decide +kernel
theorem dL_law_1445 : decode cL_law 1445 = .ok (.invokevirtual 184, 3) := by decide +kernel
theorem dL_law_1448 : decode cL_law 1448 = .ok (.istore 18, 2) := by decide +kernel
theorem dL_law_1450 : decode cL_law 1450 = .ok (.iconst 0, 1) := by decide +kernel
theorem dL_law_1451 : decode cL_law 1451 = .ok (.istore 19, 2) := by decide +kernel
theorem dL_law_1453 : decode cL_law 1453 = .ok (.iload 19, 2) := by decide +kernel
theorem dL_law_1455 : decode cL_law 1455 = .ok (.iload 17, 2) := by decide +kernel
theorem dL_law_1457 : decode cL_law 1457 = .ok (.if_icmp .ge 18, 3) := by decide +kernel
theorem dL_law_1460 : decode cL_law 1460 = .ok (.aload_n 1, 1) := by decide +kernel
theorem dL_law_1461 : decode cL_law 1461 = .ok (.invokevirtual 108, 3) := by decide +kernel
theorem dL_law_1464 : decode cL_law 1464 = .ok (.ifCond .ge 5, 3) := by decide +kernel
theorem dL_law_1467 : decode cL_law 1467 = .ok (.iconst 0, 1) := by decide +kernel
theorem dL_law_1468 : decode cL_law 1468 = .ok (.ireturn, 1) := by decide +kernel
theorem dL_law_1469 : decode cL_law 1469 = .ok (.iinc 19 1, 3) := by decide +kernel
theorem dL_law_1472 : decode cL_law 1472 = .ok (.goto (-19), 3) := by decide +kernel
theorem dL_law_1475 : decode cL_law 1475 = .ok (.aload_n 1, 1) := by decide +kernel
theorem dL_law_1476 : decode cL_law 1476 = .ok (.invokevirtual 187, 3) := by decide +kernel
theorem dL_law_1479 : decode cL_law 1479 = .ok (.iconst 2, 1) := by decide +kernel
theorem dL_law_1480 : decode cL_law 1480 = .ok (.iload 17, 2) := by decide +kernel
theorem dL_law_1482 : decode cL_law 1482 = .ok (.imul, 1) := by decide +kernel
theorem dL_law_1483 : decode cL_law 1483 = .ok (.isub, 1) := by decide +kernel
theorem dL_law_1484 : decode cL_law 1484 = .ok (.iload 18, 2) := by decide +kernel
theorem dL_law_1486 : decode cL_law 1486 = .ok (.if_icmp .ne 19, 3) := by decide +kernel
theorem dL_law_1489 : decode cL_law 1489 = .ok (.aload_n 1, 1) := by decide +kernel
theorem dL_law_1490 : decode cL_law 1490 = .ok (.invokevirtual 114, 3) := by decide +kernel
theorem dL_law_1493 : decode cL_law 1493 = .ok (.ifCond .ne 12, 3) := by decide +kernel
theorem dL_law_1496 : decode cL_law 1496 = .ok (.aload_n 1, 1) := by decide +kernel
theorem dL_law_1497 : decode cL_law 1497 = .ok (.invokevirtual 187, 3) := by decide +kernel
theorem dL_law_1500 : decode cL_law 1500 = .ok (.iload 18, 2) := by decide +kernel
theorem dL_law_1502 : decode cL_law 1502 = .ok (.if_icmp .le 5, 3) := by decide +kernel
theorem dL_law_1505 : decode cL_law 1505 = .ok (.iconst 0, 1) := by decide +kernel
theorem dL_law_1506 : decode cL_law 1506 = .ok (.ireturn, 1) := by decide +kernel
theorem dL_law_1507 : decode cL_law 1507 = .ok (.aload_n 1, 1) := by decide +kernel
theorem dL_law_1508 : decode cL_law 1508 = .ok (.bipush 14, 2) := by decide +kernel
theorem dL_law_1510 : decode cL_law 1510 = .ok (.iconst 0, 1) := by decide +kernel
theorem dL_law_1511 : decode cL_law 1511 = .ok (.invokevirtual 190, 3) := by decide +kernel
theorem dL_law_1514 : decode cL_law 1514 = .ok (.istore 19, 2) := by decide +kernel
theorem dL_law_1516 : decode cL_law 1516 = .ok (.aload_n 1, 1) := by decide +kernel
theorem dL_law_1517 : decode cL_law 1517 = .ok (.bipush 14, 2) := by decide +kernel
theorem dL_law_1519 : decode cL_law 1519 = .ok (.iconst 1, 1) := by decide +kernel
theorem dL_law_1520 : decode cL_law 1520 = .ok (.invokevirtual 190, 3) := by decide +kernel
theorem dL_law_1523 : decode cL_law 1523 = .ok (.istore 20, 2) := by decide +kernel
theorem dL_law_1525 : decode cL_law 1525 = .ok (.iload 19, 2) := by decide +kernel
theorem dL_law_1527 : decode cL_law 1527 = .ok (.ifCond .ge 7, 3) := by decide +kernel
theorem dL_law_1530 : decode cL_law 1530 = .ok (.iconst 1, 1) := by decide +kernel
theorem dL_law_1531 : decode cL_law 1531 = .ok (.goto 4, 3) := by decide +kernel
theorem dL_law_1534 : decode cL_law 1534 = .ok (.iconst 0, 1) := by decide +kernel
theorem dL_law_1535 : decode cL_law 1535 = .ok (.aload_n 3, 1) := by decide +kernel
theorem dL_law_1536 : decode cL_law 1536 = .ok (.invokevirtual 87, 3) := by decide +kernel
theorem dL_law_1539 : decode cL_law 1539 = .ok (.if_icmp .eq 5, 3) := by decide +kernel
theorem dL_law_1542 : decode cL_law 1542 = .ok (.iconst 0, 1) := by decide +kernel
theorem dL_law_1543 : decode cL_law 1543 = .ok (.ireturn, 1) := by decide +kernel
theorem dL_law_1544 : decode cL_law 1544 = .ok (.iload 19, 2) := by decide +kernel
theorem dL_law_1546 : decode cL_law 1546 = .ok (.ifCond .lt 50, 3) := by decide +kernel
theorem dL_law_1549 : decode cL_law 1549 = .ok (.iload 20, 2) := by decide +kernel
theorem dL_law_1551 : decode cL_law 1551 = .ok (.bipush 6, 2) := by decide +kernel
theorem dL_law_1553 : decode cL_law 1553 = .ok (.if_icmp .ge 12, 3) := by decide +kernel
theorem dL_law_1556 : decode cL_law 1556 = .ok (.aload_n 1, 1) := by decide +kernel
theorem dL_law_1557 : decode cL_law 1557 = .ok (.iload 20, 2) := by decide +kernel
theorem dL_law_1559 : decode cL_law 1559 = .ok (.invokevirtual 171, 3) := by decide +kernel
theorem dL_law_1562 : decode cL_law 1562 = .ok (.ifCond .lt 32, 3) := by decide +kernel
theorem dL_law_1565 : decode cL_law 1565 = .ok (.aload_n 1, 1) := by decide +kernel
theorem dL_law_1566 : decode cL_law 1566 = .ok (.iconst 4, 1) := by decide +kernel
theorem dL_law_1567 : decode cL_law 1567 = .ok (.iconst 1, 1) := by decide +kernel
theorem dL_law_1568 : decode cL_law 1568 = .ok (.invokevirtual 84, 3) := by decide +kernel
theorem dL_law_1571 : decode cL_law 1571 = .ok (.iload 19, 2) := by decide +kernel
theorem dL_law_1573 : decode cL_law 1573 = .ok (.if_icmp .ne 21, 3) := by decide +kernel
theorem dL_law_1576 : decode cL_law 1576 = .ok (.aload_n 1, 1) := by decide +kernel
theorem dL_law_1577 : decode cL_law 1577 = .ok (.invokevirtual 114, 3) := by decide +kernel
theorem dL_law_1580 : decode cL_law 1580 = .ok (.ifCond .ne 14, 3) := by decide +kernel
theorem dL_law_1583 : decode cL_law 1583 = .ok (.aload_n 1, 1) := by decide +kernel
theorem dL_law_1584 : decode cL_law 1584 = .ok (.iconst 4, 1) := by decide +kernel
theorem dL_law_1585 : decode cL_law 1585 = .ok (.iconst 1, 1) := by decide +kernel
theorem dL_law_1586 : decode cL_law 1586 = .ok (.invokevirtual 84, 3) := by decide +kernel
theorem dL_law_1589 : decode cL_law 1589 = .ok (.iload 19, 2) := by decide +kernel
theorem dL_law_1591 : decode cL_law 1591 = .ok (.if_icmp .ge 5, 3) := by decide +kernel
theorem dL_law_1594 : decode cL_law 1594 = .ok (.iconst 0, 1) := by decide +kernel
theorem dL_law_1595 : decode cL_law 1595 = .ok (.ireturn, 1) := by decide +kernel
theorem dL_law_1596 : decode cL_law 1596 = .ok (.iconst 1, 1) := by decide +kernel
theorem dL_law_1597 : decode cL_law 1597 = .ok (.ireturn, 1) := by decide +kernel
