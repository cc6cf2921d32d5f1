theorem dL_cell_0 : decode cL_cell 0 = .ok (.aload_n 0, 1) := by decide +kernel
theorem dL_cell_1 : decode cL_cell 1 = .ok (.arraylength, 1) := by decide +kernel
theorem dL_cell_2 : decode cL_cell 2 = .ok (.ifCond .ne 12, 3) := by decide +kernel
theorem dL_cell_5 : decode cL_cell 5 = .ok (.iload_n 1, 1) := by decide +kernel
theorem dL_cell_6 : decode cL_cell 6 = .ok (.bipush 37, 2) := by decide +kernel
theorem dL_cell_8 : decode cL_cell 8 = .ok (.imul, 1) := by decide +kernel
theorem dL_cell_9 : decode cL_cell 9 = .ok (.iconst 5, 1) := by decide +kernel
theorem dL_cell_10 : decode cL_cell 10 = .ok (.iadd, 1) := by decide +kernel
theorem dL_cell_11 : decode cL_cell 11 = .ok (.goto 17, 3) := by decide +kernel
theorem dL_cell_14 : decode cL_cell 14 = .ok (.aload_n 0, 1) := by decide +kernel
theorem dL_cell_15 : decode cL_cell 15 = .ok (.iload_n 1, 1) := by decide +kernel
theorem dL_cell_16 : decode cL_cell 16 = .ok (.aload_n 0, 1) := by decide +kernel
theorem dL_cell_17 : decode cL_cell 17 = .ok (.arraylength, 1) := by decide +kernel
theorem dL_cell_18 : decode cL_cell 18 = .ok (.irem, 1) := by decide +kernel
theorem dL_cell_19 : decode cL_cell 19 = .ok (.iaload, 1) := by decide +kernel
theorem dL_cell_20 : decode cL_cell 20 = .ok (.iload_n 1, 1) := by decide +kernel
theorem dL_cell_21 : decode cL_cell 21 = .ok (.bipush 7, 2) := by decide +kernel
theorem dL_cell_23 : decode cL_cell 23 = .ok (.irem, 1) := by decide +kernel
theorem dL_cell_24 : decode cL_cell 24 = .ok (.ishr, 1) := by decide +kernel
theorem dL_cell_25 : decode cL_cell 25 = .ok (.ldc 7, 2) := by decide +kernel
theorem dL_cell_27 : decode cL_cell 27 = .ok (.iand, 1) := by decide +kernel
theorem dL_cell_28 : decode cL_cell 28 = .ok (.iload_n 2, 1) := by decide +kernel
theorem dL_cell_29 : decode cL_cell 29 = .ok (.irem, 1) := by decide +kernel
theorem dL_cell_30 : decode cL_cell 30 = .ok (.ireturn, 1) := by decide +kernel
theorem dL_many_0 : decode cL_many 0 = .ok (.iconst 0, 1) := by decide +kernel
theorem dL_many_1 : decode cL_many 1 = .ok (.istore_n 1, 1) := by decide +kernel
theorem dL_many_2 : decode cL_many 2 = .ok (.iconst 0, 1) := by decide +kernel
theorem dL_many_3 : decode cL_many 3 = .ok (.istore_n 2, 1) := by decide +kernel
theorem dL_many_4 : decode cL_many 4 = .ok (.iload_n 2, 1) := by decide +kernel
theorem dL_many_5 : decode cL_many 5 = .ok (.bipush 20, 2) := by decide +kernel
theorem dL_many_7 : decode cL_many 7 = .ok (.if_icmp .ge 17, 3) := by decide +kernel
theorem dL_many_10 : decode cL_many 10 = .ok (.iload_n 1, 1) := by decide +kernel
theorem dL_many_11 : decode cL_many 11 = .ok (.iload_n 0, 1) := by decide +kernel
theorem dL_many_12 : decode cL_many 12 = .ok (.iload_n 2, 1) := by decide +kernel
theorem dL_many_13 : decode cL_many 13 = .ok (.ishr, 1) := by decide +kernel
theorem dL_many_14 : decode cL_many 14 = .ok (.iconst 1, 1) := by decide +kernel
theorem dL_many_15 : decode cL_many 15 = .ok (.iand, 1) := by decide +kernel
theorem dL_many_16 : decode cL_many 16 = .ok (.iadd, 1) := by decide +kernel
theorem dL_many_17 : decode cL_many 17 = .ok (.istore_n 1, 1) := by decide +kernel
theorem dL_many_18 : decode cL_many 18 = .ok (.iinc 2 1, 3) := by decide +kernel
theorem dL_many_21 : decode cL_many 21 = .ok (.goto (-17), 3) := by decide +kernel
theorem dL_many_24 : decode cL_many 24 = .ok (.iload_n 1, 1) := by decide +kernel
theorem dL_many_25 : decode cL_many 25 = .ok (.ireturn, 1) := by decide +kernel
theorem dL_strength_0 : decode cL_strength 0 = .ok (.iconst 0, 1) := by decide +kernel
theorem dL_strength_1 : decode cL_strength 1 = .ok (.istore_n 1, 1) := by decide +kernel
theorem dL_strength_2 : decode cL_strength 2 = .ok (.iconst 0, 1) := by decide +kernel
theorem dL_strength_3 : decode cL_strength 3 = .ok (.istore_n 2, 1) := by decide +kernel
theorem dL_strength_4 : decode cL_strength 4 = .ok (.iload_n 2, 1) := by decide +kernel
theorem dL_strength_5 : decode cL_strength 5 = .ok (.bipush 20, 2) := by decide +kernel
theorem dL_strength_7 : decode cL_strength 7 = .ok (.if_icmp .ge 21, 3) := by decide +kernel
theorem dL_strength_10 : decode cL_strength 10 = .ok (.iload_n 1, 1) := by decide +kernel
theorem dL_strength_11 : decode cL_strength 11 = .ok (.iload_n 0, 1) := by decide +kernel
theorem dL_strength_12 : decode cL_strength 12 = .ok (.iload_n 2, 1) := by decide +kernel
theorem dL_strength_13 : decode cL_strength 13 = .ok (.ishr, 1) := by decide +kernel
theorem dL_strength_14 : decode cL_strength 14 = .ok (.iconst 1, 1) := by decide +kernel
theorem dL_strength_15 : decode cL_strength 15 = .ok (.iand, 1) := by decide +kernel
theorem dL_strength_16 : decode cL_strength 16 = .ok (.iload_n 2, 1) := by decide +kernel
theorem dL_strength_17 : decode cL_strength 17 = .ok (.iconst 5, 1) := by decide +kernel
theorem dL_strength_18 : decode cL_strength 18 = .ok (.irem, 1) := by decide +kernel
theorem dL_strength_19 : decode cL_strength 19 = .ok (.imul, 1) := by decide +kernel
theorem dL_strength_20 : decode cL_strength 20 = .ok (.iadd, 1) := by decide +kernel
theorem dL_strength_21 : decode cL_strength 21 = .ok (.istore_n 1, 1) := by decide +kernel
theorem dL_strength_22 : decode cL_strength 22 = .ok (.iinc 2 1, 3) := by decide +kernel
theorem dL_strength_25 : decode cL_strength 25 = .ok (.goto (-21), 3) := by decide +kernel
theorem dL_strength_28 : decode cL_strength 28 = .ok (.iload_n 1, 1) := by decide +kernel
theorem dL_strength_29 : decode cL_strength 29 = .ok (.ireturn, 1) := by decide +kernel
theorem dL_shape_0 : decode cL_shape 0 = .ok (.iload_n 0, 1) := by decide +kernel
theorem dL_shape_1 : decode cL_shape 1 = .ok (.bipush 31, 2) := by decide +kernel
theorem dL_shape_3 : decode cL_shape 3 = .ok (.iand, 1) := by decide +kernel
theorem dL_shape_4 : decode cL_shape 4 = .ok (.invokestatic 8, 3) := by decide +kernel
theorem dL_shape_7 : decode cL_shape 7 = .ok (.iload_n 0, 1) := by decide +kernel
theorem dL_shape_8 : decode cL_shape 8 = .ok (.sipush 992, 3) := by decide +kernel
theorem dL_shape_11 : decode cL_shape 11 = .ok (.iand, 1) := by decide +kernel
theorem dL_shape_12 : decode cL_shape 12 = .ok (.invokestatic 8, 3) := by decide +kernel
theorem dL_shape_15 : decode cL_shape 15 = .ok (.iconst 3, 1) := by decide +kernel
theorem dL_shape_16 : decode cL_shape 16 = .ok (.ishl, 1) := by decide +kernel
theorem dL_shape_17 : decode cL_shape 17 = .ok (.ior, 1) := by decide +kernel
theorem dL_shape_18 : decode cL_shape 18 = .ok (.iload_n 0, 1) := by decide +kernel
theorem dL_shape_19 : decode cL_shape 19 = .ok (.sipush 31744, 3) := by decide +kernel
theorem dL_shape_22 : decode cL_shape 22 = .ok (.iand, 1) := by decide +kernel
theorem dL_shape_23 : decode cL_shape 23 = .ok (.invokestatic 8, 3) := by decide +kernel
theorem dL_shape_26 : decode cL_shape 26 = .ok (.bipush 6, 2) := by decide +kernel
theorem dL_shape_28 : decode cL_shape 28 = .ok (.ishl, 1) := by decide +kernel
theorem dL_shape_29 : decode cL_shape 29 = .ok (.ior, 1) := by decide +kernel
theorem dL_shape_30 : decode cL_shape 30 = .ok (.iload_n 0, 1) := by decide +kernel
theorem dL_shape_31 : decode cL_shape 31 = .ok (.ldc 14, 2) := by decide +kernel
theorem dL_shape_33 : decode cL_shape 33 = .ok (.iand, 1) := by decide +kernel
theorem dL_shape_34 : decode cL_shape 34 = .ok (.invokestatic 8, 3) := by decide +kernel
theorem dL_shape_37 : decode cL_shape 37 = .ok (.bipush 9, 2) := by decide +kernel
theorem dL_shape_39 : decode cL_shape 39 = .ok (.ishl, 1) := by decide +kernel
theorem dL_shape_40 : decode cL_shape 40 = .ok (.ior, 1) := by decide +kernel
theorem dL_shape_41 : decode cL_shape 41 = .ok (.iload_n 0, 1) := by decide +kernel
theorem dL_shape_42 : decode cL_shape 42 = .ok (.invokestatic 15, 3) := by decide +kernel
theorem dL_shape_45 : decode cL_shape 45 = .ok (.bipush 12, 2) := by decide +kernel
theorem dL_shape_47 : decode cL_shape 47 = .ok (.ishl, 1) := by decide +kernel
theorem dL_shape_48 : decode cL_shape 48 = .ok (.ior, 1) := by decide +kernel
theorem dL_shape_49 : decode cL_shape 49 = .ok (.ireturn, 1) := by decide +kernel
theorem dL_fits_0 : decode cL_fits 0 = .ok (.iconst 0, 1) := by decide +kernel
theorem dL_fits_1 : decode cL_fits 1 = .ok (.istore_n 3, 1) := by decide +kernel
theorem dL_fits_2 : decode cL_fits 2 = .ok (.iload_n 3, 1) := by decide +kernel
theorem dL_fits_3 : decode cL_fits 3 = .ok (.iconst 4, 1) := by decide +kernel
theorem dL_fits_4 : decode cL_fits 4 = .ok (.if_icmp .ge 61, 3) := by decide +kernel
theorem dL_fits_7 : decode cL_fits 7 = .ok (.iload_n 0, 1) := by decide +kernel
theorem dL_fits_8 : decode cL_fits 8 = .ok (.iconst 3, 1) := by decide +kernel
theorem dL_fits_9 : decode cL_fits 9 = .ok (.iload_n 3, 1) := by decide +kernel
theorem dL_fits_10 : decode cL_fits 10 = .ok (.imul, 1) := by decide +kernel
theorem dL_fits_11 : decode cL_fits 11 = .ok (.ishr, 1) := by decide +kernel
theorem dL_fits_12 : decode cL_fits 12 = .ok (.bipush 7, 2) := by decide +kernel
theorem dL_fits_14 : decode cL_fits 14 = .ok (.iand, 1) := by decide +kernel
theorem dL_fits_15 : decode cL_fits 15 = .ok (.istore 4, 2) := by decide +kernel
theorem dL_fits_17 : decode cL_fits 17 = .ok (.iload 4, 2) := by decide +kernel
theorem dL_fits_19 : decode cL_fits 19 = .ok (.aload_n 1, 1) := by decide +kernel
theorem dL_fits_20 : decode cL_fits 20 = .ok (.bipush 16, 2) := by decide +kernel
theorem dL_fits_22 : decode cL_fits 22 = .ok (.iload_n 2, 1) := by decide +kernel
theorem dL_fits_23 : decode cL_fits 23 = .ok (.iadd, 1) := by decide +kernel
theorem dL_fits_24 : decode cL_fits 24 = .ok (.iaload, 1) := by decide +kernel
theorem dL_fits_25 : decode cL_fits 25 = .ok (.bipush 6, 2) := by decide +kernel
theorem dL_fits_27 : decode cL_fits 27 = .ok (.iload_n 3, 1) := by decide +kernel
theorem dL_fits_28 : decode cL_fits 28 = .ok (.imul, 1) := by decide +kernel
theorem dL_fits_29 : decode cL_fits 29 = .ok (.ishr, 1) := by decide +kernel
theorem dL_fits_30 : decode cL_fits 30 = .ok (.bipush 7, 2) := by decide +kernel
theorem dL_fits_32 : decode cL_fits 32 = .ok (.iand, 1) := by decide +kernel
theorem dL_fits_33 : decode cL_fits 33 = .ok (.if_icmp .lt 24, 3) := by decide +kernel
theorem dL_fits_36 : decode cL_fits 36 = .ok (.iload 4, 2) := by decide +kernel
theorem dL_fits_38 : decode cL_fits 38 = .ok (.aload_n 1, 1) := by decide +kernel
theorem dL_fits_39 : decode cL_fits 39 = .ok (.bipush 16, 2) := by decide +kernel
theorem dL_fits_41 : decode cL_fits 41 = .ok (.iload_n 2, 1) := by decide +kernel
theorem dL_fits_42 : decode cL_fits 42 = .ok (.iadd, 1) := by decide +kernel
theorem dL_fits_43 : decode cL_fits 43 = .ok (.iaload, 1) := by decide +kernel
theorem dL_fits_44 : decode cL_fits 44 = .ok (.bipush 6, 2) := by decide +kernel
theorem dL_fits_46 : decode cL_fits 46 = .ok (.iload_n 3, 1) := by decide +kernel
theorem dL_fits_47 : decode cL_fits 47 = .ok (.imul, 1) := by decide +kernel
theorem dL_fits_48 : decode cL_fits 48 = .ok (.iconst 3, 1) := by decide +kernel
theorem dL_fits_49 : decode cL_fits 49 = .ok (.iadd, 1) := by decide +kernel
theorem dL_fits_50 : decode cL_fits 50 = .ok (.ishr, 1) := by decide +kernel
theorem dL_fits_51 : decode cL_fits 51 = .ok (.bipush 7, 2) := by decide +kernel
theorem dL_fits_53 : decode cL_fits 53 = .ok (.iand, 1) := by decide +kernel
theorem dL_fits_54 : decode cL_fits 54 = .ok (.if_icmp .le 5, 3) := by decide +kernel
theorem dL_fits_57 : decode cL_fits 57 = .ok (.iconst 0, 1) := by decide +kernel
theorem dL_fits_58 : decode cL_fits 58 = .ok (.ireturn, 1) := by decide +kernel
theorem dL_fits_59 : decode cL_fits 59 = .ok (.iinc 3 1, 3) := by decide +kernel
theorem dL_fits_62 : decode cL_fits 62 = .ok (.goto (-60), 3) := by decide +kernel
theorem dL_fits_65 : decode cL_fits 65 = .ok (.iload_n 0, 1) := by decide +kernel
theorem dL_fits_66 : decode cL_fits 66 = .ok (.bipush 12, 2) := by decide +kernel
theorem dL_fits_68 : decode cL_fits 68 = .ok (.ishr, 1) := by decide +kernel
theorem dL_fits_69 : decode cL_fits 69 = .ok (.aload_n 1, 1) := by decide +kernel
theorem dL_fits_70 : decode cL_fits 70 = .ok (.bipush 24, 2) := by decide +kernel
theorem dL_fits_72 : decode cL_fits 72 = .ok (.iload_n 2, 1) := by decide +kernel
theorem dL_fits_73 : decode cL_fits 73 = .ok (.iadd, 1) := by decide +kernel
theorem dL_fits_74 : decode cL_fits 74 = .ok (.iaload, 1) := by decide +kernel
theorem dL_fits_75 : decode cL_fits 75 = .ok (.bipush 31, 2) := by decide +kernel
theorem dL_fits_77 : decode cL_fits 77 = .ok (.iand, 1) := by decide +kernel
theorem dL_fits_78 : decode cL_fits 78 = .ok (.if_icmp .lt 25, 3) := by decide +kernel
theorem dL_fits_81 : decode cL_fits 81 = .ok (.iload_n 0, 1) := by decide +kernel
theorem dL_fits_82 : decode cL_fits 82 = .ok (.bipush 12, 2) := by decide +kernel
theorem dL_fits_84 : decode cL_fits 84 = .ok (.ishr, 1) := by decide +kernel
theorem dL_fits_85 : decode cL_fits 85 = .ok (.aload_n 1, 1) := by decide +kernel
theorem dL_fits_86 : decode cL_fits 86 = .ok (.bipush 24, 2) := by decide +kernel
theorem dL_fits_88 : decode cL_fits 88 = .ok (.iload_n 2, 1) := by decide +kernel
theorem dL_fits_89 : decode cL_fits 89 = .ok (.iadd, 1) := by decide +kernel
theorem dL_fits_90 : decode cL_fits 90 = .ok (.iaload, 1) := by decide +kernel
theorem dL_fits_91 : decode cL_fits 91 = .ok (.iconst 5, 1) := by decide +kernel
theorem dL_fits_92 : decode cL_fits 92 = .ok (.ishr, 1) := by decide +kernel
theorem dL_fits_93 : decode cL_fits 93 = .ok (.bipush 31, 2) := by decide +kernel
theorem dL_fits_95 : decode cL_fits 95 = .ok (.iand, 1) := by decide +kernel
theorem dL_fits_96 : decode cL_fits 96 = .ok (.if_icmp .gt 7, 3) := by decide +kernel
theorem dL_fits_99 : decode cL_fits 99 = .ok (.iconst 1, 1) := by decide +kernel
theorem dL_fits_100 : decode cL_fits 100 = .ok (.goto 4, 3) := by decide +kernel
theorem dL_fits_103 : decode cL_fits 103 = .ok (.iconst 0, 1) := by decide +kernel
theorem dL_fits_104 : decode cL_fits 104 = .ok (.ireturn, 1) := by decide +kernel
theorem dL_ruleOf_0 : decode cL_ruleOf 0 = .ok (.iconst 0, 1) := by decide +kernel
theorem dL_ruleOf_1 : decode cL_ruleOf 1 = .ok (.istore 6, 2) := by decide +kernel
theorem dL_ruleOf_3 : decode cL_ruleOf 3 = .ok (.iload 6, 2) := by decide +kernel
theorem dL_ruleOf_5 : decode cL_ruleOf 5 = .ok (.iload_n 2, 1) := by decide +kernel
theorem dL_ruleOf_6 : decode cL_ruleOf 6 = .ok (.if_icmp .ge 74, 3) := by decide +kernel
theorem dL_ruleOf_9 : decode cL_ruleOf 9 = .ok (.aload_n 1, 1) := by decide +kernel
theorem dL_ruleOf_10 : decode cL_ruleOf 10 = .ok (.iload 6, 2) := by decide +kernel
theorem dL_ruleOf_12 : decode cL_ruleOf 12 = .ok (.iaload, 1) := by decide +kernel
theorem dL_ruleOf_13 : decode cL_ruleOf 13 = .ok (.iload_n 3, 1) := by decide +kernel
theorem dL_ruleOf_14 : decode cL_ruleOf 14 = .ok (.if_icmp .ne 39, 3) := by decide +kernel
theorem dL_ruleOf_17 : decode cL_ruleOf 17 = .ok (.aload_n 1, 1) := by decide +kernel
theorem dL_ruleOf_18 : decode cL_ruleOf 18 = .ok (.bipush 8, 2) := by decide +kernel
theorem dL_ruleOf_20 : decode cL_ruleOf 20 = .ok (.iload 6, 2) := by decide +kernel
theorem dL_ruleOf_22 : decode cL_ruleOf 22 = .ok (.iadd, 1) := by decide +kernel
theorem dL_ruleOf_23 : decode cL_ruleOf 23 = .ok (.iaload, 1) := by decide +kernel
theorem dL_ruleOf_24 : decode cL_ruleOf 24 = .ok (.bipush 25, 2) := by decide +kernel
theorem dL_ruleOf_26 : decode cL_ruleOf 26 = .ok (.if_icmp .ne 11, 3) := by decide +kernel
theorem dL_ruleOf_29 : decode cL_ruleOf 29 = .ok (.iload 5, 2) := by decide +kernel
theorem dL_ruleOf_31 : decode cL_ruleOf 31 = .ok (.ifCond .ne 22, 3) := by decide +kernel
theorem dL_ruleOf_34 : decode cL_ruleOf 34 = .ok (.goto 15, 3) := by decide +kernel
theorem dL_ruleOf_37 : decode cL_ruleOf 37 = .ok (.aload_n 1, 1) := by decide +kernel
theorem dL_ruleOf_38 : decode cL_ruleOf 38 = .ok (.bipush 8, 2) := by decide +kernel
theorem dL_ruleOf_40 : decode cL_ruleOf 40 = .ok (.iload 6, 2) := by decide +kernel
theorem dL_ruleOf_42 : decode cL_ruleOf 42 = .ok (.iadd, 1) := by decide +kernel
theorem dL_ruleOf_43 : decode cL_ruleOf 43 = .ok (.iaload, 1) := by decide +kernel
theorem dL_ruleOf_44 : decode cL_ruleOf 44 = .ok (.iload 4, 2) := by decide +kernel
theorem dL_ruleOf_46 : decode cL_ruleOf 46 = .ok (.if_icmp .le 7, 3) := by decide +kernel
theorem dL_ruleOf_49 : decode cL_ruleOf 49 = .ok (.iconst 1, 1) := by decide +kernel
theorem dL_ruleOf_50 : decode cL_ruleOf 50 = .ok (.goto 4, 3) := by decide +kernel
theorem dL_ruleOf_53 : decode cL_ruleOf 53 = .ok (.iconst 0, 1) := by decide +kernel
theorem dL_ruleOf_54 : decode cL_ruleOf 54 = .ok (.istore 7, 2) := by decide +kernel
theorem dL_ruleOf_56 : decode cL_ruleOf 56 = .ok (.iload 7, 2) := by decide +kernel
theorem dL_ruleOf_58 : decode cL_ruleOf 58 = .ok (.ifCond .eq 16, 3) := by decide +kernel
theorem dL_ruleOf_61 : decode cL_ruleOf 61 = .ok (.iload_n 0, 1) := by decide +kernel
theorem dL_ruleOf_62 : decode cL_ruleOf 62 = .ok (.aload_n 1, 1) := by decide +kernel
theorem dL_ruleOf_63 : decode cL_ruleOf 63 = .ok (.iload 6, 2) := by decide +kernel
theorem dL_ruleOf_65 : decode cL_ruleOf 65 = .ok (.invokestatic 18, 3) := by decide +kernel
theorem dL_ruleOf_68 : decode cL_ruleOf 68 = .ok (.ifCond .eq 6, 3) := by decide +kernel
theorem dL_ruleOf_71 : decode cL_ruleOf 71 = .ok (.iload 6, 2) := by decide +kernel
theorem dL_ruleOf_73 : decode cL_ruleOf 73 = .ok (.ireturn, 1) := by decide +kernel
theorem dL_ruleOf_74 : decode cL_ruleOf 74 = .ok (.iinc 6 1, 3) := by decide +kernel
theorem dL_ruleOf_77 : decode cL_ruleOf 77 = .ok (.goto (-74), 3) := by decide +kernel
theorem dL_ruleOf_80 : decode cL_ruleOf 80 = .ok (.bipush (-6), 2) := by decide +kernel
theorem dL_ruleOf_82 : decode cL_ruleOf 82 = .ok (.ireturn, 1) := by decide +kernel
theorem dL_lay_0 : decode cL_lay 0 = .ok (.iconst 0, 1) := by decide +kernel
theorem dL_lay_1 : decode cL_lay 1 = .ok (.istore_n 3, 1) := by decide +kernel
theorem dL_lay_2 : decode cL_lay 2 = .ok (.iconst 1, 1) := by decide +kernel
theorem dL_lay_3 : decode cL_lay 3 = .ok (.aload_n 1, 1) := by decide +kernel
theorem dL_lay_4 : decode cL_lay 4 = .ok (.iconst 0, 1) := by decide +kernel
theorem dL_lay_5 : decode cL_lay 5 = .ok (.bipush 8, 2) := by decide +kernel
theorem dL_lay_7 : decode cL_lay 7 = .ok (.invokestatic 22, 3) := by decide +kernel
theorem dL_lay_10 : decode cL_lay 10 = .ok (.iadd, 1) := by decide +kernel
theorem dL_lay_11 : decode cL_lay 11 = .ok (.istore 4, 2) := by decide +kernel
theorem dL_lay_13 : decode cL_lay 13 = .ok (.iconst 0, 1) := by decide +kernel
theorem dL_lay_14 : decode cL_lay 14 = .ok (.istore 5, 2) := by decide +kernel
theorem dL_lay_16 : decode cL_lay 16 = .ok (.iload 5, 2) := by decide +kernel
theorem dL_lay_18 : decode cL_lay 18 = .ok (.iload 4, 2) := by decide +kernel
theorem dL_lay_20 : decode cL_lay 20 = .ok (.if_icmp .ge 443, 3) := by decide +kernel
theorem dL_lay_23 : decode cL_lay 23 = .ok (.bipush 12, 2) := by decide +kernel
theorem dL_lay_25 : decode cL_lay 25 = .ok (.iload 5, 2) := by decide +kernel
theorem dL_lay_27 : decode cL_lay 27 = .ok (.imul, 1) := by decide +kernel
theorem dL_lay_28 : decode cL_lay 28 = .ok (.iconst 1, 1) := by decide +kernel
theorem dL_lay_29 : decode cL_lay 29 = .ok (.iadd, 1) := by decide +kernel
theorem dL_lay_30 : decode cL_lay 30 = .ok (.istore 6, 2) := by decide +kernel
theorem dL_lay_32 : decode cL_lay 32 = .ok (.aload_n 1, 1) := by decide +kernel
theorem dL_lay_33 : decode cL_lay 33 = .ok (.iload 6, 2) := by decide +kernel
theorem dL_lay_35 : decode cL_lay 35 = .ok (.iconst 3, 1) := by decide +kernel
theorem dL_lay_36 : decode cL_lay 36 = .ok (.invokestatic 22, 3) := by decide +kernel
theorem dL_lay_39 : decode cL_lay 39 = .ok (.istore 7, 2) := by decide +kernel
theorem dL_lay_41 : decode cL_lay 41 = .ok (.aload_n 1, 1) := by decide +kernel
theorem dL_lay_42 : decode cL_lay 42 = .ok (.iload 6, 2) := by decide +kernel
theorem dL_lay_44 : decode cL_lay 44 = .ok (.iconst 1, 1) := by decide +kernel
theorem dL_lay_45 : decode cL_lay 45 = .ok (.iadd, 1) := by decide +kernel
theorem dL_lay_46 : decode cL_lay 46 = .ok (.iconst 5, 1) := by decide +kernel
theorem dL_lay_47 : decode cL_lay 47 = .ok (.invokestatic 22, 3) := by decide +kernel
theorem dL_lay_50 : decode cL_lay 50 = .ok (.ifCond .ne 8, 3) := by decide +kernel
theorem dL_lay_53 : decode cL_lay 53 = .ok (.bipush 25, 2) := by decide +kernel
theorem dL_lay_55 : decode cL_lay 55 = .ok (.goto 13, 3) := by decide +kernel
theorem dL_lay_58 : decode cL_lay 58 = .ok (.aload_n 1, 1) := by decide +kernel
theorem dL_lay_59 : decode cL_lay 59 = .ok (.iload 6, 2) := by decide +kernel
theorem dL_lay_61 : decode cL_lay 61 = .ok (.iconst 2, 1) := by decide +kernel
theorem dL_lay_62 : decode cL_lay 62 = .ok (.iadd, 1) := by decide +kernel
theorem dL_lay_63 : decode cL_lay 63 = .ok (.bipush 25, 2) := by decide +kernel
theorem dL_lay_65 : decode cL_lay 65 = .ok (.invokestatic 22, 3) := by decide +kernel
theorem dL_lay_68 : decode cL_lay 68 = .ok (.istore 8, 2) := by decide +kernel
theorem dL_lay_70 : decode cL_lay 70 = .ok (.aload_n 1, 1) := by decide +kernel
theorem dL_lay_71 : decode cL_lay 71 = .ok (.iload 6, 2) := by decide +kernel
theorem dL_lay_73 : decode cL_lay 73 = .ok (.iconst 3, 1) := by decide +kernel
theorem dL_lay_74 : decode cL_lay 74 = .ok (.iadd, 1) := by decide +kernel
theorem dL_lay_75 : decode cL_lay 75 = .ok (.iconst 3, 1) := by decide +kernel
theorem dL_lay_76 : decode cL_lay 76 = .ok (.invokestatic 22, 3) := by decide +kernel
theorem dL_lay_79 : decode cL_lay 79 = .ok (.istore 9, 2) := by decide +kernel
theorem dL_lay_81 : decode cL_lay 81 = .ok (.aload_n 1, 1) := by decide +kernel
theorem dL_lay_82 : decode cL_lay 82 = .ok (.iload 6, 2) := by decide +kernel
theorem dL_lay_84 : decode cL_lay 84 = .ok (.iconst 4, 1) := by decide +kernel
theorem dL_lay_85 : decode cL_lay 85 = .ok (.iadd, 1) := by decide +kernel
theorem dL_lay_86 : decode cL_lay 86 = .ok (.iconst 3, 1) := by decide +kernel
theorem dL_lay_87 : decode cL_lay 87 = .ok (.invokestatic 22, 3) := by decide +kernel
theorem dL_lay_90 : decode cL_lay 90 = .ok (.ifCond .ne 7, 3) := by decide +kernel
theorem dL_lay_93 : decode cL_lay 93 = .ok (.iconst 1, 1) := by decide +kernel
theorem dL_lay_94 : decode cL_lay 94 = .ok (.goto 4, 3) := by decide +kernel
theorem dL_lay_97 : decode cL_lay 97 = .ok (.iconst 0, 1) := by decide +kernel
theorem dL_lay_98 : decode cL_lay 98 = .ok (.istore 10, 2) := by decide +kernel
theorem dL_lay_100 : decode cL_lay 100 = .ok (.iconst 0, 1) := by decide +kernel
theorem dL_lay_101 : decode cL_lay 101 = .ok (.istore 11, 2) := by decide +kernel
theorem dL_lay_103 : decode cL_lay 103 = .ok (.iconst 0, 1) := by decide +kernel
theorem dL_lay_104 : decode cL_lay 104 = .ok (.istore 12, 2) := by decide +kernel
theorem dL_lay_106 : decode cL_lay 106 = .ok (.iload 12, 2) := by decide +kernel
theorem dL_lay_108 : decode cL_lay 108 = .ok (.iload_n 3, 1) := by decide +kernel
theorem dL_lay_109 : decode cL_lay 109 = .ok (.if_icmp .ge 40, 3) := by decide +kernel
theorem dL_lay_112 : decode cL_lay 112 = .ok (.iload 11, 2) := by decide +kernel
theorem dL_lay_114 : decode cL_lay 114 = .ok (.aload_n 2, 1) := by decide +kernel
theorem dL_lay_115 : decode cL_lay 115 = .ok (.iload 12, 2) := by decide +kernel
theorem dL_lay_117 : decode cL_lay 117 = .ok (.iaload, 1) := by decide +kernel
theorem dL_lay_118 : decode cL_lay 118 = .ok (.iload 7, 2) := by decide +kernel
theorem dL_lay_120 : decode cL_lay 120 = .ok (.if_icmp .ne 19, 3) := by decide +kernel
theorem dL_lay_123 : decode cL_lay 123 = .ok (.aload_n 2, 1) := by decide +kernel
theorem dL_lay_124 : decode cL_lay 124 = .ok (.bipush 8, 2) := by decide +kernel
theorem dL_lay_126 : decode cL_lay 126 = .ok (.iload 12, 2) := by decide +kernel
theorem dL_lay_128 : decode cL_lay 128 = .ok (.iadd, 1) := by decide +kernel
theorem dL_lay_129 : decode cL_lay 129 = .ok (.iaload, 1) := by decide +kernel
theorem dL_lay_130 : decode cL_lay 130 = .ok (.iload 8, 2) := by decide +kernel
theorem dL_lay_132 : decode cL_lay 132 = .ok (.if_icmp .ne 7, 3) := by decide +kernel
theorem dL_lay_135 : decode cL_lay 135 = .ok (.iconst 1, 1) := by decide +kernel
theorem dL_lay_136 : decode cL_lay 136 = .ok (.goto 4, 3) := by decide +kernel
theorem dL_lay_139 : decode cL_lay 139 = .ok (.iconst 0, 1) := by decide +kernel
theorem dL_lay_140 : decode cL_lay 140 = .ok (.ior, 1) := by decide +kernel
theorem dL_lay_141 : decode cL_lay 141 = .ok (.istore 11, 2) := by decide +kernel
theorem dL_lay_143 : decode cL_lay 143 = .ok (.iinc 12 1, 3) := by decide +kernel
theorem dL_lay_146 : decode cL_lay 146 = .ok (.goto (-40), 3) := by decide +kernel
theorem dL_lay_149 : decode cL_lay 149 = .ok (.aload_n 0, 1) := by decide +kernel
theorem dL_lay_150 : decode cL_lay 150 = .ok (.iload 7, 2) := by decide +kernel
theorem dL_lay_152 : decode cL_lay 152 = .ok (.iload 8, 2) := by decide +kernel
theorem dL_lay_154 : decode cL_lay 154 = .ok (.iload 9, 2) := by decide +kernel
theorem dL_lay_156 : decode cL_lay 156 = .ok (.iload 10, 2) := by decide +kernel
theorem dL_lay_158 : decode cL_lay 158 = .ok (.invokevirtual 26, 3) := by decide +kernel
theorem dL_lay_161 : decode cL_lay 161 = .ok (.iload 11, 2) := by decide +kernel
theorem dL_lay_163 : decode cL_lay 163 = .ok (.ifCond .eq 8, 3) := by decide +kernel
theorem dL_lay_166 : decode cL_lay 166 = .ok (.bipush (-5), 2) := by decide +kernel
theorem dL_lay_168 : decode cL_lay 168 = .ok (.goto 4, 3) := by decide +kernel
theorem dL_lay_171 : decode cL_lay 171 = .ok (.iload_n 3, 1) := by decide +kernel
theorem dL_lay_172 : decode cL_lay 172 = .ok (.if_icmp .eq 5, 3) := by decide +kernel
theorem dL_lay_175 : decode cL_lay 175 = .ok (.iconst (-1), 1) := by decide +kernel
theorem dL_lay_176 : decode cL_lay 176 = .ok (.ireturn, 1) := by decide +kernel
theorem dL_lay_177 : decode cL_lay 177 = .ok (.iload 11, 2) := by decide +kernel
theorem dL_lay_179 : decode cL_lay 179 = .ok (.ifCond .ne 278, 3) := by decide +kernel
theorem dL_lay_182 : decode cL_lay 182 = .ok (.aload_n 2, 1) := by decide +kernel
theorem dL_lay_183 : decode cL_lay 183 = .ok (.iload_n 3, 1) := by decide +kernel
theorem dL_lay_184 : decode cL_lay 184 = .ok (.iload 7, 2) := by decide +kernel
theorem dL_lay_186 : decode cL_lay 186 = .ok (.iastore, 1) := by decide +kernel
theorem dL_lay_187 : decode cL_lay 187 = .ok (.aload_n 2, 1) := by decide +kernel
theorem dL_lay_188 : decode cL_lay 188 = .ok (.bipush 8, 2) := by decide +kernel
theorem dL_lay_190 : decode cL_lay 190 = .ok (.iload_n 3, 1) := by decide +kernel
theorem dL_lay_191 : decode cL_lay 191 = .ok (.iadd, 1) := by decide +kernel
theorem dL_lay_192 : decode cL_lay 192 = .ok (.iload 8, 2) := by decide +kernel
theorem dL_lay_194 : decode cL_lay 194 = .ok (.iastore, 1) := by decide +kernel
theorem dL_lay_195 : decode cL_lay 195 = .ok (.aload_n 2, 1) := by decide +kernel
theorem dL_lay_196 : decode cL_lay 196 = .ok (.bipush 32, 2) := by decide +kernel
theorem dL_lay_198 : decode cL_lay 198 = .ok (.iload_n 3, 1) := by decide +kernel
theorem dL_lay_199 : decode cL_lay 199 = .ok (.iadd, 1) := by decide +kernel
theorem dL_lay_200 : decode cL_lay 200 = .ok (.iload 9, 2) := by decide +kernel
theorem dL_lay_202 : decode cL_lay 202 = .ok (.iastore, 1) := by decide +kernel
theorem dL_lay_203 : decode cL_lay 203 = .ok (.aload_n 2, 1) := by decide +kernel
theorem dL_lay_204 : decode cL_lay 204 = .ok (.bipush 40, 2) := by decide +kernel
theorem dL_lay_206 : decode cL_lay 206 = .ok (.iload_n 3, 1) := by decide +kernel
theorem dL_lay_207 : decode cL_lay 207 = .ok (.iadd, 1) := by decide +kernel
theorem dL_lay_208 : decode cL_lay 208 = .ok (.iload 10, 2) := by decide +kernel
theorem dL_lay_210 : decode cL_lay 210 = .ok (.iastore, 1) := by decide +kernel
theorem dL_lay_211 : decode cL_lay 211 = .ok (.iconst 0, 1) := by decide +kernel
theorem dL_lay_212 : decode cL_lay 212 = .ok (.istore 12, 2) := by decide +kernel
theorem dL_lay_214 : decode cL_lay 214 = .ok (.iconst 0, 1) := by decide +kernel
theorem dL_lay_215 : decode cL_lay 215 = .ok (.istore 13, 2) := by decide +kernel
theorem dL_lay_217 : decode cL_lay 217 = .ok (.iload 13, 2) := by decide +kernel
theorem dL_lay_219 : decode cL_lay 219 = .ok (.iconst 4, 1) := by decide +kernel
theorem dL_lay_220 : decode cL_lay 220 = .ok (.if_icmp .ge 123, 3) := by decide +kernel
theorem dL_lay_223 : decode cL_lay 223 = .ok (.aload_n 1, 1) := by decide +kernel
theorem dL_lay_224 : decode cL_lay 224 = .ok (.iload 6, 2) := by decide +kernel
theorem dL_lay_226 : decode cL_lay 226 = .ok (.iconst 5, 1) := by decide +kernel
theorem dL_lay_227 : decode cL_lay 227 = .ok (.iadd, 1) := by decide +kernel
theorem dL_lay_228 : decode cL_lay 228 = .ok (.iload 13, 2) := by decide +kernel
theorem dL_lay_230 : decode cL_lay 230 = .ok (.iadd, 1) := by decide +kernel
theorem dL_lay_231 : decode cL_lay 231 = .ok (.iconst 3, 1) := by decide +kernel
theorem dL_lay_232 : decode cL_lay 232 = .ok (.invokestatic 22, 3) := by decide +kernel
theorem dL_lay_235 : decode cL_lay 235 = .ok (.ifCond .ne 7, 3) := by decide +kernel
theorem dL_lay_238 : decode cL_lay 238 = .ok (.iconst 1, 1) := by decide +kernel
theorem dL_lay_239 : decode cL_lay 239 = .ok (.goto 4, 3) := by decide +kernel
theorem dL_lay_242 : decode cL_lay 242 = .ok (.iconst 0, 1) := by decide +kernel
theorem dL_lay_243 : decode cL_lay 243 = .ok (.istore 14, 2) := by decide +kernel
theorem dL_lay_245 : decode cL_lay 245 = .ok (.iload 14, 2) := by decide +kernel
theorem dL_lay_247 : decode cL_lay 247 = .ok (.ifCond .eq 19, 3) := by decide +kernel
theorem dL_lay_250 : decode cL_lay 250 = .ok (.aload_n 1, 1) := by decide +kernel
theorem dL_lay_251 : decode cL_lay 251 = .ok (.iload 6, 2) := by decide +kernel
theorem dL_lay_253 : decode cL_lay 253 = .ok (.bipush 6, 2) := by decide +kernel
theorem dL_lay_255 : decode cL_lay 255 = .ok (.iadd, 1) := by decide +kernel
theorem dL_lay_256 : decode cL_lay 256 = .ok (.iload 13, 2) := by decide +kernel
theorem dL_lay_258 : decode cL_lay 258 = .ok (.iadd, 1) := by decide +kernel
theorem dL_lay_259 : decode cL_lay 259 = .ok (.iconst 3, 1) := by decide +kernel
theorem dL_lay_260 : decode cL_lay 260 = .ok (.invokestatic 22, 3) := by decide +kernel
theorem dL_lay_263 : decode cL_lay 263 = .ok (.goto 4, 3) := by decide +kernel
theorem dL_lay_266 : decode cL_lay 266 = .ok (.iconst 0, 1) := by decide +kernel
theorem dL_lay_267 : decode cL_lay 267 = .ok (.istore 15, 2) := by decide +kernel
theorem dL_lay_269 : decode cL_lay 269 = .ok (.iload 14, 2) := by decide +kernel
theorem dL_lay_271 : decode cL_lay 271 = .ok (.ifCond .eq 24, 3) := by decide +kernel
theorem dL_lay_274 : decode cL_lay 274 = .ok (.iload 15, 2) := by decide +kernel
theorem dL_lay_276 : decode cL_lay 276 = .ok (.iconst 1, 1) := by decide +kernel
theorem dL_lay_277 : decode cL_lay 277 = .ok (.iadd, 1) := by decide +kernel
theorem dL_lay_278 : decode cL_lay 278 = .ok (.aload_n 1, 1) := by decide +kernel
theorem dL_lay_279 : decode cL_lay 279 = .ok (.iload 6, 2) := by decide +kernel
theorem dL_lay_281 : decode cL_lay 281 = .ok (.bipush 7, 2) := by decide +kernel
theorem dL_lay_283 : decode cL_lay 283 = .ok (.iadd, 1) := by decide +kernel
theorem dL_lay_284 : decode cL_lay 284 = .ok (.iload 13, 2) := by decide +kernel
theorem dL_lay_286 : decode cL_lay 286 = .ok (.iadd, 1) := by decide +kernel
theorem dL_lay_287 : decode cL_lay 287 = .ok (.iconst 3, 1) := by decide +kernel
theorem dL_lay_288 : decode cL_lay 288 = .ok (.invokestatic 22, 3) := by decide +kernel
theorem dL_lay_291 : decode cL_lay 291 = .ok (.iadd, 1) := by decide +kernel
theorem dL_lay_292 : decode cL_lay 292 = .ok (.goto 4, 3) := by decide +kernel
theorem dL_lay_295 : decode cL_lay 295 = .ok (.iconst 5, 1) := by decide +kernel
theorem dL_lay_296 : decode cL_lay 296 = .ok (.istore 16, 2) := by decide +kernel
theorem dL_lay_298 : decode cL_lay 298 = .ok (.iload 12, 2) := by decide +kernel
theorem dL_lay_300 : decode cL_lay 300 = .ok (.iload 15, 2) := by decide +kernel
theorem dL_lay_302 : decode cL_lay 302 = .ok (.iload 16, 2) := by decide +kernel
theorem dL_lay_304 : decode cL_lay 304 = .ok (.iconst 3, 1) := by decide +kernel
theorem dL_lay_305 : decode cL_lay 305 = .ok (.ishl, 1) := by decide +kernel
theorem dL_lay_306 : decode cL_lay 306 = .ok (.ior, 1) := by decide +kernel
theorem dL_lay_307 : decode cL_lay 307 = .ok (.bipush 6, 2) := by decide +kernel
theorem dL_lay_309 : decode cL_lay 309 = .ok (.iload 13, 2) := by decide +kernel
theorem dL_lay_311 : decode cL_lay 311 = .ok (.imul, 1) := by decide +kernel
theorem dL_lay_312 : decode cL_lay 312 = .ok (.ishl, 1) := by decide +kernel
theorem dL_lay_313 : decode cL_lay 313 = .ok (.ior, 1) := by decide +kernel
theorem dL_lay_314 : decode cL_lay 314 = .ok (.istore 12, 2) := by decide +kernel
theorem dL_lay_316 : decode cL_lay 316 = .ok (.iload 14, 2) := by decide +kernel
theorem dL_lay_318 : decode cL_lay 318 = .ok (.ifCond .eq 19, 3) := by decide +kernel
theorem dL_lay_321 : decode cL_lay 321 = .ok (.aload_n 0, 1) := by decide +kernel
theorem dL_lay_322 : decode cL_lay 322 = .ok (.iload_n 3, 1) := by decide +kernel
theorem dL_lay_323 : decode cL_lay 323 = .ok (.iload 13, 2) := by decide +kernel
theorem dL_lay_325 : decode cL_lay 325 = .ok (.iload 15, 2) := by decide +kernel
theorem dL_lay_327 : decode cL_lay 327 = .ok (.iload 16, 2) := by decide +kernel
theorem dL_lay_329 : decode cL_lay 329 = .ok (.invokevirtual 32, 3) := by decide +kernel
theorem dL_lay_332 : decode cL_lay 332 = .ok (.ifCond .ge 5, 3) := by decide +kernel
theorem dL_lay_335 : decode cL_lay 335 = .ok (.iconst (-1), 1) := by decide +kernel
theorem dL_lay_336 : decode cL_lay 336 = .ok (.ireturn, 1) := by decide +kernel
theorem dL_lay_337 : decode cL_lay 337 = .ok (.iinc 13 1, 3) := by decide +kernel
theorem dL_lay_340 : decode cL_lay 340 = .ok (.goto (-123), 3) := by decide +kernel
theorem dL_lay_343 : decode cL_lay 343 = .ok (.aload_n 1, 1) := by decide +kernel
theorem dL_lay_344 : decode cL_lay 344 = .ok (.iload 6, 2) := by decide +kernel
theorem dL_lay_346 : decode cL_lay 346 = .ok (.bipush 10, 2) := by decide +kernel
theorem dL_lay_348 : decode cL_lay 348 = .ok (.iadd, 1) := by decide +kernel
theorem dL_lay_349 : decode cL_lay 349 = .ok (.iconst 2, 1) := by decide +kernel
theorem dL_lay_350 : decode cL_lay 350 = .ok (.invokestatic 22, 3) := by decide +kernel
theorem dL_lay_353 : decode cL_lay 353 = .ok (.ifCond .ne 7, 3) := by decide +kernel
theorem dL_lay_356 : decode cL_lay 356 = .ok (.iconst 1, 1) := by decide +kernel
theorem dL_lay_357 : decode cL_lay 357 = .ok (.goto 4, 3) := by decide +kernel
theorem dL_lay_360 : decode cL_lay 360 = .ok (.iconst 0, 1) := by decide +kernel
theorem dL_lay_361 : decode cL_lay 361 = .ok (.istore 13, 2) := by decide +kernel
theorem dL_lay_363 : decode cL_lay 363 = .ok (.iload 13, 2) := by decide +kernel
theorem dL_lay_365 : decode cL_lay 365 = .ok (.ifCond .eq 19, 3) := by decide +kernel
theorem dL_lay_368 : decode cL_lay 368 = .ok (.iconst 3, 1) := by decide +kernel
theorem dL_lay_369 : decode cL_lay 369 = .ok (.aload_n 1, 1) := by decide +kernel
theorem dL_lay_370 : decode cL_lay 370 = .ok (.iload 6, 2) := by decide +kernel
theorem dL_lay_372 : decode cL_lay 372 = .ok (.bipush 11, 2) := by decide +kernel
theorem dL_lay_374 : decode cL_lay 374 = .ok (.iadd, 1) := by decide +kernel
theorem dL_lay_375 : decode cL_lay 375 = .ok (.bipush 8, 2) := by decide +kernel
theorem dL_lay_377 : decode cL_lay 377 = .ok (.invokestatic 22, 3) := by decide +kernel
theorem dL_lay_380 : decode cL_lay 380 = .ok (.iadd, 1) := by decide +kernel
theorem dL_lay_381 : decode cL_lay 381 = .ok (.goto 4, 3) := by decide +kernel
theorem dL_lay_384 : decode cL_lay 384 = .ok (.iconst 0, 1) := by decide +kernel
theorem dL_lay_385 : decode cL_lay 385 = .ok (.istore 14, 2) := by decide +kernel
theorem dL_lay_387 : decode cL_lay 387 = .ok (.iload 13, 2) := by decide +kernel
theorem dL_lay_389 : decode cL_lay 389 = .ok (.ifCond .eq 20, 3) := by decide +kernel
theorem dL_lay_392 : decode cL_lay 392 = .ok (.iload 14, 2) := by decide +kernel
theorem dL_lay_394 : decode cL_lay 394 = .ok (.aload_n 1, 1) := by decide +kernel
theorem dL_lay_395 : decode cL_lay 395 = .ok (.iload 6, 2) := by decide +kernel
theorem dL_lay_397 : decode cL_lay 397 = .ok (.bipush 12, 2) := by decide +kernel
theorem dL_lay_399 : decode cL_lay 399 = .ok (.iadd, 1) := by decide +kernel
theorem dL_lay_400 : decode cL_lay 400 = .ok (.bipush 9, 2) := by decide +kernel
theorem dL_lay_402 : decode cL_lay 402 = .ok (.invokestatic 22, 3) := by decide +kernel
theorem dL_lay_405 : decode cL_lay 405 = .ok (.iadd, 1) := by decide +kernel
theorem dL_lay_406 : decode cL_lay 406 = .ok (.goto 5, 3) := by decide +kernel
theorem dL_lay_409 : decode cL_lay 409 = .ok (.bipush 20, 2) := by decide +kernel
theorem dL_lay_411 : decode cL_lay 411 = .ok (.istore 15, 2) := by decide +kernel
theorem dL_lay_413 : decode cL_lay 413 = .ok (.iload 13, 2) := by decide +kernel
theorem dL_lay_415 : decode cL_lay 415 = .ok (.ifCond .eq 18, 3) := by decide +kernel
theorem dL_lay_418 : decode cL_lay 418 = .ok (.aload_n 0, 1) := by decide +kernel
theorem dL_lay_419 : decode cL_lay 419 = .ok (.iload_n 3, 1) := by decide +kernel
theorem dL_lay_420 : decode cL_lay 420 = .ok (.iconst 4, 1) := by decide +kernel
theorem dL_lay_421 : decode cL_lay 421 = .ok (.iload 14, 2) := by decide +kernel
theorem dL_lay_423 : decode cL_lay 423 = .ok (.iload 15, 2) := by decide +kernel
theorem dL_lay_425 : decode cL_lay 425 = .ok (.invokevirtual 32, 3) := by decide +kernel
theorem dL_lay_428 : decode cL_lay 428 = .ok (.ifCond .ge 5, 3) := by decide +kernel
theorem dL_lay_431 : decode cL_lay 431 = .ok (.iconst (-1), 1) := by decide +kernel
theorem dL_lay_432 : decode cL_lay 432 = .ok (.ireturn, 1) := by decide +kernel
theorem dL_lay_433 : decode cL_lay 433 = .ok (.aload_n 2, 1) := by decide +kernel
theorem dL_lay_434 : decode cL_lay 434 = .ok (.bipush 16, 2) := by decide +kernel
theorem dL_lay_436 : decode cL_lay 436 = .ok (.iload_n 3, 1) := by decide +kernel
theorem dL_lay_437 : decode cL_lay 437 = .ok (.iadd, 1) := by decide +kernel
theorem dL_lay_438 : decode cL_lay 438 = .ok (.iload 12, 2) := by decide +kernel
theorem dL_lay_440 : decode cL_lay 440 = .ok (.iastore, 1) := by decide +kernel
theorem dL_lay_441 : decode cL_lay 441 = .ok (.aload_n 2, 1) := by decide +kernel
theorem dL_lay_442 : decode cL_lay 442 = .ok (.bipush 24, 2) := by decide +kernel
theorem dL_lay_444 : decode cL_lay 444 = .ok (.iload_n 3, 1) := by decide +kernel
theorem dL_lay_445 : decode cL_lay 445 = .ok (.iadd, 1) := by decide +kernel
theorem dL_lay_446 : decode cL_lay 446 = .ok (.iload 14, 2) := by decide +kernel
theorem dL_lay_448 : decode cL_lay 448 = .ok (.iload 15, 2) := by decide +kernel
theorem dL_lay_450 : decode cL_lay 450 = .ok (.iconst 5, 1) := by decide +kernel
theorem dL_lay_451 : decode cL_lay 451 = .ok (.ishl, 1) := by decide +kernel
theorem dL_lay_452 : decode cL_lay 452 = .ok (.ior, 1) := by decide +kernel
theorem dL_lay_453 : decode cL_lay 453 = .ok (.iastore, 1) := by decide +kernel
theorem dL_lay_454 : decode cL_lay 454 = .ok (.iinc 3 1, 3) := by decide +kernel
theorem dL_lay_457 : decode cL_lay 457 = .ok (.iinc 5 1, 3) := by decide +kernel
theorem dL_lay_460 : decode cL_lay 460 = .ok (.goto (-444), 3) := by decide +kernel
theorem dL_lay_463 : decode cL_lay 463 = .ok (.iload_n 3, 1) := by decide +kernel
theorem dL_lay_464 : decode cL_lay 464 = .ok (.ireturn, 1) := by decide +kernel
theorem dL_follow_0 : decode cL_follow 0 = .ok (.iconst 0, 1) := by decide +kernel
theorem dL_follow_1 : decode cL_follow 1 = .ok (.istore 4, 2) := by decide +kernel
theorem dL_follow_3 : decode cL_follow 3 = .ok (.bipush (-6), 2) := by decide +kernel
theorem dL_follow_5 : decode cL_follow 5 = .ok (.istore 5, 2) := by decide +kernel
theorem dL_follow_7 : decode cL_follow 7 = .ok (.iconst 0, 1) := by decide +kernel
theorem dL_follow_8 : decode cL_follow 8 = .ok (.istore 6, 2) := by decide +kernel
theorem dL_follow_10 : decode cL_follow 10 = .ok (.iconst 0, 1) := by decide +kernel
theorem dL_follow_11 : decode cL_follow 11 = .ok (.istore 7, 2) := by decide +kernel
theorem dL_follow_13 : decode cL_follow 13 = .ok (.iconst 0, 1) := by decide +kernel
theorem dL_follow_14 : decode cL_follow 14 = .ok (.istore 8, 2) := by decide +kernel
theorem dL_follow_16 : decode cL_follow 16 = .ok (.iload 8, 2) := by decide +kernel
theorem dL_follow_18 : decode cL_follow 18 = .ok (.ifCond .ne 370, 3) := by decide +kernel
theorem dL_follow_21 : decode cL_follow 21 = .ok (.aload_n 0, 1) := by decide +kernel
theorem dL_follow_22 : decode cL_follow 22 = .ok (.iload 7, 2) := by decide +kernel
theorem dL_follow_24 : decode cL_follow 24 = .ok (.iconst 2, 1) := by decide +kernel
theorem dL_follow_25 : decode cL_follow 25 = .ok (.irem, 1) := by decide +kernel
theorem dL_follow_26 : decode cL_follow 26 = .ok (.iconst 0, 1) := by decide +kernel
theorem dL_follow_27 : decode cL_follow 27 = .ok (.invokevirtual 35, 3) := by decide +kernel
theorem dL_follow_30 : decode cL_follow 30 = .ok (.istore 9, 2) := by decide +kernel
theorem dL_follow_32 : decode cL_follow 32 = .ok (.iload 9, 2) := by decide +kernel
theorem dL_follow_34 : decode cL_follow 34 = .ok (.invokestatic 39, 3) := by decide +kernel
theorem dL_follow_37 : decode cL_follow 37 = .ok (.aload_n 1, 1) := by decide +kernel
theorem dL_follow_38 : decode cL_follow 38 = .ok (.iload_n 2, 1) := by decide +kernel
theorem dL_follow_39 : decode cL_follow 39 = .ok (.iload 4, 2) := by decide +kernel
theorem dL_follow_41 : decode cL_follow 41 = .ok (.iload 5, 2) := by decide +kernel
theorem dL_follow_43 : decode cL_follow 43 = .ok (.iload 6, 2) := by decide +kernel
theorem dL_follow_45 : decode cL_follow 45 = .ok (.invokestatic 42, 3) := by decide +kernel
theorem dL_follow_48 : decode cL_follow 48 = .ok (.istore 10, 2) := by decide +kernel
theorem dL_follow_50 : decode cL_follow 50 = .ok (.aload_n 0, 1) := by decide +kernel
theorem dL_follow_51 : decode cL_follow 51 = .ok (.iconst 1, 1) := by decide +kernel
theorem dL_follow_52 : decode cL_follow 52 = .ok (.invokevirtual 46, 3) := by decide +kernel
theorem dL_follow_55 : decode cL_follow 55 = .ok (.iload 4, 2) := by decide +kernel
theorem dL_follow_57 : decode cL_follow 57 = .ok (.if_icmp .ne 78, 3) := by decide +kernel
theorem dL_follow_60 : decode cL_follow 60 = .ok (.aload_n 0, 1) := by decide +kernel
theorem dL_follow_61 : decode cL_follow 61 = .ok (.iconst 2, 1) := by decide +kernel
theorem dL_follow_62 : decode cL_follow 62 = .ok (.invokevirtual 46, 3) := by decide +kernel
theorem dL_follow_65 : decode cL_follow 65 = .ok (.iload 5, 2) := by decide +kernel
theorem dL_follow_67 : decode cL_follow 67 = .ok (.if_icmp .ne 68, 3) := by decide +kernel
theorem dL_follow_70 : decode cL_follow 70 = .ok (.aload_n 0, 1) := by decide +kernel
theorem dL_follow_71 : decode cL_follow 71 = .ok (.iconst 3, 1) := by decide +kernel
theorem dL_follow_72 : decode cL_follow 72 = .ok (.invokevirtual 46, 3) := by decide +kernel
theorem dL_follow_75 : decode cL_follow 75 = .ok (.iload 6, 2) := by decide +kernel
theorem dL_follow_77 : decode cL_follow 77 = .ok (.if_icmp .ne 58, 3) := by decide +kernel
theorem dL_follow_80 : decode cL_follow 80 = .ok (.aload_n 0, 1) := by decide +kernel
theorem dL_follow_81 : decode cL_follow 81 = .ok (.iconst 4, 1) := by decide +kernel
theorem dL_follow_82 : decode cL_follow 82 = .ok (.invokevirtual 46, 3) := by decide +kernel
theorem dL_follow_85 : decode cL_follow 85 = .ok (.iload 7, 2) := by decide +kernel
theorem dL_follow_87 : decode cL_follow 87 = .ok (.iconst 2, 1) := by decide +kernel
theorem dL_follow_88 : decode cL_follow 88 = .ok (.irem, 1) := by decide +kernel
theorem dL_follow_89 : decode cL_follow 89 = .ok (.if_icmp .ne 46, 3) := by decide +kernel
theorem dL_follow_92 : decode cL_follow 92 = .ok (.aload_n 0, 1) := by decide +kernel
theorem dL_follow_93 : decode cL_follow 93 = .ok (.iconst 5, 1) := by decide +kernel
theorem dL_follow_94 : decode cL_follow 94 = .ok (.invokevirtual 46, 3) := by decide +kernel
theorem dL_follow_97 : decode cL_follow 97 = .ok (.ifCond .ne 38, 3) := by decide +kernel
theorem dL_follow_100 : decode cL_follow 100 = .ok (.aload_n 0, 1) := by decide +kernel
theorem dL_follow_101 : decode cL_follow 101 = .ok (.iload 9, 2) := by decide +kernel
theorem dL_follow_103 : decode cL_follow 103 = .ok (.invokevirtual 49, 3) := by decide +kernel
theorem dL_follow_106 : decode cL_follow 106 = .ok (.iload 10, 2) := by decide +kernel
theorem dL_follow_108 : decode cL_follow 108 = .ok (.if_icmp .ne 27, 3) := by decide +kernel
theorem dL_follow_111 : decode cL_follow 111 = .ok (.aload_n 0, 1) := by decide +kernel
theorem dL_follow_112 : decode cL_follow 112 = .ok (.invokevirtual 51, 3) := by decide +kernel
theorem dL_follow_115 : decode cL_follow 115 = .ok (.iload 10, 2) := by decide +kernel
theorem dL_follow_117 : decode cL_follow 117 = .ok (.ifCond .ge 8, 3) := by decide +kernel
theorem dL_follow_120 : decode cL_follow 120 = .ok (.bipush (-6), 2) := by decide +kernel
theorem dL_follow_122 : decode cL_follow 122 = .ok (.goto 10, 3) := by decide +kernel
theorem dL_follow_125 : decode cL_follow 125 = .ok (.aload_n 1, 1) := by decide +kernel
theorem dL_follow_126 : decode cL_follow 126 = .ok (.bipush 8, 2) := by decide +kernel
theorem dL_follow_128 : decode cL_follow 128 = .ok (.iload 10, 2) := by decide +kernel
theorem dL_follow_130 : decode cL_follow 130 = .ok (.iadd, 1) := by decide +kernel
theorem dL_follow_131 : decode cL_follow 131 = .ok (.iaload, 1) := by decide +kernel
theorem dL_follow_132 : decode cL_follow 132 = .ok (.if_icmp .eq 5, 3) := by decide +kernel
theorem dL_follow_135 : decode cL_follow 135 = .ok (.iconst (-1), 1) := by decide +kernel
theorem dL_follow_136 : decode cL_follow 136 = .ok (.ireturn, 1) := by decide +kernel
theorem dL_follow_137 : decode cL_follow 137 = .ok (.iload 10, 2) := by decide +kernel
theorem dL_follow_139 : decode cL_follow 139 = .ok (.ifCond .ge 7, 3) := by decide +kernel
theorem dL_follow_142 : decode cL_follow 142 = .ok (.iconst 1, 1) := by decide +kernel
theorem dL_follow_143 : decode cL_follow 143 = .ok (.goto 4, 3) := by decide +kernel
theorem dL_follow_146 : decode cL_follow 146 = .ok (.iconst 0, 1) := by decide +kernel
theorem dL_follow_147 : decode cL_follow 147 = .ok (.istore 8, 2) := by decide +kernel
theorem dL_follow_149 : decode cL_follow 149 = .ok (.iload 8, 2) := by decide +kernel
theorem dL_follow_151 : decode cL_follow 151 = .ok (.ifCond .ne 206, 3) := by decide +kernel
theorem dL_follow_154 : decode cL_follow 154 = .ok (.aload_n 3, 1) := by decide +kernel
theorem dL_follow_155 : decode cL_follow 155 = .ok (.iconst 4, 1) := by decide +kernel
theorem dL_follow_156 : decode cL_follow 156 = .ok (.iload 7, 2) := by decide +kernel
theorem dL_follow_158 : decode cL_follow 158 = .ok (.imul, 1) := by decide +kernel
theorem dL_follow_159 : decode cL_follow 159 = .ok (.iload 4, 2) := by decide +kernel
theorem dL_follow_161 : decode cL_follow 161 = .ok (.iastore, 1) := by decide +kernel
theorem dL_follow_162 : decode cL_follow 162 = .ok (.aload_n 3, 1) := by decide +kernel
theorem dL_follow_163 : decode cL_follow 163 = .ok (.iconst 4, 1) := by decide +kernel
theorem dL_follow_164 : decode cL_follow 164 = .ok (.iload 7, 2) := by decide +kernel
theorem dL_follow_166 : decode cL_follow 166 = .ok (.imul, 1) := by decide +kernel
theorem dL_follow_167 : decode cL_follow 167 = .ok (.iconst 1, 1) := by decide +kernel
theorem dL_follow_168 : decode cL_follow 168 = .ok (.iadd, 1) := by decide +kernel
theorem dL_follow_169 : decode cL_follow 169 = .ok (.iload 5, 2) := by decide +kernel
theorem dL_follow_171 : decode cL_follow 171 = .ok (.iastore, 1) := by decide +kernel
theorem dL_follow_172 : decode cL_follow 172 = .ok (.aload_n 3, 1) := by decide +kernel
theorem dL_follow_173 : decode cL_follow 173 = .ok (.iconst 4, 1) := by decide +kernel
theorem dL_follow_174 : decode cL_follow 174 = .ok (.iload 7, 2) := by decide +kernel
theorem dL_follow_176 : decode cL_follow 176 = .ok (.imul, 1) := by decide +kernel
theorem dL_follow_177 : decode cL_follow 177 = .ok (.iconst 2, 1) := by decide +kernel
theorem dL_follow_178 : decode cL_follow 178 = .ok (.iadd, 1) := by decide +kernel
theorem dL_follow_179 : decode cL_follow 179 = .ok (.iload 6, 2) := by decide +kernel
theorem dL_follow_181 : decode cL_follow 181 = .ok (.iastore, 1) := by decide +kernel
theorem dL_follow_182 : decode cL_follow 182 = .ok (.aload_n 3, 1) := by decide +kernel
theorem dL_follow_183 : decode cL_follow 183 = .ok (.iconst 4, 1) := by decide +kernel
theorem dL_follow_184 : decode cL_follow 184 = .ok (.iload 7, 2) := by decide +kernel
theorem dL_follow_186 : decode cL_follow 186 = .ok (.imul, 1) := by decide +kernel
theorem dL_follow_187 : decode cL_follow 187 = .ok (.iconst 3, 1) := by decide +kernel
theorem dL_follow_188 : decode cL_follow 188 = .ok (.iadd, 1) := by decide +kernel
theorem dL_follow_189 : decode cL_follow 189 = .ok (.iload 10, 2) := by decide +kernel
theorem dL_follow_191 : decode cL_follow 191 = .ok (.iastore, 1) := by decide +kernel
theorem dL_follow_192 : decode cL_follow 192 = .ok (.aload_n 0, 1) := by decide +kernel
theorem dL_follow_193 : decode cL_follow 193 = .ok (.iload 7, 2) := by decide +kernel
theorem dL_follow_195 : decode cL_follow 195 = .ok (.iconst 0, 1) := by decide +kernel
theorem dL_follow_196 : decode cL_follow 196 = .ok (.invokevirtual 55, 3) := by decide +kernel
theorem dL_follow_199 : decode cL_follow 199 = .ok (.aload_n 1, 1) := by decide +kernel
theorem dL_follow_200 : decode cL_follow 200 = .ok (.bipush 8, 2) := by decide +kernel
theorem dL_follow_202 : decode cL_follow 202 = .ok (.iload 10, 2) := by decide +kernel
theorem dL_follow_204 : decode cL_follow 204 = .ok (.iadd, 1) := by decide +kernel
theorem dL_follow_205 : decode cL_follow 205 = .ok (.iaload, 1) := by decide +kernel
theorem dL_follow_206 : decode cL_follow 206 = .ok (.if_icmp .ne 39, 3) := by decide +kernel
theorem dL_follow_209 : decode cL_follow 209 = .ok (.aload_n 0, 1) := by decide +kernel
theorem dL_follow_210 : decode cL_follow 210 = .ok (.iload 7, 2) := by decide +kernel
theorem dL_follow_212 : decode cL_follow 212 = .ok (.iconst 1, 1) := by decide +kernel
theorem dL_follow_213 : decode cL_follow 213 = .ok (.invokevirtual 55, 3) := by decide +kernel
theorem dL_follow_216 : decode cL_follow 216 = .ok (.iload 10, 2) := by decide +kernel
theorem dL_follow_218 : decode cL_follow 218 = .ok (.if_icmp .ne 27, 3) := by decide +kernel
theorem dL_follow_221 : decode cL_follow 221 = .ok (.aload_n 0, 1) := by decide +kernel
theorem dL_follow_222 : decode cL_follow 222 = .ok (.iload 7, 2) := by decide +kernel
theorem dL_follow_224 : decode cL_follow 224 = .ok (.iconst 2, 1) := by decide +kernel
theorem dL_follow_225 : decode cL_follow 225 = .ok (.invokevirtual 55, 3) := by decide +kernel
theorem dL_follow_228 : decode cL_follow 228 = .ok (.iload 4, 2) := by decide +kernel
theorem dL_follow_230 : decode cL_follow 230 = .ok (.if_icmp .ne 15, 3) := by decide +kernel
theorem dL_follow_233 : decode cL_follow 233 = .ok (.aload_n 0, 1) := by decide +kernel
theorem dL_follow_234 : decode cL_follow 234 = .ok (.iload 7, 2) := by decide +kernel
theorem dL_follow_236 : decode cL_follow 236 = .ok (.iconst 3, 1) := by decide +kernel
theorem dL_follow_237 : decode cL_follow 237 = .ok (.invokevirtual 55, 3) := by decide +kernel
theorem dL_follow_240 : decode cL_follow 240 = .ok (.iload 6, 2) := by decide +kernel
theorem dL_follow_242 : decode cL_follow 242 = .ok (.if_icmp .eq 5, 3) := by decide +kernel
theorem dL_follow_245 : decode cL_follow 245 = .ok (.iconst (-1), 1) := by decide +kernel
theorem dL_follow_246 : decode cL_follow 246 = .ok (.ireturn, 1) := by decide +kernel
theorem dL_follow_247 : decode cL_follow 247 = .ok (.iinc 7 1, 3) := by decide +kernel
theorem dL_follow_250 : decode cL_follow 250 = .ok (.aload_n 1, 1) := by decide +kernel
theorem dL_follow_251 : decode cL_follow 251 = .ok (.bipush 8, 2) := by decide +kernel
theorem dL_follow_253 : decode cL_follow 253 = .ok (.iload 10, 2) := by decide +kernel
theorem dL_follow_255 : decode cL_follow 255 = .ok (.iadd, 1) := by decide +kernel
theorem dL_follow_256 : decode cL_follow 256 = .ok (.iaload, 1) := by decide +kernel
theorem dL_follow_257 : decode cL_follow 257 = .ok (.bipush 25, 2) := by decide +kernel
theorem dL_follow_259 : decode cL_follow 259 = .ok (.if_icmp .eq 10, 3) := by decide +kernel
theorem dL_follow_262 : decode cL_follow 262 = .ok (.iload 7, 2) := by decide +kernel
theorem dL_follow_264 : decode cL_follow 264 = .ok (.bipush 12, 2) := by decide +kernel
theorem dL_follow_266 : decode cL_follow 266 = .ok (.if_icmp .ne 7, 3) := by decide +kernel
theorem dL_follow_269 : decode cL_follow 269 = .ok (.iconst 1, 1) := by decide +kernel
theorem dL_follow_270 : decode cL_follow 270 = .ok (.goto 4, 3) := by decide +kernel
theorem dL_follow_273 : decode cL_follow 273 = .ok (.iconst 0, 1) := by decide +kernel
theorem dL_follow_274 : decode cL_follow 274 = .ok (.istore 8, 2) := by decide +kernel
theorem dL_follow_276 : decode cL_follow 276 = .ok (.aload_n 1, 1) := by decide +kernel
theorem dL_follow_277 : decode cL_follow 277 = .ok (.bipush 8, 2) := by decide +kernel
theorem dL_follow_279 : decode cL_follow 279 = .ok (.iload 10, 2) := by decide +kernel
theorem dL_follow_281 : decode cL_follow 281 = .ok (.iadd, 1) := by decide +kernel
theorem dL_follow_282 : decode cL_follow 282 = .ok (.iaload, 1) := by decide +kernel
theorem dL_follow_283 : decode cL_follow 283 = .ok (.bipush 25, 2) := by decide +kernel
theorem dL_follow_285 : decode cL_follow 285 = .ok (.if_icmp .ne 8, 3) := by decide +kernel
theorem dL_follow_288 : decode cL_follow 288 = .ok (.iload 4, 2) := by decide +kernel
theorem dL_follow_290 : decode cL_follow 290 = .ok (.goto 10, 3) := by decide +kernel
theorem dL_follow_293 : decode cL_follow 293 = .ok (.aload_n 1, 1) := by decide +kernel
theorem dL_follow_294 : decode cL_follow 294 = .ok (.bipush 32, 2) := by decide +kernel
theorem dL_follow_296 : decode cL_follow 296 = .ok (.iload 10, 2) := by decide +kernel
theorem dL_follow_298 : decode cL_follow 298 = .ok (.iadd, 1) := by decide +kernel
theorem dL_follow_299 : decode cL_follow 299 = .ok (.iaload, 1) := by decide +kernel
theorem dL_follow_300 : decode cL_follow 300 = .ok (.istore 4, 2) := by decide +kernel
theorem dL_follow_302 : decode cL_follow 302 = .ok (.aload_n 1, 1) := by decide +kernel
theorem dL_follow_303 : decode cL_follow 303 = .ok (.bipush 8, 2) := by decide +kernel
theorem dL_follow_305 : decode cL_follow 305 = .ok (.iload 10, 2) := by decide +kernel
theorem dL_follow_307 : decode cL_follow 307 = .ok (.iadd, 1) := by decide +kernel
theorem dL_follow_308 : decode cL_follow 308 = .ok (.iaload, 1) := by decide +kernel
theorem dL_follow_309 : decode cL_follow 309 = .ok (.bipush 25, 2) := by decide +kernel
theorem dL_follow_311 : decode cL_follow 311 = .ok (.if_icmp .ne 8, 3) := by decide +kernel
theorem dL_follow_314 : decode cL_follow 314 = .ok (.iload 5, 2) := by decide +kernel
theorem dL_follow_316 : decode cL_follow 316 = .ok (.goto 10, 3) := by decide +kernel
theorem dL_follow_319 : decode cL_follow 319 = .ok (.aload_n 1, 1) := by decide +kernel
theorem dL_follow_320 : decode cL_follow 320 = .ok (.bipush 8, 2) := by decide +kernel
theorem dL_follow_322 : decode cL_follow 322 = .ok (.iload 10, 2) := by decide +kernel
theorem dL_follow_324 : decode cL_follow 324 = .ok (.iadd, 1) := by decide +kernel
theorem dL_follow_325 : decode cL_follow 325 = .ok (.iaload, 1) := by decide +kernel
theorem dL_follow_326 : decode cL_follow 326 = .ok (.istore 5, 2) := by decide +kernel
theorem dL_follow_328 : decode cL_follow 328 = .ok (.aload_n 1, 1) := by decide +kernel
theorem dL_follow_329 : decode cL_follow 329 = .ok (.bipush 8, 2) := by decide +kernel
theorem dL_follow_331 : decode cL_follow 331 = .ok (.iload 10, 2) := by decide +kernel
theorem dL_follow_333 : decode cL_follow 333 = .ok (.iadd, 1) := by decide +kernel
theorem dL_follow_334 : decode cL_follow 334 = .ok (.iaload, 1) := by decide +kernel
theorem dL_follow_335 : decode cL_follow 335 = .ok (.bipush 25, 2) := by decide +kernel
theorem dL_follow_337 : decode cL_follow 337 = .ok (.if_icmp .ne 8, 3) := by decide +kernel
theorem dL_follow_340 : decode cL_follow 340 = .ok (.iload 6, 2) := by decide +kernel
theorem dL_follow_342 : decode cL_follow 342 = .ok (.goto 10, 3) := by decide +kernel
theorem dL_follow_345 : decode cL_follow 345 = .ok (.aload_n 1, 1) := by decide +kernel
theorem dL_follow_346 : decode cL_follow 346 = .ok (.bipush 40, 2) := by decide +kernel
theorem dL_follow_348 : decode cL_follow 348 = .ok (.iload 10, 2) := by decide +kernel
theorem dL_follow_350 : decode cL_follow 350 = .ok (.iadd, 1) := by decide +kernel
theorem dL_follow_351 : decode cL_follow 351 = .ok (.iaload, 1) := by decide +kernel
theorem dL_follow_352 : decode cL_follow 352 = .ok (.istore 6, 2) := by decide +kernel
theorem dL_follow_354 : decode cL_follow 354 = .ok (.goto 31, 3) := by decide +kernel
theorem dL_follow_357 : decode cL_follow 357 = .ok (.aload_n 3, 1) := by decide +kernel
theorem dL_follow_358 : decode cL_follow 358 = .ok (.iconst 4, 1) := by decide +kernel
theorem dL_follow_359 : decode cL_follow 359 = .ok (.iload 7, 2) := by decide +kernel
theorem dL_follow_361 : decode cL_follow 361 = .ok (.imul, 1) := by decide +kernel
theorem dL_follow_362 : decode cL_follow 362 = .ok (.iload 4, 2) := by decide +kernel
theorem dL_follow_364 : decode cL_follow 364 = .ok (.iastore, 1) := by decide +kernel
theorem dL_follow_365 : decode cL_follow 365 = .ok (.aload_n 3, 1) := by decide +kernel
theorem dL_follow_366 : decode cL_follow 366 = .ok (.iconst 4, 1) := by decide +kernel
theorem dL_follow_367 : decode cL_follow 367 = .ok (.iload 7, 2) := by decide +kernel
theorem dL_follow_369 : decode cL_follow 369 = .ok (.imul, 1) := by decide +kernel
theorem dL_follow_370 : decode cL_follow 370 = .ok (.iconst 1, 1) := by decide +kernel
theorem dL_follow_371 : decode cL_follow 371 = .ok (.iadd, 1) := by decide +kernel
theorem dL_follow_372 : decode cL_follow 372 = .ok (.iload 5, 2) := by decide +kernel
theorem dL_follow_374 : decode cL_follow 374 = .ok (.iastore, 1) := by decide +kernel
theorem dL_follow_375 : decode cL_follow 375 = .ok (.aload_n 3, 1) := by decide +kernel
theorem dL_follow_376 : decode cL_follow 376 = .ok (.iconst 4, 1) := by decide +kernel
theorem dL_follow_377 : decode cL_follow 377 = .ok (.iload 7, 2) := by decide +kernel
theorem dL_follow_379 : decode cL_follow 379 = .ok (.imul, 1) := by decide +kernel
theorem dL_follow_380 : decode cL_follow 380 = .ok (.iconst 2, 1) := by decide +kernel
theorem dL_follow_381 : decode cL_follow 381 = .ok (.iadd, 1) := by decide +kernel
theorem dL_follow_382 : decode cL_follow 382 = .ok (.iload 6, 2) := by decide +kernel
theorem dL_follow_384 : decode cL_follow 384 = .ok (.iastore, 1) := by decide +kernel
theorem dL_follow_385 : decode cL_follow 385 = .ok (.goto (-369), 3) := by decide +kernel
theorem dL_follow_388 : decode cL_follow 388 = .ok (.aload_n 0, 1) := by decide +kernel
theorem dL_follow_389 : decode cL_follow 389 = .ok (.iconst 5, 1) := by decide +kernel
theorem dL_follow_390 : decode cL_follow 390 = .ok (.invokevirtual 46, 3) := by decide +kernel
theorem dL_follow_393 : decode cL_follow 393 = .ok (.ifCond .eq 22, 3) := by decide +kernel
theorem dL_follow_396 : decode cL_follow 396 = .ok (.aload_n 0, 1) := by decide +kernel
theorem dL_follow_397 : decode cL_follow 397 = .ok (.invokevirtual 51, 3) := by decide +kernel
theorem dL_follow_400 : decode cL_follow 400 = .ok (.bipush (-5), 2) := by decide +kernel
theorem dL_follow_402 : decode cL_follow 402 = .ok (.if_icmp .ne 13, 3) := by decide +kernel
theorem dL_follow_405 : decode cL_follow 405 = .ok (.aload_n 0, 1) := by decide +kernel
theorem dL_follow_406 : decode cL_follow 406 = .ok (.iconst 0, 1) := by decide +kernel
theorem dL_follow_407 : decode cL_follow 407 = .ok (.invokevirtual 46, 3) := by decide +kernel
theorem dL_follow_410 : decode cL_follow 410 = .ok (.iload 7, 2) := by decide +kernel
theorem dL_follow_412 : decode cL_follow 412 = .ok (.if_icmp .eq 7, 3) := by decide +kernel
theorem dL_follow_415 : decode cL_follow 415 = .ok (.iconst (-1), 1) := by decide +kernel
theorem dL_follow_416 : decode cL_follow 416 = .ok (.goto 5, 3) := by decide +kernel
theorem dL_follow_419 : decode cL_follow 419 = .ok (.iload 7, 2) := by decide +kernel
theorem dL_follow_421 : decode cL_follow 421 = .ok (.ireturn, 1) := by decide +kernel
theorem dL_agrees_0 : decode cL_agrees 0 = .ok (.iload 6, 2) := by decide +kernel
theorem dL_agrees_2 : decode cL_agrees 2 = .ok (.istore 7, 2) := by decide +kernel
theorem dL_agrees_4 : decode cL_agrees 4 = .ok (.iload 7, 2) := by decide +kernel
theorem dL_agrees_6 : decode cL_agrees 6 = .ok (.iload 4, 2) := by decide +kernel
theorem dL_agrees_8 : decode cL_agrees 8 = .ok (.if_icmp .ge 50, 3) := by decide +kernel
theorem dL_agrees_11 : decode cL_agrees 11 = .ok (.iload_n 0, 1) := by decide +kernel
theorem dL_agrees_12 : decode cL_agrees 12 = .ok (.aload_n 1, 1) := by decide +kernel
theorem dL_agrees_13 : decode cL_agrees 13 = .ok (.iload_n 2, 1) := by decide +kernel
theorem dL_agrees_14 : decode cL_agrees 14 = .ok (.aload_n 3, 1) := by decide +kernel
theorem dL_agrees_15 : decode cL_agrees 15 = .ok (.iconst 4, 1) := by decide +kernel
theorem dL_agrees_16 : decode cL_agrees 16 = .ok (.iload 7, 2) := by decide +kernel
theorem dL_agrees_18 : decode cL_agrees 18 = .ok (.imul, 1) := by decide +kernel
theorem dL_agrees_19 : decode cL_agrees 19 = .ok (.iaload, 1) := by decide +kernel
theorem dL_agrees_20 : decode cL_agrees 20 = .ok (.aload_n 3, 1) := by decide +kernel
theorem dL_agrees_21 : decode cL_agrees 21 = .ok (.iconst 4, 1) := by decide +kernel
theorem dL_agrees_22 : decode cL_agrees 22 = .ok (.iload 7, 2) := by decide +kernel
theorem dL_agrees_24 : decode cL_agrees 24 = .ok (.imul, 1) := by decide +kernel
theorem dL_agrees_25 : decode cL_agrees 25 = .ok (.iconst 1, 1) := by decide +kernel
theorem dL_agrees_26 : decode cL_agrees 26 = .ok (.iadd, 1) := by decide +kernel
theorem dL_agrees_27 : decode cL_agrees 27 = .ok (.iaload, 1) := by decide +kernel
theorem dL_agrees_28 : decode cL_agrees 28 = .ok (.aload_n 3, 1) := by decide +kernel
theorem dL_agrees_29 : decode cL_agrees 29 = .ok (.iconst 4, 1) := by decide +kernel
theorem dL_agrees_30 : decode cL_agrees 30 = .ok (.iload 7, 2) := by decide +kernel
theorem dL_agrees_32 : decode cL_agrees 32 = .ok (.imul, 1) := by decide +kernel
theorem dL_agrees_33 : decode cL_agrees 33 = .ok (.iconst 2, 1) := by decide +kernel
theorem dL_agrees_34 : decode cL_agrees 34 = .ok (.iadd, 1) := by decide +kernel
theorem dL_agrees_35 : decode cL_agrees 35 = .ok (.iaload, 1) := by decide +kernel
theorem dL_agrees_36 : decode cL_agrees 36 = .ok (.invokestatic 42, 3) := by decide +kernel
theorem dL_agrees_39 : decode cL_agrees 39 = .ok (.aload_n 3, 1) := by decide +kernel
theorem dL_agrees_40 : decode cL_agrees 40 = .ok (.iconst 4, 1) := by decide +kernel
theorem dL_agrees_41 : decode cL_agrees 41 = .ok (.iload 7, 2) := by decide +kernel
theorem dL_agrees_43 : decode cL_agrees 43 = .ok (.imul, 1) := by decide +kernel
theorem dL_agrees_44 : decode cL_agrees 44 = .ok (.iconst 3, 1) := by decide +kernel
theorem dL_agrees_45 : decode cL_agrees 45 = .ok (.iadd, 1) := by decide +kernel
theorem dL_agrees_46 : decode cL_agrees 46 = .ok (.iaload, 1) := by decide +kernel
theorem dL_agrees_47 : decode cL_agrees 47 = .ok (.if_icmp .eq 5, 3) := by decide +kernel
theorem dL_agrees_50 : decode cL_agrees 50 = .ok (.iconst 0, 1) := by decide +kernel
theorem dL_agrees_51 : decode cL_agrees 51 = .ok (.ireturn, 1) := by decide +kernel
theorem dL_agrees_52 : decode cL_agrees 52 = .ok (.iinc 7 2, 3) := by decide +kernel
theorem dL_agrees_55 : decode cL_agrees 55 = .ok (.goto (-51), 3) := by decide +kernel
theorem dL_agrees_58 : decode cL_agrees 58 = .ok (.iload 5, 2) := by decide +kernel
theorem dL_agrees_60 : decode cL_agrees 60 = .ok (.ifCond .eq 43, 3) := by decide +kernel
theorem dL_agrees_63 : decode cL_agrees 63 = .ok (.iload 4, 2) := by decide +kernel
theorem dL_agrees_65 : decode cL_agrees 65 = .ok (.iconst 2, 1) := by decide +kernel
theorem dL_agrees_66 : decode cL_agrees 66 = .ok (.irem, 1) := by decide +kernel
theorem dL_agrees_67 : decode cL_agrees 67 = .ok (.iload 6, 2) := by decide +kernel
theorem dL_agrees_69 : decode cL_agrees 69 = .ok (.if_icmp .ne 34, 3) := by decide +kernel
theorem dL_agrees_72 : decode cL_agrees 72 = .ok (.iload_n 0, 1) := by decide +kernel
theorem dL_agrees_73 : decode cL_agrees 73 = .ok (.aload_n 1, 1) := by decide +kernel
theorem dL_agrees_74 : decode cL_agrees 74 = .ok (.iload_n 2, 1) := by decide +kernel
theorem dL_agrees_75 : decode cL_agrees 75 = .ok (.aload_n 3, 1) := by decide +kernel
theorem dL_agrees_76 : decode cL_agrees 76 = .ok (.iconst 4, 1) := by decide +kernel
theorem dL_agrees_77 : decode cL_agrees 77 = .ok (.iload 4, 2) := by decide +kernel
theorem dL_agrees_79 : decode cL_agrees 79 = .ok (.imul, 1) := by decide +kernel
theorem dL_agrees_80 : decode cL_agrees 80 = .ok (.iaload, 1) := by decide +kernel
theorem dL_agrees_81 : decode cL_agrees 81 = .ok (.aload_n 3, 1) := by decide +kernel
theorem dL_agrees_82 : decode cL_agrees 82 = .ok (.iconst 4, 1) := by decide +kernel
theorem dL_agrees_83 : decode cL_agrees 83 = .ok (.iload 4, 2) := by decide +kernel
theorem dL_agrees_85 : decode cL_agrees 85 = .ok (.imul, 1) := by decide +kernel
theorem dL_agrees_86 : decode cL_agrees 86 = .ok (.iconst 1, 1) := by decide +kernel
theorem dL_agrees_87 : decode cL_agrees 87 = .ok (.iadd, 1) := by decide +kernel
theorem dL_agrees_88 : decode cL_agrees 88 = .ok (.iaload, 1) := by decide +kernel
theorem dL_agrees_89 : decode cL_agrees 89 = .ok (.aload_n 3, 1) := by decide +kernel
theorem dL_agrees_90 : decode cL_agrees 90 = .ok (.iconst 4, 1) := by decide +kernel
theorem dL_agrees_91 : decode cL_agrees 91 = .ok (.iload 4, 2) := by decide +kernel
theorem dL_agrees_93 : decode cL_agrees 93 = .ok (.imul, 1) := by decide +kernel
theorem dL_agrees_94 : decode cL_agrees 94 = .ok (.iconst 2, 1) := by decide +kernel
theorem dL_agrees_95 : decode cL_agrees 95 = .ok (.iadd, 1) := by decide +kernel
theorem dL_agrees_96 : decode cL_agrees 96 = .ok (.iaload, 1) := by decide +kernel
theorem dL_agrees_97 : decode cL_agrees 97 = .ok (.invokestatic 42, 3) := by decide +kernel
theorem dL_agrees_100 : decode cL_agrees 100 = .ok (.ifCond .ge 7, 3) := by decide +kernel
theorem dL_agrees_103 : decode cL_agrees 103 = .ok (.iconst 1, 1) := by decide +kernel
theorem dL_agrees_104 : decode cL_agrees 104 = .ok (.goto 4, 3) := by decide +kernel
theorem dL_agrees_107 : decode cL_agrees 107 = .ok (.iconst 0, 1) := by decide +kernel
theorem dL_agrees_108 : decode cL_agrees 108 = .ok (.ireturn, 1) := by decide +kernel
theorem dL_winners_0 : decode cL_winners 0 = .ok (.iconst 0, 1) := by decide +kernel
theorem dL_winners_1 : decode cL_winners 1 = .ok (.istore_n 3, 1) := by decide +kernel
theorem dL_winners_2 : decode cL_winners 2 = .ok (.iload_n 0, 1) := by decide +kernel
theorem dL_winners_3 : decode cL_winners 3 = .ok (.iload_n 1, 1) := by decide +kernel
theorem dL_winners_4 : decode cL_winners 4 = .ok (.ior, 1) := by decide +kernel
theorem dL_winners_5 : decode cL_winners 5 = .ok (.istore 4, 2) := by decide +kernel
theorem dL_winners_7 : decode cL_winners 7 = .ok (.iconst 5, 1) := by decide +kernel
theorem dL_winners_8 : decode cL_winners 8 = .ok (.iload_n 2, 1) := by decide +kernel
theorem dL_winners_9 : decode cL_winners 9 = .ok (.imul, 1) := by decide +kernel
theorem dL_winners_10 : decode cL_winners 10 = .ok (.iconst 4, 1) := by decide +kernel
theorem dL_winners_11 : decode cL_winners 11 = .ok (.iadd, 1) := by decide +kernel
theorem dL_winners_12 : decode cL_winners 12 = .ok (.istore 5, 2) := by decide +kernel
theorem dL_winners_14 : decode cL_winners 14 = .ok (.iload 5, 2) := by decide +kernel
theorem dL_winners_16 : decode cL_winners 16 = .ok (.iconst 5, 1) := by decide +kernel
theorem dL_winners_17 : decode cL_winners 17 = .ok (.iload_n 2, 1) := by decide +kernel
theorem dL_winners_18 : decode cL_winners 18 = .ok (.imul, 1) := by decide +kernel
theorem dL_winners_19 : decode cL_winners 19 = .ok (.if_icmp .lt 23, 3) := by decide +kernel
theorem dL_winners_22 : decode cL_winners 22 = .ok (.iload 4, 2) := by decide +kernel
theorem dL_winners_24 : decode cL_winners 24 = .ok (.iload 5, 2) := by decide +kernel
theorem dL_winners_26 : decode cL_winners 26 = .ok (.ishr, 1) := by decide +kernel
theorem dL_winners_27 : decode cL_winners 27 = .ok (.iconst 1, 1) := by decide +kernel
theorem dL_winners_28 : decode cL_winners 28 = .ok (.iand, 1) := by decide +kernel
theorem dL_winners_29 : decode cL_winners 29 = .ok (.iconst 1, 1) := by decide +kernel
theorem dL_winners_30 : decode cL_winners 30 = .ok (.if_icmp .ne 12, 3) := by decide +kernel
theorem dL_winners_33 : decode cL_winners 33 = .ok (.iinc 3 1, 3) := by decide +kernel
theorem dL_winners_36 : decode cL_winners 36 = .ok (.iinc 5 (-1), 3) := by decide +kernel
theorem dL_winners_39 : decode cL_winners 39 = .ok (.goto (-25), 3) := by decide +kernel
theorem dL_winners_42 : decode cL_winners 42 = .ok (.iload_n 0, 1) := by decide +kernel
theorem dL_winners_43 : decode cL_winners 43 = .ok (.iconst 5, 1) := by decide +kernel
theorem dL_winners_44 : decode cL_winners 44 = .ok (.iload_n 2, 1) := by decide +kernel
theorem dL_winners_45 : decode cL_winners 45 = .ok (.imul, 1) := by decide +kernel
theorem dL_winners_46 : decode cL_winners 46 = .ok (.ishr, 1) := by decide +kernel
theorem dL_winners_47 : decode cL_winners 47 = .ok (.bipush 31, 2) := by decide +kernel
theorem dL_winners_49 : decode cL_winners 49 = .ok (.iand, 1) := by decide +kernel
theorem dL_winners_50 : decode cL_winners 50 = .ok (.invokestatic 8, 3) := by decide +kernel
theorem dL_winners_53 : decode cL_winners 53 = .ok (.istore 5, 2) := by decide +kernel
theorem dL_winners_55 : decode cL_winners 55 = .ok (.iload_n 1, 1) := by decide +kernel
theorem dL_winners_56 : decode cL_winners 56 = .ok (.iconst 5, 1) := by decide +kernel
theorem dL_winners_57 : decode cL_winners 57 = .ok (.iload_n 2, 1) := by decide +kernel
theorem dL_winners_58 : decode cL_winners 58 = .ok (.imul, 1) := by decide +kernel
theorem dL_winners_59 : decode cL_winners 59 = .ok (.ishr, 1) := by decide +kernel
theorem dL_winners_60 : decode cL_winners 60 = .ok (.bipush 31, 2) := by decide +kernel
theorem dL_winners_62 : decode cL_winners 62 = .ok (.iand, 1) := by decide +kernel
theorem dL_winners_63 : decode cL_winners 63 = .ok (.invokestatic 8, 3) := by decide +kernel
theorem dL_winners_66 : decode cL_winners 66 = .ok (.istore 6, 2) := by decide +kernel
theorem dL_winners_68 : decode cL_winners 68 = .ok (.iload 5, 2) := by decide +kernel
theorem dL_winners_70 : decode cL_winners 70 = .ok (.iload 6, 2) := by decide +kernel
theorem dL_winners_72 : decode cL_winners 72 = .ok (.if_icmp .le 8, 3) := by decide +kernel
theorem dL_winners_75 : decode cL_winners 75 = .ok (.iload 5, 2) := by decide +kernel
theorem dL_winners_77 : decode cL_winners 77 = .ok (.goto 5, 3) := by decide +kernel
theorem dL_winners_80 : decode cL_winners 80 = .ok (.iload 6, 2) := by decide +kernel
theorem dL_winners_82 : decode cL_winners 82 = .ok (.istore 7, 2) := by decide +kernel
theorem dL_winners_84 : decode cL_winners 84 = .ok (.iload_n 3, 1) := by decide +kernel
theorem dL_winners_85 : decode cL_winners 85 = .ok (.iload 7, 2) := by decide +kernel
theorem dL_winners_87 : decode cL_winners 87 = .ok (.if_icmp .ge 7, 3) := by decide +kernel
theorem dL_winners_90 : decode cL_winners 90 = .ok (.iload_n 3, 1) := by decide +kernel
theorem dL_winners_91 : decode cL_winners 91 = .ok (.goto 5, 3) := by decide +kernel
theorem dL_winners_94 : decode cL_winners 94 = .ok (.iload 7, 2) := by decide +kernel
theorem dL_winners_96 : decode cL_winners 96 = .ok (.ireturn, 1) := by decide +kernel
theorem dL_tricks_0 : decode cL_tricks 0 = .ok (.iconst 0, 1) := by decide +kernel
theorem dL_tricks_1 : decode cL_tricks 1 = .ok (.istore_n 3, 1) := by decide +kernel
theorem dL_tricks_2 : decode cL_tricks 2 = .ok (.iconst 0, 1) := by decide +kernel
theorem dL_tricks_3 : decode cL_tricks 3 = .ok (.istore 4, 2) := by decide +kernel
theorem dL_tricks_5 : decode cL_tricks 5 = .ok (.iload 4, 2) := by decide +kernel
theorem dL_tricks_7 : decode cL_tricks 7 = .ok (.iconst 4, 1) := by decide +kernel
theorem dL_tricks_8 : decode cL_tricks 8 = .ok (.if_icmp .ge 122, 3) := by decide +kernel
theorem dL_tricks_11 : decode cL_tricks 11 = .ok (.iload_n 3, 1) := by decide +kernel
theorem dL_tricks_12 : decode cL_tricks 12 = .ok (.iload_n 1, 1) := by decide +kernel
theorem dL_tricks_13 : decode cL_tricks 13 = .ok (.iload_n 2, 1) := by decide +kernel
theorem dL_tricks_14 : decode cL_tricks 14 = .ok (.iload 4, 2) := by decide +kernel
theorem dL_tricks_16 : decode cL_tricks 16 = .ok (.invokestatic 58, 3) := by decide +kernel
theorem dL_tricks_19 : decode cL_tricks 19 = .ok (.iadd, 1) := by decide +kernel
theorem dL_tricks_20 : decode cL_tricks 20 = .ok (.istore_n 3, 1) := by decide +kernel
theorem dL_tricks_21 : decode cL_tricks 21 = .ok (.iload_n 1, 1) := by decide +kernel
theorem dL_tricks_22 : decode cL_tricks 22 = .ok (.iconst 5, 1) := by decide +kernel
theorem dL_tricks_23 : decode cL_tricks 23 = .ok (.iload 4, 2) := by decide +kernel
theorem dL_tricks_25 : decode cL_tricks 25 = .ok (.imul, 1) := by decide +kernel
theorem dL_tricks_26 : decode cL_tricks 26 = .ok (.ishr, 1) := by decide +kernel
theorem dL_tricks_27 : decode cL_tricks 27 = .ok (.bipush 31, 2) := by decide +kernel
theorem dL_tricks_29 : decode cL_tricks 29 = .ok (.iand, 1) := by decide +kernel
theorem dL_tricks_30 : decode cL_tricks 30 = .ok (.invokestatic 8, 3) := by decide +kernel
theorem dL_tricks_33 : decode cL_tricks 33 = .ok (.istore 5, 2) := by decide +kernel
theorem dL_tricks_35 : decode cL_tricks 35 = .ok (.iload_n 2, 1) := by decide +kernel
theorem dL_tricks_36 : decode cL_tricks 36 = .ok (.iconst 5, 1) := by decide +kernel
theorem dL_tricks_37 : decode cL_tricks 37 = .ok (.iload 4, 2) := by decide +kernel
theorem dL_tricks_39 : decode cL_tricks 39 = .ok (.imul, 1) := by decide +kernel
theorem dL_tricks_40 : decode cL_tricks 40 = .ok (.ishr, 1) := by decide +kernel
theorem dL_tricks_41 : decode cL_tricks 41 = .ok (.bipush 31, 2) := by decide +kernel
theorem dL_tricks_43 : decode cL_tricks 43 = .ok (.iand, 1) := by decide +kernel
theorem dL_tricks_44 : decode cL_tricks 44 = .ok (.invokestatic 8, 3) := by decide +kernel
theorem dL_tricks_47 : decode cL_tricks 47 = .ok (.istore 6, 2) := by decide +kernel
theorem dL_tricks_49 : decode cL_tricks 49 = .ok (.iload_n 0, 1) := by decide +kernel
theorem dL_tricks_50 : decode cL_tricks 50 = .ok (.iconst 4, 1) := by decide +kernel
theorem dL_tricks_51 : decode cL_tricks 51 = .ok (.if_icmp .ge 73, 3) := by decide +kernel
theorem dL_tricks_54 : decode cL_tricks 54 = .ok (.iload 4, 2) := by decide +kernel
theorem dL_tricks_56 : decode cL_tricks 56 = .ok (.iload_n 0, 1) := by decide +kernel
theorem dL_tricks_57 : decode cL_tricks 57 = .ok (.if_icmp .eq 67, 3) := by decide +kernel
theorem dL_tricks_60 : decode cL_tricks 60 = .ok (.iload_n 3, 1) := by decide +kernel
theorem dL_tricks_61 : decode cL_tricks 61 = .ok (.iload 5, 2) := by decide +kernel
theorem dL_tricks_63 : decode cL_tricks 63 = .ok (.ifCond .ne 26, 3) := by decide +kernel
theorem dL_tricks_66 : decode cL_tricks 66 = .ok (.iload 6, 2) := by decide +kernel
theorem dL_tricks_68 : decode cL_tricks 68 = .ok (.ifCond .le 21, 3) := by decide +kernel
theorem dL_tricks_71 : decode cL_tricks 71 = .ok (.iload_n 1, 1) := by decide +kernel
theorem dL_tricks_72 : decode cL_tricks 72 = .ok (.iconst 5, 1) := by decide +kernel
theorem dL_tricks_73 : decode cL_tricks 73 = .ok (.iload_n 0, 1) := by decide +kernel
theorem dL_tricks_74 : decode cL_tricks 74 = .ok (.imul, 1) := by decide +kernel
theorem dL_tricks_75 : decode cL_tricks 75 = .ok (.ishr, 1) := by decide +kernel
theorem dL_tricks_76 : decode cL_tricks 76 = .ok (.bipush 31, 2) := by decide +kernel
theorem dL_tricks_78 : decode cL_tricks 78 = .ok (.iand, 1) := by decide +kernel
theorem dL_tricks_79 : decode cL_tricks 79 = .ok (.invokestatic 8, 3) := by decide +kernel
theorem dL_tricks_82 : decode cL_tricks 82 = .ok (.ifCond .le 7, 3) := by decide +kernel
theorem dL_tricks_85 : decode cL_tricks 85 = .ok (.iconst 1, 1) := by decide +kernel
theorem dL_tricks_86 : decode cL_tricks 86 = .ok (.goto 4, 3) := by decide +kernel
theorem dL_tricks_89 : decode cL_tricks 89 = .ok (.iconst 0, 1) := by decide +kernel
theorem dL_tricks_90 : decode cL_tricks 90 = .ok (.iadd, 1) := by decide +kernel
theorem dL_tricks_91 : decode cL_tricks 91 = .ok (.istore_n 3, 1) := by decide +kernel
theorem dL_tricks_92 : decode cL_tricks 92 = .ok (.iload_n 3, 1) := by decide +kernel
theorem dL_tricks_93 : decode cL_tricks 93 = .ok (.iload 6, 2) := by decide +kernel
theorem dL_tricks_95 : decode cL_tricks 95 = .ok (.ifCond .ne 26, 3) := by decide +kernel
theorem dL_tricks_98 : decode cL_tricks 98 = .ok (.iload 5, 2) := by decide +kernel
theorem dL_tricks_100 : decode cL_tricks 100 = .ok (.ifCond .le 21, 3) := by decide +kernel
theorem dL_tricks_103 : decode cL_tricks 103 = .ok (.iload_n 2, 1) := by decide +kernel
theorem dL_tricks_104 : decode cL_tricks 104 = .ok (.iconst 5, 1) := by decide +kernel
theorem dL_tricks_105 : decode cL_tricks 105 = .ok (.iload_n 0, 1) := by decide +kernel
theorem dL_tricks_106 : decode cL_tricks 106 = .ok (.imul, 1) := by decide +kernel
theorem dL_tricks_107 : decode cL_tricks 107 = .ok (.ishr, 1) := by decide +kernel
theorem dL_tricks_108 : decode cL_tricks 108 = .ok (.bipush 31, 2) := by decide +kernel
theorem dL_tricks_110 : decode cL_tricks 110 = .ok (.iand, 1) := by decide +kernel
theorem dL_tricks_111 : decode cL_tricks 111 = .ok (.invokestatic 8, 3) := by decide +kernel
theorem dL_tricks_114 : decode cL_tricks 114 = .ok (.ifCond .le 7, 3) := by decide +kernel
theorem dL_tricks_117 : decode cL_tricks 117 = .ok (.iconst 1, 1) := by decide +kernel
theorem dL_tricks_118 : decode cL_tricks 118 = .ok (.goto 4, 3) := by decide +kernel
theorem dL_tricks_121 : decode cL_tricks 121 = .ok (.iconst 0, 1) := by decide +kernel
theorem dL_tricks_122 : decode cL_tricks 122 = .ok (.iadd, 1) := by decide +kernel
theorem dL_tricks_123 : decode cL_tricks 123 = .ok (.istore_n 3, 1) := by decide +kernel
theorem dL_tricks_124 : decode cL_tricks 124 = .ok (.iinc 4 1, 3) := by decide +kernel
theorem dL_tricks_127 : decode cL_tricks 127 = .ok (.goto (-122), 3) := by decide +kernel
theorem dL_tricks_130 : decode cL_tricks 130 = .ok (.iload_n 3, 1) := by decide +kernel
theorem dL_tricks_131 : decode cL_tricks 131 = .ok (.iconst 5, 1) := by decide +kernel
theorem dL_tricks_132 : decode cL_tricks 132 = .ok (.if_icmp .le 7, 3) := by decide +kernel
theorem dL_tricks_135 : decode cL_tricks 135 = .ok (.iconst 5, 1) := by decide +kernel
theorem dL_tricks_136 : decode cL_tricks 136 = .ok (.goto 4, 3) := by decide +kernel
theorem dL_tricks_139 : decode cL_tricks 139 = .ok (.iload_n 3, 1) := by decide +kernel
theorem dL_tricks_140 : decode cL_tricks 140 = .ok (.ireturn, 1) := by decide +kernel
theorem dL_next_0 : decode cL_next 0 = .ok (.iload_n 0, 1) := by decide +kernel
theorem dL_next_1 : decode cL_next 1 = .ok (.iload_n 0, 1) := by decide +kernel
theorem dL_next_2 : decode cL_next 2 = .ok (.ineg, 1) := by decide +kernel
theorem dL_next_3 : decode cL_next 3 = .ok (.iand, 1) := by decide +kernel
theorem dL_next_4 : decode cL_next 4 = .ok (.istore_n 1, 1) := by decide +kernel
theorem dL_next_5 : decode cL_next 5 = .ok (.iload_n 0, 1) := by decide +kernel
theorem dL_next_6 : decode cL_next 6 = .ok (.iload_n 1, 1) := by decide +kernel
theorem dL_next_7 : decode cL_next 7 = .ok (.iadd, 1) := by decide +kernel
theorem dL_next_8 : decode cL_next 8 = .ok (.istore_n 2, 1) := by decide +kernel
theorem dL_next_9 : decode cL_next 9 = .ok (.iload_n 2, 1) := by decide +kernel
theorem dL_next_10 : decode cL_next 10 = .ok (.iload_n 0, 1) := by decide +kernel
theorem dL_next_11 : decode cL_next 11 = .ok (.iload_n 2, 1) := by decide +kernel
theorem dL_next_12 : decode cL_next 12 = .ok (.ixor, 1) := by decide +kernel
theorem dL_next_13 : decode cL_next 13 = .ok (.iload_n 1, 1) := by decide +kernel
theorem dL_next_14 : decode cL_next 14 = .ok (.idiv, 1) := by decide +kernel
theorem dL_next_15 : decode cL_next 15 = .ok (.iconst 2, 1) := by decide +kernel
theorem dL_next_16 : decode cL_next 16 = .ok (.ishr, 1) := by decide +kernel
theorem dL_next_17 : decode cL_next 17 = .ok (.ior, 1) := by decide +kernel
theorem dL_next_18 : decode cL_next 18 = .ok (.ireturn, 1) := by decide +kernel
theorem dL_isTold_0 : decode cL_isTold 0 = .ok (.iconst 0, 1) := by decide +kernel
theorem dL_isTold_1 : decode cL_isTold 1 = .ok (.istore 8, 2) := by decide +kernel
theorem dL_isTold_3 : decode cL_isTold 3 = .ok (.ldc 62, 2) := by decide +kernel
theorem dL_isTold_5 : decode cL_isTold 5 = .ok (.istore 9, 2) := by decide +kernel
theorem dL_isTold_7 : decode cL_isTold 7 = .ok (.iconst 0, 1) := by decide +kernel
theorem dL_isTold_8 : decode cL_isTold 8 = .ok (.istore 10, 2) := by decide +kernel
theorem dL_isTold_10 : decode cL_isTold 10 = .ok (.iconst 5, 1) := by decide +kernel
theorem dL_isTold_11 : decode cL_isTold 11 = .ok (.newarray .int, 2) := by decide +kernel
theorem dL_isTold_13 : decode cL_isTold 13 = .ok (.astore 11, 2) := by decide +kernel
theorem dL_isTold_15 : decode cL_isTold 15 = .ok (.iconst 5, 1) := by decide +kernel
theorem dL_isTold_16 : decode cL_isTold 16 = .ok (.newarray .int, 2) := by decide +kernel
theorem dL_isTold_18 : decode cL_isTold 18 = .ok (.astore 12, 2) := by decide +kernel
theorem dL_isTold_20 : decode cL_isTold 20 = .ok (.iconst 5, 1) := by decide +kernel
theorem dL_isTold_21 : decode cL_isTold 21 = .ok (.newarray .int, 2) := by decide +kernel
theorem dL_isTold_23 : decode cL_isTold 23 = .ok (.astore 13, 2) := by decide +kernel
theorem dL_isTold_25 : decode cL_isTold 25 = .ok (.aload_n 0, 1) := by decide +kernel
theorem dL_isTold_26 : decode cL_isTold 26 = .ok (.iconst 1, 1) := by decide +kernel
theorem dL_isTold_27 : decode cL_isTold 27 = .ok (.iload 6, 2) := by decide +kernel
theorem dL_isTold_29 : decode cL_isTold 29 = .ok (.isub, 1) := by decide +kernel
theorem dL_isTold_30 : decode cL_isTold 30 = .ok (.iconst 0, 1) := by decide +kernel
theorem dL_isTold_31 : decode cL_isTold 31 = .ok (.invokevirtual 35, 3) := by decide +kernel
theorem dL_isTold_34 : decode cL_isTold 34 = .ok (.istore 14, 2) := by decide +kernel
theorem dL_isTold_36 : decode cL_isTold 36 = .ok (.iload 7, 2) := by decide +kernel
theorem dL_isTold_38 : decode cL_isTold 38 = .ok (.iload 14, 2) := by decide +kernel
theorem dL_isTold_40 : decode cL_isTold 40 = .ok (.if_icmp .ne 7, 3) := by decide +kernel
theorem dL_isTold_43 : decode cL_isTold 43 = .ok (.iconst 1, 1) := by decide +kernel
theorem dL_isTold_44 : decode cL_isTold 44 = .ok (.goto 4, 3) := by decide +kernel
theorem dL_isTold_47 : decode cL_isTold 47 = .ok (.iconst 0, 1) := by decide +kernel
theorem dL_isTold_48 : decode cL_isTold 48 = .ok (.istore 15, 2) := by decide +kernel
theorem dL_isTold_50 : decode cL_isTold 50 = .ok (.bipush 31, 2) := by decide +kernel
theorem dL_isTold_52 : decode cL_isTold 52 = .ok (.istore 16, 2) := by decide +kernel
theorem dL_isTold_54 : decode cL_isTold 54 = .ok (.iload 16, 2) := by decide +kernel
theorem dL_isTold_56 : decode cL_isTold 56 = .ok (.ldc 63, 2) := by decide +kernel
theorem dL_isTold_58 : decode cL_isTold 58 = .ok (.if_icmp .ge 212, 3) := by decide +kernel
theorem dL_isTold_61 : decode cL_isTold 61 = .ok (.iload 16, 2) := by decide +kernel
theorem dL_isTold_63 : decode cL_isTold 63 = .ok (.invokestatic 39, 3) := by decide +kernel
theorem dL_isTold_66 : decode cL_isTold 66 = .ok (.istore 17, 2) := by decide +kernel
theorem dL_isTold_68 : decode cL_isTold 68 = .ok (.iload 17, 2) := by decide +kernel
theorem dL_isTold_70 : decode cL_isTold 70 = .ok (.aload_n 1, 1) := by decide +kernel
theorem dL_isTold_71 : decode cL_isTold 71 = .ok (.iload_n 2, 1) := by decide +kernel
theorem dL_isTold_72 : decode cL_isTold 72 = .ok (.aload_n 3, 1) := by decide +kernel
theorem dL_isTold_73 : decode cL_isTold 73 = .ok (.iload 4, 2) := by decide +kernel
theorem dL_isTold_75 : decode cL_isTold 75 = .ok (.iload 5, 2) := by decide +kernel
theorem dL_isTold_77 : decode cL_isTold 77 = .ok (.iload 6, 2) := by decide +kernel
theorem dL_isTold_79 : decode cL_isTold 79 = .ok (.invokestatic 64, 3) := by decide +kernel
theorem dL_isTold_82 : decode cL_isTold 82 = .ok (.istore 18, 2) := by decide +kernel
theorem dL_isTold_84 : decode cL_isTold 84 = .ok (.iload 18, 2) := by decide +kernel
theorem dL_isTold_86 : decode cL_isTold 86 = .ok (.aload_n 0, 1) := by decide +kernel
theorem dL_isTold_87 : decode cL_isTold 87 = .ok (.iload 6, 2) := by decide +kernel
theorem dL_isTold_89 : decode cL_isTold 89 = .ok (.iload 16, 2) := by decide +kernel
theorem dL_isTold_91 : decode cL_isTold 91 = .ok (.invokevirtual 68, 3) := by decide +kernel
theorem dL_isTold_94 : decode cL_isTold 94 = .ok (.iconst 1, 1) := by decide +kernel
theorem dL_isTold_95 : decode cL_isTold 95 = .ok (.if_icmp .ne 7, 3) := by decide +kernel
theorem dL_isTold_98 : decode cL_isTold 98 = .ok (.iconst 1, 1) := by decide +kernel
theorem dL_isTold_99 : decode cL_isTold 99 = .ok (.goto 4, 3) := by decide +kernel
theorem dL_isTold_102 : decode cL_isTold 102 = .ok (.iconst 0, 1) := by decide +kernel
theorem dL_isTold_103 : decode cL_isTold 103 = .ok (.if_icmp .eq 5, 3) := by decide +kernel
theorem dL_isTold_106 : decode cL_isTold 106 = .ok (.iconst 0, 1) := by decide +kernel
theorem dL_isTold_107 : decode cL_isTold 107 = .ok (.ireturn, 1) := by decide +kernel
theorem dL_isTold_108 : decode cL_isTold 108 = .ok (.iload 18, 2) := by decide +kernel
theorem dL_isTold_110 : decode cL_isTold 110 = .ok (.ifCond .eq 150, 3) := by decide +kernel
theorem dL_isTold_113 : decode cL_isTold 113 = .ok (.iload 16, 2) := by decide +kernel
theorem dL_isTold_115 : decode cL_isTold 115 = .ok (.iload 7, 2) := by decide +kernel
theorem dL_isTold_117 : decode cL_isTold 117 = .ok (.iand, 1) := by decide +kernel
theorem dL_isTold_118 : decode cL_isTold 118 = .ok (.ifCond .ne 142, 3) := by decide +kernel
theorem dL_isTold_121 : decode cL_isTold 121 = .ok (.iconst 0, 1) := by decide +kernel
theorem dL_isTold_122 : decode cL_isTold 122 = .ok (.istore 19, 2) := by decide +kernel
theorem dL_isTold_124 : decode cL_isTold 124 = .ok (.iload 19, 2) := by decide +kernel
theorem dL_isTold_126 : decode cL_isTold 126 = .ok (.iconst 5, 1) := by decide +kernel
theorem dL_isTold_127 : decode cL_isTold 127 = .ok (.if_icmp .ge 116, 3) := by decide +kernel
theorem dL_isTold_130 : decode cL_isTold 130 = .ok (.iload 19, 2) := by decide +kernel
theorem dL_isTold_132 : decode cL_isTold 132 = .ok (.iconst 4, 1) := by decide +kernel
theorem dL_isTold_133 : decode cL_isTold 133 = .ok (.if_icmp .ne 11, 3) := by decide +kernel
theorem dL_isTold_136 : decode cL_isTold 136 = .ok (.iload 17, 2) := by decide +kernel
theorem dL_isTold_138 : decode cL_isTold 138 = .ok (.bipush 12, 2) := by decide +kernel
theorem dL_isTold_140 : decode cL_isTold 140 = .ok (.ishr, 1) := by decide +kernel
theorem dL_isTold_141 : decode cL_isTold 141 = .ok (.goto 13, 3) := by decide +kernel
theorem dL_isTold_144 : decode cL_isTold 144 = .ok (.iload 17, 2) := by decide +kernel
theorem dL_isTold_146 : decode cL_isTold 146 = .ok (.iconst 3, 1) := by decide +kernel
theorem dL_isTold_147 : decode cL_isTold 147 = .ok (.iload 19, 2) := by decide +kernel
theorem dL_isTold_149 : decode cL_isTold 149 = .ok (.imul, 1) := by decide +kernel
theorem dL_isTold_150 : decode cL_isTold 150 = .ok (.ishr, 1) := by decide +kernel
theorem dL_isTold_151 : decode cL_isTold 151 = .ok (.bipush 7, 2) := by decide +kernel
theorem dL_isTold_153 : decode cL_isTold 153 = .ok (.iand, 1) := by decide +kernel
theorem dL_isTold_154 : decode cL_isTold 154 = .ok (.istore 20, 2) := by decide +kernel
theorem dL_isTold_156 : decode cL_isTold 156 = .ok (.aload 11, 2) := by decide +kernel
theorem dL_isTold_158 : decode cL_isTold 158 = .ok (.iload 19, 2) := by decide +kernel
theorem dL_isTold_160 : decode cL_isTold 160 = .ok (.iload 8, 2) := by decide +kernel
theorem dL_isTold_162 : decode cL_isTold 162 = .ok (.ifCond .eq 13, 3) := by decide +kernel
theorem dL_isTold_165 : decode cL_isTold 165 = .ok (.iload 20, 2) := by decide +kernel
theorem dL_isTold_167 : decode cL_isTold 167 = .ok (.aload 11, 2) := by decide +kernel
theorem dL_isTold_169 : decode cL_isTold 169 = .ok (.iload 19, 2) := by decide +kernel
theorem dL_isTold_171 : decode cL_isTold 171 = .ok (.iaload, 1) := by decide +kernel
theorem dL_isTold_172 : decode cL_isTold 172 = .ok (.if_icmp .ge 8, 3) := by decide +kernel
theorem dL_isTold_175 : decode cL_isTold 175 = .ok (.iload 20, 2) := by decide +kernel
theorem dL_isTold_177 : decode cL_isTold 177 = .ok (.goto 8, 3) := by decide +kernel
theorem dL_isTold_180 : decode cL_isTold 180 = .ok (.aload 11, 2) := by decide +kernel
theorem dL_isTold_182 : decode cL_isTold 182 = .ok (.iload 19, 2) := by decide +kernel
theorem dL_isTold_184 : decode cL_isTold 184 = .ok (.iaload, 1) := by decide +kernel
theorem dL_isTold_185 : decode cL_isTold 185 = .ok (.iastore, 1) := by decide +kernel
theorem dL_isTold_186 : decode cL_isTold 186 = .ok (.aload 12, 2) := by decide +kernel
theorem dL_isTold_188 : decode cL_isTold 188 = .ok (.iload 19, 2) := by decide +kernel
theorem dL_isTold_190 : decode cL_isTold 190 = .ok (.iload 20, 2) := by decide +kernel
theorem dL_isTold_192 : decode cL_isTold 192 = .ok (.aload 12, 2) := by decide +kernel
theorem dL_isTold_194 : decode cL_isTold 194 = .ok (.iload 19, 2) := by decide +kernel
theorem dL_isTold_196 : decode cL_isTold 196 = .ok (.iaload, 1) := by decide +kernel
theorem dL_isTold_197 : decode cL_isTold 197 = .ok (.if_icmp .le 8, 3) := by decide +kernel
theorem dL_isTold_200 : decode cL_isTold 200 = .ok (.iload 20, 2) := by decide +kernel
theorem dL_isTold_202 : decode cL_isTold 202 = .ok (.goto 8, 3) := by decide +kernel
theorem dL_isTold_205 : decode cL_isTold 205 = .ok (.aload 12, 2) := by decide +kernel
theorem dL_isTold_207 : decode cL_isTold 207 = .ok (.iload 19, 2) := by decide +kernel
theorem dL_isTold_209 : decode cL_isTold 209 = .ok (.iaload, 1) := by decide +kernel
theorem dL_isTold_210 : decode cL_isTold 210 = .ok (.iastore, 1) := by decide +kernel
theorem dL_isTold_211 : decode cL_isTold 211 = .ok (.aload 13, 2) := by decide +kernel
theorem dL_isTold_213 : decode cL_isTold 213 = .ok (.iload 19, 2) := by decide +kernel
theorem dL_isTold_215 : decode cL_isTold 215 = .ok (.dup2, 1) := by decide +kernel
theorem dL_isTold_216 : decode cL_isTold 216 = .ok (.iaload, 1) := by decide +kernel
theorem dL_isTold_217 : decode cL_isTold 217 = .ok (.iload 15, 2) := by decide +kernel
theorem dL_isTold_219 : decode cL_isTold 219 = .ok (.ifCond .eq 15, 3) := by decide +kernel
theorem dL_isTold_222 : decode cL_isTold 222 = .ok (.iload 19, 2) := by decide +kernel
theorem dL_isTold_224 : decode cL_isTold 224 = .ok (.iload 14, 2) := by decide +kernel
theorem dL_isTold_226 : decode cL_isTold 226 = .ok (.iload 16, 2) := by decide +kernel
theorem dL_isTold_228 : decode cL_isTold 228 = .ok (.invokestatic 70, 3) := by decide +kernel
theorem dL_isTold_231 : decode cL_isTold 231 = .ok (.goto 4, 3) := by decide +kernel
theorem dL_isTold_234 : decode cL_isTold 234 = .ok (.iconst 0, 1) := by decide +kernel
theorem dL_isTold_235 : decode cL_isTold 235 = .ok (.iadd, 1) := by decide +kernel
theorem dL_isTold_236 : decode cL_isTold 236 = .ok (.iastore, 1) := by decide +kernel
theorem dL_isTold_237 : decode cL_isTold 237 = .ok (.iinc 19 1, 3) := by decide +kernel
theorem dL_isTold_240 : decode cL_isTold 240 = .ok (.goto (-116), 3) := by decide +kernel
theorem dL_isTold_243 : decode cL_isTold 243 = .ok (.iload 9, 2) := by decide +kernel
theorem dL_isTold_245 : decode cL_isTold 245 = .ok (.iload 16, 2) := by decide +kernel
theorem dL_isTold_247 : decode cL_isTold 247 = .ok (.iand, 1) := by decide +kernel
theorem dL_isTold_248 : decode cL_isTold 248 = .ok (.istore 9, 2) := by decide +kernel
theorem dL_isTold_250 : decode cL_isTold 250 = .ok (.iload 10, 2) := by decide +kernel
theorem dL_isTold_252 : decode cL_isTold 252 = .ok (.iload 16, 2) := by decide +kernel
theorem dL_isTold_254 : decode cL_isTold 254 = .ok (.ior, 1) := by decide +kernel
theorem dL_isTold_255 : decode cL_isTold 255 = .ok (.istore 10, 2) := by decide +kernel
theorem dL_isTold_257 : decode cL_isTold 257 = .ok (.iinc 8 1, 3) := by decide +kernel
theorem dL_isTold_260 : decode cL_isTold 260 = .ok (.iload 16, 2) := by decide +kernel
theorem dL_isTold_262 : decode cL_isTold 262 = .ok (.invokestatic 73, 3) := by decide +kernel
theorem dL_isTold_265 : decode cL_isTold 265 = .ok (.istore 16, 2) := by decide +kernel
theorem dL_isTold_267 : decode cL_isTold 267 = .ok (.goto (-213), 3) := by decide +kernel
theorem dL_isTold_270 : decode cL_isTold 270 = .ok (.aload_n 0, 1) := by decide +kernel
theorem dL_isTold_271 : decode cL_isTold 271 = .ok (.iload 6, 2) := by decide +kernel
theorem dL_isTold_273 : decode cL_isTold 273 = .ok (.iload 7, 2) := by decide +kernel
theorem dL_isTold_275 : decode cL_isTold 275 = .ok (.invokevirtual 76, 3) := by decide +kernel
theorem dL_isTold_278 : decode cL_isTold 278 = .ok (.iload 8, 2) := by decide +kernel
theorem dL_isTold_280 : decode cL_isTold 280 = .ok (.if_icmp .ne 53, 3) := by decide +kernel
theorem dL_isTold_283 : decode cL_isTold 283 = .ok (.aload_n 0, 1) := by decide +kernel
theorem dL_isTold_284 : decode cL_isTold 284 = .ok (.iload 6, 2) := by decide +kernel
theorem dL_isTold_286 : decode cL_isTold 286 = .ok (.iload 7, 2) := by decide +kernel
theorem dL_isTold_288 : decode cL_isTold 288 = .ok (.bipush 10, 2) := by decide +kernel
theorem dL_isTold_290 : decode cL_isTold 290 = .ok (.invokevirtual 79, 3) := by decide +kernel
theorem dL_isTold_293 : decode cL_isTold 293 = .ok (.iload 8, 2) := by decide +kernel
theorem dL_isTold_295 : decode cL_isTold 295 = .ok (.ifCond .ne 8, 3) := by decide +kernel
theorem dL_isTold_298 : decode cL_isTold 298 = .ok (.bipush (-6), 2) := by decide +kernel
theorem dL_isTold_300 : decode cL_isTold 300 = .ok (.goto 5, 3) := by decide +kernel
theorem dL_isTold_303 : decode cL_isTold 303 = .ok (.iload 9, 2) := by decide +kernel
theorem dL_isTold_305 : decode cL_isTold 305 = .ok (.if_icmp .ne 28, 3) := by decide +kernel
theorem dL_isTold_308 : decode cL_isTold 308 = .ok (.aload_n 0, 1) := by decide +kernel
theorem dL_isTold_309 : decode cL_isTold 309 = .ok (.iload 6, 2) := by decide +kernel
theorem dL_isTold_311 : decode cL_isTold 311 = .ok (.iload 7, 2) := by decide +kernel
theorem dL_isTold_313 : decode cL_isTold 313 = .ok (.bipush 11, 2) := by decide +kernel
theorem dL_isTold_315 : decode cL_isTold 315 = .ok (.invokevirtual 79, 3) := by decide +kernel
theorem dL_isTold_318 : decode cL_isTold 318 = .ok (.iload 8, 2) := by decide +kernel
theorem dL_isTold_320 : decode cL_isTold 320 = .ok (.ifCond .ne 8, 3) := by decide +kernel
theorem dL_isTold_323 : decode cL_isTold 323 = .ok (.bipush (-6), 2) := by decide +kernel
theorem dL_isTold_325 : decode cL_isTold 325 = .ok (.goto 5, 3) := by decide +kernel
theorem dL_isTold_328 : decode cL_isTold 328 = .ok (.iload 10, 2) := by decide +kernel
theorem dL_isTold_330 : decode cL_isTold 330 = .ok (.if_icmp .eq 5, 3) := by decide +kernel
theorem dL_isTold_333 : decode cL_isTold 333 = .ok (.iconst 0, 1) := by decide +kernel
theorem dL_isTold_334 : decode cL_isTold 334 = .ok (.ireturn, 1) := by decide +kernel
theorem dL_isTold_335 : decode cL_isTold 335 = .ok (.iconst 0, 1) := by decide +kernel
theorem dL_isTold_336 : decode cL_isTold 336 = .ok (.istore 16, 2) := by decide +kernel
theorem dL_isTold_338 : decode cL_isTold 338 = .ok (.iload 16, 2) := by decide +kernel
theorem dL_isTold_340 : decode cL_isTold 340 = .ok (.iconst 5, 1) := by decide +kernel
theorem dL_isTold_341 : decode cL_isTold 341 = .ok (.if_icmp .ge 98, 3) := by decide +kernel
theorem dL_isTold_344 : decode cL_isTold 344 = .ok (.aload_n 0, 1) := by decide +kernel
theorem dL_isTold_345 : decode cL_isTold 345 = .ok (.iload 6, 2) := by decide +kernel
theorem dL_isTold_347 : decode cL_isTold 347 = .ok (.iload 7, 2) := by decide +kernel
theorem dL_isTold_349 : decode cL_isTold 349 = .ok (.iconst 2, 1) := by decide +kernel
theorem dL_isTold_350 : decode cL_isTold 350 = .ok (.iload 16, 2) := by decide +kernel
theorem dL_isTold_352 : decode cL_isTold 352 = .ok (.imul, 1) := by decide +kernel
theorem dL_isTold_353 : decode cL_isTold 353 = .ok (.invokevirtual 79, 3) := by decide +kernel
theorem dL_isTold_356 : decode cL_isTold 356 = .ok (.iload 8, 2) := by decide +kernel
theorem dL_isTold_358 : decode cL_isTold 358 = .ok (.ifCond .ne 8, 3) := by decide +kernel
theorem dL_isTold_361 : decode cL_isTold 361 = .ok (.bipush (-6), 2) := by decide +kernel
theorem dL_isTold_363 : decode cL_isTold 363 = .ok (.goto 8, 3) := by decide +kernel
theorem dL_isTold_366 : decode cL_isTold 366 = .ok (.aload 11, 2) := by decide +kernel
theorem dL_isTold_368 : decode cL_isTold 368 = .ok (.iload 16, 2) := by decide +kernel
theorem dL_isTold_370 : decode cL_isTold 370 = .ok (.iaload, 1) := by decide +kernel
theorem dL_isTold_371 : decode cL_isTold 371 = .ok (.if_icmp .ne 60, 3) := by decide +kernel
theorem dL_isTold_374 : decode cL_isTold 374 = .ok (.aload_n 0, 1) := by decide +kernel
theorem dL_isTold_375 : decode cL_isTold 375 = .ok (.iload 6, 2) := by decide +kernel
theorem dL_isTold_377 : decode cL_isTold 377 = .ok (.iload 7, 2) := by decide +kernel
theorem dL_isTold_379 : decode cL_isTold 379 = .ok (.iconst 2, 1) := by decide +kernel
theorem dL_isTold_380 : decode cL_isTold 380 = .ok (.iload 16, 2) := by decide +kernel
theorem dL_isTold_382 : decode cL_isTold 382 = .ok (.imul, 1) := by decide +kernel
theorem dL_isTold_383 : decode cL_isTold 383 = .ok (.iconst 1, 1) := by decide +kernel
theorem dL_isTold_384 : decode cL_isTold 384 = .ok (.iadd, 1) := by decide +kernel
theorem dL_isTold_385 : decode cL_isTold 385 = .ok (.invokevirtual 79, 3) := by decide +kernel
theorem dL_isTold_388 : decode cL_isTold 388 = .ok (.iload 8, 2) := by decide +kernel
theorem dL_isTold_390 : decode cL_isTold 390 = .ok (.ifCond .ne 8, 3) := by decide +kernel
theorem dL_isTold_393 : decode cL_isTold 393 = .ok (.bipush (-6), 2) := by decide +kernel
theorem dL_isTold_395 : decode cL_isTold 395 = .ok (.goto 8, 3) := by decide +kernel
theorem dL_isTold_398 : decode cL_isTold 398 = .ok (.aload 12, 2) := by decide +kernel
theorem dL_isTold_400 : decode cL_isTold 400 = .ok (.iload 16, 2) := by decide +kernel
theorem dL_isTold_402 : decode cL_isTold 402 = .ok (.iaload, 1) := by decide +kernel
theorem dL_isTold_403 : decode cL_isTold 403 = .ok (.if_icmp .ne 28, 3) := by decide +kernel
theorem dL_isTold_406 : decode cL_isTold 406 = .ok (.iload 15, 2) := by decide +kernel
theorem dL_isTold_408 : decode cL_isTold 408 = .ok (.ifCond .eq 25, 3) := by decide +kernel
theorem dL_isTold_411 : decode cL_isTold 411 = .ok (.aload_n 0, 1) := by decide +kernel
theorem dL_isTold_412 : decode cL_isTold 412 = .ok (.iconst 1, 1) := by decide +kernel
theorem dL_isTold_413 : decode cL_isTold 413 = .ok (.iload 6, 2) := by decide +kernel
theorem dL_isTold_415 : decode cL_isTold 415 = .ok (.isub, 1) := by decide +kernel
theorem dL_isTold_416 : decode cL_isTold 416 = .ok (.iload 16, 2) := by decide +kernel
theorem dL_isTold_418 : decode cL_isTold 418 = .ok (.invokevirtual 82, 3) := by decide +kernel
theorem dL_isTold_421 : decode cL_isTold 421 = .ok (.aload 13, 2) := by decide +kernel
theorem dL_isTold_423 : decode cL_isTold 423 = .ok (.iload 16, 2) := by decide +kernel
theorem dL_isTold_425 : decode cL_isTold 425 = .ok (.iaload, 1) := by decide +kernel
theorem dL_isTold_426 : decode cL_isTold 426 = .ok (.i2l, 1) := by decide +kernel
theorem dL_isTold_427 : decode cL_isTold 427 = .ok (.lcmp, 1) := by decide +kernel
theorem dL_isTold_428 : decode cL_isTold 428 = .ok (.ifCond .eq 5, 3) := by decide +kernel
theorem dL_isTold_431 : decode cL_isTold 431 = .ok (.iconst 0, 1) := by decide +kernel
theorem dL_isTold_432 : decode cL_isTold 432 = .ok (.ireturn, 1) := by decide +kernel
theorem dL_isTold_433 : decode cL_isTold 433 = .ok (.iinc 16 1, 3) := by decide +kernel
theorem dL_isTold_436 : decode cL_isTold 436 = .ok (.goto (-98), 3) := by decide +kernel
theorem dL_isTold_439 : decode cL_isTold 439 = .ok (.iconst 0, 1) := by decide +kernel
theorem dL_isTold_440 : decode cL_isTold 440 = .ok (.istore 16, 2) := by decide +kernel
theorem dL_isTold_442 : decode cL_isTold 442 = .ok (.iconst 1, 1) := by decide +kernel
theorem dL_isTold_443 : decode cL_isTold 443 = .ok (.istore 17, 2) := by decide +kernel
theorem dL_isTold_445 : decode cL_isTold 445 = .ok (.iload 17, 2) := by decide +kernel
theorem dL_isTold_447 : decode cL_isTold 447 = .ok (.iconst 5, 1) := by decide +kernel
theorem dL_isTold_448 : decode cL_isTold 448 = .ok (.if_icmp .ge 31, 3) := by decide +kernel
theorem dL_isTold_451 : decode cL_isTold 451 = .ok (.aload 13, 2) := by decide +kernel
theorem dL_isTold_453 : decode cL_isTold 453 = .ok (.iload 17, 2) := by decide +kernel
theorem dL_isTold_455 : decode cL_isTold 455 = .ok (.iaload, 1) := by decide +kernel
theorem dL_isTold_456 : decode cL_isTold 456 = .ok (.aload 13, 2) := by decide +kernel
theorem dL_isTold_458 : decode cL_isTold 458 = .ok (.iload 16, 2) := by decide +kernel
theorem dL_isTold_460 : decode cL_isTold 460 = .ok (.iaload, 1) := by decide +kernel
theorem dL_isTold_461 : decode cL_isTold 461 = .ok (.if_icmp .lt 8, 3) := by decide +kernel
theorem dL_isTold_464 : decode cL_isTold 464 = .ok (.iload 17, 2) := by decide +kernel
theorem dL_isTold_466 : decode cL_isTold 466 = .ok (.goto 5, 3) := by decide +kernel
theorem dL_isTold_469 : decode cL_isTold 469 = .ok (.iload 16, 2) := by decide +kernel
theorem dL_isTold_471 : decode cL_isTold 471 = .ok (.istore 16, 2) := by decide +kernel
theorem dL_isTold_473 : decode cL_isTold 473 = .ok (.iinc 17 1, 3) := by decide +kernel
theorem dL_isTold_476 : decode cL_isTold 476 = .ok (.goto (-31), 3) := by decide +kernel
theorem dL_isTold_479 : decode cL_isTold 479 = .ok (.iload 8, 2) := by decide +kernel
theorem dL_isTold_481 : decode cL_isTold 481 = .ok (.ifCond .eq 14, 3) := by decide +kernel
theorem dL_isTold_484 : decode cL_isTold 484 = .ok (.aload 13, 2) := by decide +kernel
theorem dL_isTold_486 : decode cL_isTold 486 = .ok (.iload 16, 2) := by decide +kernel
theorem dL_isTold_488 : decode cL_isTold 488 = .ok (.iaload, 1) := by decide +kernel
theorem dL_isTold_489 : decode cL_isTold 489 = .ok (.iload 8, 2) := by decide +kernel
theorem dL_isTold_491 : decode cL_isTold 491 = .ok (.idiv, 1) := by decide +kernel
theorem dL_isTold_492 : decode cL_isTold 492 = .ok (.ifCond .ne 8, 3) := by decide +kernel
theorem dL_isTold_495 : decode cL_isTold 495 = .ok (.bipush (-6), 2) := by decide +kernel
theorem dL_isTold_497 : decode cL_isTold 497 = .ok (.goto 18, 3) := by decide +kernel
theorem dL_isTold_500 : decode cL_isTold 500 = .ok (.iconst 5, 1) := by decide +kernel
theorem dL_isTold_501 : decode cL_isTold 501 = .ok (.aload 13, 2) := by decide +kernel
theorem dL_isTold_503 : decode cL_isTold 503 = .ok (.iload 16, 2) := by decide +kernel
theorem dL_isTold_505 : decode cL_isTold 505 = .ok (.iaload, 1) := by decide +kernel
theorem dL_isTold_506 : decode cL_isTold 506 = .ok (.iload 8, 2) := by decide +kernel
theorem dL_isTold_508 : decode cL_isTold 508 = .ok (.idiv, 1) := by decide +kernel
theorem dL_isTold_509 : decode cL_isTold 509 = .ok (.iconst 1, 1) := by decide +kernel
theorem dL_isTold_510 : decode cL_isTold 510 = .ok (.isub, 1) := by decide +kernel
theorem dL_isTold_511 : decode cL_isTold 511 = .ok (.imul, 1) := by decide +kernel
theorem dL_isTold_512 : decode cL_isTold 512 = .ok (.iload 16, 2) := by decide +kernel
theorem dL_isTold_514 : decode cL_isTold 514 = .ok (.iadd, 1) := by decide +kernel
theorem dL_isTold_515 : decode cL_isTold 515 = .ok (.istore 17, 2) := by decide +kernel
theorem dL_isTold_517 : decode cL_isTold 517 = .ok (.iload 15, 2) := by decide +kernel
theorem dL_isTold_519 : decode cL_isTold 519 = .ok (.ifCond .eq 16, 3) := by decide +kernel
theorem dL_isTold_522 : decode cL_isTold 522 = .ok (.aload_n 0, 1) := by decide +kernel
theorem dL_isTold_523 : decode cL_isTold 523 = .ok (.iconst 1, 1) := by decide +kernel
theorem dL_isTold_524 : decode cL_isTold 524 = .ok (.iload 6, 2) := by decide +kernel
theorem dL_isTold_526 : decode cL_isTold 526 = .ok (.isub, 1) := by decide +kernel
theorem dL_isTold_527 : decode cL_isTold 527 = .ok (.invokevirtual 86, 3) := by decide +kernel
theorem dL_isTold_530 : decode cL_isTold 530 = .ok (.iload 17, 2) := by decide +kernel
theorem dL_isTold_532 : decode cL_isTold 532 = .ok (.if_icmp .ne 7, 3) := by decide +kernel
theorem dL_isTold_535 : decode cL_isTold 535 = .ok (.iconst 1, 1) := by decide +kernel
theorem dL_isTold_536 : decode cL_isTold 536 = .ok (.goto 4, 3) := by decide +kernel
theorem dL_isTold_539 : decode cL_isTold 539 = .ok (.iconst 0, 1) := by decide +kernel
theorem dL_isTold_540 : decode cL_isTold 540 = .ok (.ireturn, 1) := by decide +kernel
theorem dL_law_0 : decode cL_law 0 = .ok (.new 27, 3) := by decide +kernel
theorem dL_law_3 : decode cL_law 3 = .ok (.dup, 1) := by decide +kernel
theorem dL_law_4 : decode cL_law 4 = .ok (.invokespecial 89, 3) := by decide +kernel
theorem dL_law_7 : decode cL_law 7 = .ok (.astore_n 1, 1) := by decide +kernel
theorem dL_law_8 : decode cL_law 8 = .ok (.bipush 48, 2) := by decide +kernel
theorem dL_law_10 : decode cL_law 10 = .ok (.newarray .int, 2) := by decide +kernel
theorem dL_law_12 : decode cL_law 12 = .ok (.astore_n 2, 1) := by decide +kernel
theorem dL_law_13 : decode cL_law 13 = .ok (.aload_n 1, 1) := by decide +kernel
theorem dL_law_14 : decode cL_law 14 = .ok (.aload_n 0, 1) := by decide +kernel
theorem dL_law_15 : decode cL_law 15 = .ok (.aload_n 2, 1) := by decide +kernel
theorem dL_law_16 : decode cL_law 16 = .ok (.invokestatic 90, 3) := by decide +kernel
theorem dL_law_19 : decode cL_law 19 = .ok (.istore_n 3, 1) := by decide +kernel
theorem dL_law_20 : decode cL_law 20 = .ok (.iload_n 3, 1) := by decide +kernel
theorem dL_law_21 : decode cL_law 21 = .ok (.ifCond .lt 66, 3) := by decide +kernel
theorem dL_law_24 : decode cL_law 24 = .ok (.aload_n 1, 1) := by decide +kernel
theorem dL_law_25 : decode cL_law 25 = .ok (.aload_n 0, 1) := by decide +kernel
theorem dL_law_26 : decode cL_law 26 = .ok (.bipush 110, 2) := by decide +kernel
theorem dL_law_28 : decode cL_law 28 = .ok (.ldc 94, 2) := by decide +kernel
theorem dL_law_30 : decode cL_law 30 = .ok (.invokestatic 22, 3) := by decide +kernel
theorem dL_law_33 : decode cL_law 33 = .ok (.invokevirtual 95, 3) := by decide +kernel
theorem dL_law_36 : decode cL_law 36 = .ok (.aload_n 1, 1) := by decide +kernel
theorem dL_law_37 : decode cL_law 37 = .ok (.iconst 0, 1) := by decide +kernel
theorem dL_law_38 : decode cL_law 38 = .ok (.iconst 0, 1) := by decide +kernel
theorem dL_law_39 : decode cL_law 39 = .ok (.invokevirtual 35, 3) := by decide +kernel
theorem dL_law_42 : decode cL_law 42 = .ok (.if_icmp .ne 45, 3) := by decide +kernel
theorem dL_law_45 : decode cL_law 45 = .ok (.aload_n 1, 1) := by decide +kernel
theorem dL_law_46 : decode cL_law 46 = .ok (.iconst 0, 1) := by decide +kernel
theorem dL_law_47 : decode cL_law 47 = .ok (.iconst 0, 1) := by decide +kernel
theorem dL_law_48 : decode cL_law 48 = .ok (.invokevirtual 35, 3) := by decide +kernel
theorem dL_law_51 : decode cL_law 51 = .ok (.invokestatic 8, 3) := by decide +kernel
theorem dL_law_54 : decode cL_law 54 = .ok (.iconst 5, 1) := by decide +kernel
theorem dL_law_55 : decode cL_law 55 = .ok (.if_icmp .ne 32, 3) := by decide +kernel
theorem dL_law_58 : decode cL_law 58 = .ok (.aload_n 1, 1) := by decide +kernel
theorem dL_law_59 : decode cL_law 59 = .ok (.iconst 1, 1) := by decide +kernel
theorem dL_law_60 : decode cL_law 60 = .ok (.iconst 0, 1) := by decide +kernel
theorem dL_law_61 : decode cL_law 61 = .ok (.invokevirtual 35, 3) := by decide +kernel
theorem dL_law_64 : decode cL_law 64 = .ok (.invokestatic 8, 3) := by decide +kernel
theorem dL_law_67 : decode cL_law 67 = .ok (.iconst 5, 1) := by decide +kernel
theorem dL_law_68 : decode cL_law 68 = .ok (.if_icmp .ne 19, 3) := by decide +kernel
theorem dL_law_71 : decode cL_law 71 = .ok (.aload_n 1, 1) := by decide +kernel
theorem dL_law_72 : decode cL_law 72 = .ok (.iconst 0, 1) := by decide +kernel
theorem dL_law_73 : decode cL_law 73 = .ok (.iconst 0, 1) := by decide +kernel
theorem dL_law_74 : decode cL_law 74 = .ok (.invokevirtual 35, 3) := by decide +kernel
theorem dL_law_77 : decode cL_law 77 = .ok (.aload_n 1, 1) := by decide +kernel
theorem dL_law_78 : decode cL_law 78 = .ok (.iconst 1, 1) := by decide +kernel
theorem dL_law_79 : decode cL_law 79 = .ok (.iconst 0, 1) := by decide +kernel
theorem dL_law_80 : decode cL_law 80 = .ok (.invokevirtual 35, 3) := by decide +kernel
theorem dL_law_83 : decode cL_law 83 = .ok (.iand, 1) := by decide +kernel
theorem dL_law_84 : decode cL_law 84 = .ok (.ifCond .eq 5, 3) := by decide +kernel
theorem dL_law_87 : decode cL_law 87 = .ok (.iconst 0, 1) := by decide +kernel
theorem dL_law_88 : decode cL_law 88 = .ok (.ireturn, 1) := by decide +kernel
theorem dL_law_89 : decode cL_law 89 = .ok (.bipush 52, 2) := by decide +kernel
theorem dL_law_91 : decode cL_law 91 = .ok (.newarray .int, 2) := by decide +kernel
theorem dL_law_93 : decode cL_law 93 = .ok (.astore 4, 2) := by decide +kernel
theorem dL_law_95 : decode cL_law 95 = .ok (.aload_n 1, 1) := by decide +kernel
theorem dL_law_96 : decode cL_law 96 = .ok (.aload_n 2, 1) := by decide +kernel
theorem dL_law_97 : decode cL_law 97 = .ok (.iload_n 3, 1) := by decide +kernel
theorem dL_law_98 : decode cL_law 98 = .ok (.aload 4, 2) := by decide +kernel
theorem dL_law_100 : decode cL_law 100 = .ok (.invokestatic 98, 3) := by decide +kernel
theorem dL_law_103 : decode cL_law 103 = .ok (.istore 5, 2) := by decide +kernel
theorem dL_law_105 : decode cL_law 105 = .ok (.iload 5, 2) := by decide +kernel
theorem dL_law_107 : decode cL_law 107 = .ok (.ifCond .ge 5, 3) := by decide +kernel
theorem dL_law_110 : decode cL_law 110 = .ok (.iconst 0, 1) := by decide +kernel
theorem dL_law_111 : decode cL_law 111 = .ok (.ireturn, 1) := by decide +kernel
theorem dL_law_112 : decode cL_law 112 = .ok (.aload_n 1, 1) := by decide +kernel
theorem dL_law_113 : decode cL_law 113 = .ok (.iconst 5, 1) := by decide +kernel
theorem dL_law_114 : decode cL_law 114 = .ok (.invokevirtual 46, 3) := by decide +kernel
theorem dL_law_117 : decode cL_law 117 = .ok (.iconst 2, 1) := by decide +kernel
theorem dL_law_118 : decode cL_law 118 = .ok (.if_icmp .ne 7, 3) := by decide +kernel
theorem dL_law_121 : decode cL_law 121 = .ok (.iconst 1, 1) := by decide +kernel
theorem dL_law_122 : decode cL_law 122 = .ok (.goto 4, 3) := by decide +kernel
theorem dL_law_125 : decode cL_law 125 = .ok (.iconst 0, 1) := by decide +kernel
theorem dL_law_126 : decode cL_law 126 = .ok (.istore 6, 2) := by decide +kernel
theorem dL_law_128 : decode cL_law 128 = .ok (.aload_n 1, 1) := by decide +kernel
theorem dL_law_129 : decode cL_law 129 = .ok (.iconst 0, 1) := by decide +kernel
theorem dL_law_130 : decode cL_law 130 = .ok (.aload_n 1, 1) := by decide +kernel
theorem dL_law_131 : decode cL_law 131 = .ok (.iconst 0, 1) := by decide +kernel
theorem dL_law_132 : decode cL_law 132 = .ok (.iconst 0, 1) := by decide +kernel
theorem dL_law_133 : decode cL_law 133 = .ok (.invokevirtual 35, 3) := by decide +kernel
theorem dL_law_136 : decode cL_law 136 = .ok (.invokevirtual 68, 3) := by decide +kernel
theorem dL_law_139 : decode cL_law 139 = .ok (.iconst 1, 1) := by decide +kernel
theorem dL_law_140 : decode cL_law 140 = .ok (.if_icmp .ne 18, 3) := by decide +kernel
theorem dL_law_143 : decode cL_law 143 = .ok (.aload_n 1, 1) := by decide +kernel
theorem dL_law_144 : decode cL_law 144 = .ok (.iconst 1, 1) := by decide +kernel
theorem dL_law_145 : decode cL_law 145 = .ok (.aload_n 1, 1) := by decide +kernel
theorem dL_law_146 : decode cL_law 146 = .ok (.iconst 1, 1) := by decide +kernel
theorem dL_law_147 : decode cL_law 147 = .ok (.iconst 0, 1) := by decide +kernel
theorem dL_law_148 : decode cL_law 148 = .ok (.invokevirtual 35, 3) := by decide +kernel
theorem dL_law_151 : decode cL_law 151 = .ok (.invokevirtual 68, 3) := by decide +kernel
theorem dL_law_154 : decode cL_law 154 = .ok (.iconst 1, 1) := by decide +kernel
theorem dL_law_155 : decode cL_law 155 = .ok (.if_icmp .eq 5, 3) := by decide +kernel
theorem dL_law_158 : decode cL_law 158 = .ok (.iconst 0, 1) := by decide +kernel
theorem dL_law_159 : decode cL_law 159 = .ok (.ireturn, 1) := by decide +kernel
theorem dL_law_160 : decode cL_law 160 = .ok (.aload_n 0, 1) := by decide +kernel
theorem dL_law_161 : decode cL_law 161 = .ok (.bipush 111, 2) := by decide +kernel
theorem dL_law_163 : decode cL_law 163 = .ok (.iconst 2, 1) := by decide +kernel
theorem dL_law_164 : decode cL_law 164 = .ok (.invokestatic 22, 3) := by decide +kernel
theorem dL_law_167 : decode cL_law 167 = .ok (.istore 7, 2) := by decide +kernel
theorem dL_law_169 : decode cL_law 169 = .ok (.aload_n 1, 1) := by decide +kernel
theorem dL_law_170 : decode cL_law 170 = .ok (.aload_n 2, 1) := by decide +kernel
theorem dL_law_171 : decode cL_law 171 = .ok (.iload_n 3, 1) := by decide +kernel
theorem dL_law_172 : decode cL_law 172 = .ok (.aload 4, 2) := by decide +kernel
theorem dL_law_174 : decode cL_law 174 = .ok (.iload 5, 2) := by decide +kernel
theorem dL_law_176 : decode cL_law 176 = .ok (.iload 6, 2) := by decide +kernel
theorem dL_law_178 : decode cL_law 178 = .ok (.iload 7, 2) := by decide +kernel
theorem dL_law_180 : decode cL_law 180 = .ok (.aload_n 1, 1) := by decide +kernel
theorem dL_law_181 : decode cL_law 181 = .ok (.iconst 1, 1) := by decide +kernel
theorem dL_law_182 : decode cL_law 182 = .ok (.iload 7, 2) := by decide +kernel
theorem dL_law_184 : decode cL_law 184 = .ok (.isub, 1) := by decide +kernel
theorem dL_law_185 : decode cL_law 185 = .ok (.iconst 0, 1) := by decide +kernel
theorem dL_law_186 : decode cL_law 186 = .ok (.invokevirtual 35, 3) := by decide +kernel
theorem dL_law_189 : decode cL_law 189 = .ok (.invokestatic 102, 3) := by decide +kernel
theorem dL_law_192 : decode cL_law 192 = .ok (.ifCond .ne 5, 3) := by decide +kernel
theorem dL_law_195 : decode cL_law 195 = .ok (.iconst 0, 1) := by decide +kernel
theorem dL_law_196 : decode cL_law 196 = .ok (.ireturn, 1) := by decide +kernel
theorem dL_law_197 : decode cL_law 197 = .ok (.iload 6, 2) := by decide +kernel
theorem dL_law_199 : decode cL_law 199 = .ok (.ifCond .eq 22, 3) := by decide +kernel
theorem dL_law_202 : decode cL_law 202 = .ok (.aload_n 1, 1) := by decide +kernel
theorem dL_law_203 : decode cL_law 203 = .ok (.invokevirtual 106, 3) := by decide +kernel
theorem dL_law_206 : decode cL_law 206 = .ok (.iload 5, 2) := by decide +kernel
theorem dL_law_208 : decode cL_law 208 = .ok (.if_icmp .ne 11, 3) := by decide +kernel
theorem dL_law_211 : decode cL_law 211 = .ok (.aload_n 1, 1) := by decide +kernel
theorem dL_law_212 : decode cL_law 212 = .ok (.iconst 5, 1) := by decide +kernel
theorem dL_law_213 : decode cL_law 213 = .ok (.invokevirtual 46, 3) := by decide +kernel
theorem dL_law_216 : decode cL_law 216 = .ok (.ifCond .eq 5, 3) := by decide +kernel
theorem dL_law_219 : decode cL_law 219 = .ok (.iconst 0, 1) := by decide +kernel
theorem dL_law_220 : decode cL_law 220 = .ok (.ireturn, 1) := by decide +kernel
theorem dL_law_221 : decode cL_law 221 = .ok (.iload 5, 2) := by decide +kernel
theorem dL_law_223 : decode cL_law 223 = .ok (.ifCond .le 44, 3) := by decide +kernel
theorem dL_law_226 : decode cL_law 226 = .ok (.aload_n 1, 1) := by decide +kernel
theorem dL_law_227 : decode cL_law 227 = .ok (.invokevirtual 106, 3) := by decide +kernel
theorem dL_law_230 : decode cL_law 230 = .ok (.iload 5, 2) := by decide +kernel
theorem dL_law_232 : decode cL_law 232 = .ok (.iconst 1, 1) := by decide +kernel
theorem dL_law_233 : decode cL_law 233 = .ok (.isub, 1) := by decide +kernel
theorem dL_law_234 : decode cL_law 234 = .ok (.if_icmp .ne 31, 3) := by decide +kernel
theorem dL_law_237 : decode cL_law 237 = .ok (.aload_n 1, 1) := by decide +kernel
theorem dL_law_238 : decode cL_law 238 = .ok (.aload_n 2, 1) := by decide +kernel
theorem dL_law_239 : decode cL_law 239 = .ok (.iload_n 3, 1) := by decide +kernel
theorem dL_law_240 : decode cL_law 240 = .ok (.aload 4, 2) := by decide +kernel
theorem dL_law_242 : decode cL_law 242 = .ok (.iload 5, 2) := by decide +kernel
theorem dL_law_244 : decode cL_law 244 = .ok (.iconst 1, 1) := by decide +kernel
theorem dL_law_245 : decode cL_law 245 = .ok (.isub, 1) := by decide +kernel
theorem dL_law_246 : decode cL_law 246 = .ok (.iconst 0, 1) := by decide +kernel
theorem dL_law_247 : decode cL_law 247 = .ok (.iconst 1, 1) := by decide +kernel
theorem dL_law_248 : decode cL_law 248 = .ok (.iload 7, 2) := by decide +kernel
theorem dL_law_250 : decode cL_law 250 = .ok (.isub, 1) := by decide +kernel
theorem dL_law_251 : decode cL_law 251 = .ok (.aload_n 0, 1) := by decide +kernel
theorem dL_law_252 : decode cL_law 252 = .ok (.bipush 112, 2) := by decide +kernel
theorem dL_law_254 : decode cL_law 254 = .ok (.ldc 63, 2) := by decide +kernel
theorem dL_law_256 : decode cL_law 256 = .ok (.invokestatic 22, 3) := by decide +kernel
theorem dL_law_259 : decode cL_law 259 = .ok (.invokestatic 102, 3) := by decide +kernel
theorem dL_law_262 : decode cL_law 262 = .ok (.ifCond .ne 5, 3) := by decide +kernel
theorem dL_law_265 : decode cL_law 265 = .ok (.iconst 0, 1) := by decide +kernel
theorem dL_law_266 : decode cL_law 266 = .ok (.ireturn, 1) := by decide +kernel
theorem dL_law_267 : decode cL_law 267 = .ok (.aload_n 1, 1) := by decide +kernel
theorem dL_law_268 : decode cL_law 268 = .ok (.aload_n 0, 1) := by decide +kernel
theorem dL_law_269 : decode cL_law 269 = .ok (.bipush 113, 2) := by decide +kernel
theorem dL_law_271 : decode cL_law 271 = .ok (.iconst 5, 1) := by decide +kernel
theorem dL_law_272 : decode cL_law 272 = .ok (.invokestatic 22, 3) := by decide +kernel
theorem dL_law_275 : decode cL_law 275 = .ok (.aload_n 1, 1) := by decide +kernel
theorem dL_law_276 : decode cL_law 276 = .ok (.iconst 0, 1) := by decide +kernel
theorem dL_law_277 : decode cL_law 277 = .ok (.iconst 0, 1) := by decide +kernel
theorem dL_law_278 : decode cL_law 278 = .ok (.invokevirtual 35, 3) := by decide +kernel
theorem dL_law_281 : decode cL_law 281 = .ok (.aload_n 1, 1) := by decide +kernel
theorem dL_law_282 : decode cL_law 282 = .ok (.iconst 1, 1) := by decide +kernel
theorem dL_law_283 : decode cL_law 283 = .ok (.iconst 0, 1) := by decide +kernel
theorem dL_law_284 : decode cL_law 284 = .ok (.invokevirtual 35, 3) := by decide +kernel
theorem dL_law_287 : decode cL_law 287 = .ok (.invokevirtual 109, 3) := by decide +kernel
theorem dL_law_290 : decode cL_law 290 = .ok (.aload_n 0, 1) := by decide +kernel
theorem dL_law_291 : decode cL_law 291 = .ok (.bipush 113, 2) := by decide +kernel
theorem dL_law_293 : decode cL_law 293 = .ok (.iconst 5, 1) := by decide +kernel
theorem dL_law_294 : decode cL_law 294 = .ok (.invokestatic 22, 3) := by decide +kernel
theorem dL_law_297 : decode cL_law 297 = .ok (.aload_n 1, 1) := by decide +kernel
theorem dL_law_298 : decode cL_law 298 = .ok (.iconst 0, 1) := by decide +kernel
theorem dL_law_299 : decode cL_law 299 = .ok (.iconst 0, 1) := by decide +kernel
theorem dL_law_300 : decode cL_law 300 = .ok (.invokevirtual 35, 3) := by decide +kernel
theorem dL_law_303 : decode cL_law 303 = .ok (.aload_n 1, 1) := by decide +kernel
theorem dL_law_304 : decode cL_law 304 = .ok (.iconst 1, 1) := by decide +kernel
theorem dL_law_305 : decode cL_law 305 = .ok (.iconst 0, 1) := by decide +kernel
theorem dL_law_306 : decode cL_law 306 = .ok (.invokevirtual 35, 3) := by decide +kernel
theorem dL_law_309 : decode cL_law 309 = .ok (.invokestatic 70, 3) := by decide +kernel
theorem dL_law_312 : decode cL_law 312 = .ok (.if_icmp .ne 7, 3) := by decide +kernel
theorem dL_law_315 : decode cL_law 315 = .ok (.iconst 1, 1) := by decide +kernel
theorem dL_law_316 : decode cL_law 316 = .ok (.goto 4, 3) := by decide +kernel
theorem dL_law_319 : decode cL_law 319 = .ok (.iconst 0, 1) := by decide +kernel
theorem dL_law_320 : decode cL_law 320 = .ok (.ireturn, 1) := by decide +kernel
