theorem dL_cell_0 : decode cL_cell 0 = .ok (.iload_n 1, 1) := by decide +kernel
theorem dL_cell_1 : decode cL_cell 1 = .ok (.aload_n 0, 1) := by decide +kernel
theorem dL_cell_2 : decode cL_cell 2 = .ok (.arraylength, 1) := by decide +kernel
theorem dL_cell_3 : decode cL_cell 3 = .ok (.if_icmp .ge 9, 3) := by decide +kernel
theorem dL_cell_6 : decode cL_cell 6 = .ok (.aload_n 0, 1) := by decide +kernel
theorem dL_cell_7 : decode cL_cell 7 = .ok (.iload_n 1, 1) := by decide +kernel
theorem dL_cell_8 : decode cL_cell 8 = .ok (.iaload, 1) := by decide +kernel
theorem dL_cell_9 : decode cL_cell 9 = .ok (.goto 11, 3) := by decide +kernel
theorem dL_cell_12 : decode cL_cell 12 = .ok (.ldc 7, 2) := by decide +kernel
theorem dL_cell_14 : decode cL_cell 14 = .ok (.iload_n 1, 1) := by decide +kernel
theorem dL_cell_15 : decode cL_cell 15 = .ok (.imul, 1) := by decide +kernel
theorem dL_cell_16 : decode cL_cell 16 = .ok (.sipush 457, 3) := by decide +kernel
theorem dL_cell_19 : decode cL_cell 19 = .ok (.iadd, 1) := by decide +kernel
theorem dL_cell_20 : decode cL_cell 20 = .ok (.ldc 8, 2) := by decide +kernel
theorem dL_cell_22 : decode cL_cell 22 = .ok (.iand, 1) := by decide +kernel
theorem dL_cell_23 : decode cL_cell 23 = .ok (.ireturn, 1) := by decide +kernel
theorem dL_begins_0 : decode cL_begins 0 = .ok (.iconst 0, 1) := by decide +kernel
theorem dL_begins_1 : decode cL_begins 1 = .ok (.istore_n 3, 1) := by decide +kernel
theorem dL_begins_2 : decode cL_begins 2 = .ok (.iload_n 3, 1) := by decide +kernel
theorem dL_begins_3 : decode cL_begins 3 = .ok (.bipush 8, 2) := by decide +kernel
theorem dL_begins_5 : decode cL_begins 5 = .ok (.if_icmp .ge 42, 3) := by decide +kernel
theorem dL_begins_8 : decode cL_begins 8 = .ok (.aload_n 0, 1) := by decide +kernel
theorem dL_begins_9 : decode cL_begins 9 = .ok (.iconst 5, 1) := by decide +kernel
theorem dL_begins_10 : decode cL_begins 10 = .ok (.iload_n 3, 1) := by decide +kernel
theorem dL_begins_11 : decode cL_begins 11 = .ok (.imul, 1) := by decide +kernel
theorem dL_begins_12 : decode cL_begins 12 = .ok (.iload_n 3, 1) := by decide +kernel
theorem dL_begins_13 : decode cL_begins 13 = .ok (.iconst 2, 1) := by decide +kernel
theorem dL_begins_14 : decode cL_begins 14 = .ok (.irem, 1) := by decide +kernel
theorem dL_begins_15 : decode cL_begins 15 = .ok (.iastore, 1) := by decide +kernel
theorem dL_begins_16 : decode cL_begins 16 = .ok (.aload_n 0, 1) := by decide +kernel
theorem dL_begins_17 : decode cL_begins 17 = .ok (.iconst 5, 1) := by decide +kernel
theorem dL_begins_18 : decode cL_begins 18 = .ok (.iload_n 3, 1) := by decide +kernel
theorem dL_begins_19 : decode cL_begins 19 = .ok (.imul, 1) := by decide +kernel
theorem dL_begins_20 : decode cL_begins 20 = .ok (.iconst 1, 1) := by decide +kernel
theorem dL_begins_21 : decode cL_begins 21 = .ok (.iadd, 1) := by decide +kernel
theorem dL_begins_22 : decode cL_begins 22 = .ok (.iconst 4, 1) := by decide +kernel
theorem dL_begins_23 : decode cL_begins 23 = .ok (.iconst 2, 1) := by decide +kernel
theorem dL_begins_24 : decode cL_begins 24 = .ok (.iload_n 3, 1) := by decide +kernel
theorem dL_begins_25 : decode cL_begins 25 = .ok (.imul, 1) := by decide +kernel
theorem dL_begins_26 : decode cL_begins 26 = .ok (.iadd, 1) := by decide +kernel
theorem dL_begins_27 : decode cL_begins 27 = .ok (.iastore, 1) := by decide +kernel
theorem dL_begins_28 : decode cL_begins 28 = .ok (.aload_n 0, 1) := by decide +kernel
theorem dL_begins_29 : decode cL_begins 29 = .ok (.iconst 5, 1) := by decide +kernel
theorem dL_begins_30 : decode cL_begins 30 = .ok (.iload_n 3, 1) := by decide +kernel
theorem dL_begins_31 : decode cL_begins 31 = .ok (.imul, 1) := by decide +kernel
theorem dL_begins_32 : decode cL_begins 32 = .ok (.iconst 2, 1) := by decide +kernel
theorem dL_begins_33 : decode cL_begins 33 = .ok (.iadd, 1) := by decide +kernel
theorem dL_begins_34 : decode cL_begins 34 = .ok (.bipush 20, 2) := by decide +kernel
theorem dL_begins_36 : decode cL_begins 36 = .ok (.iconst 5, 1) := by decide +kernel
theorem dL_begins_37 : decode cL_begins 37 = .ok (.iload_n 3, 1) := by decide +kernel
theorem dL_begins_38 : decode cL_begins 38 = .ok (.imul, 1) := by decide +kernel
theorem dL_begins_39 : decode cL_begins 39 = .ok (.iadd, 1) := by decide +kernel
theorem dL_begins_40 : decode cL_begins 40 = .ok (.iastore, 1) := by decide +kernel
theorem dL_begins_41 : decode cL_begins 41 = .ok (.iinc 3 1, 3) := by decide +kernel
theorem dL_begins_44 : decode cL_begins 44 = .ok (.goto (-42), 3) := by decide +kernel
theorem dL_begins_47 : decode cL_begins 47 = .ok (.aload_n 1, 1) := by decide +kernel
theorem dL_begins_48 : decode cL_begins 48 = .ok (.iconst 0, 1) := by decide +kernel
theorem dL_begins_49 : decode cL_begins 49 = .ok (.bipush 80, 2) := by decide +kernel
theorem dL_begins_51 : decode cL_begins 51 = .ok (.iastore, 1) := by decide +kernel
theorem dL_begins_52 : decode cL_begins 52 = .ok (.aload_n 1, 1) := by decide +kernel
theorem dL_begins_53 : decode cL_begins 53 = .ok (.iconst 1, 1) := by decide +kernel
theorem dL_begins_54 : decode cL_begins 54 = .ok (.bipush 10, 2) := by decide +kernel
theorem dL_begins_56 : decode cL_begins 56 = .ok (.iastore, 1) := by decide +kernel
theorem dL_begins_57 : decode cL_begins 57 = .ok (.aload_n 1, 1) := by decide +kernel
theorem dL_begins_58 : decode cL_begins 58 = .ok (.iconst 2, 1) := by decide +kernel
theorem dL_begins_59 : decode cL_begins 59 = .ok (.bipush 10, 2) := by decide +kernel
theorem dL_begins_61 : decode cL_begins 61 = .ok (.iastore, 1) := by decide +kernel
theorem dL_begins_62 : decode cL_begins 62 = .ok (.aload_n 1, 1) := by decide +kernel
theorem dL_begins_63 : decode cL_begins 63 = .ok (.iconst 3, 1) := by decide +kernel
theorem dL_begins_64 : decode cL_begins 64 = .ok (.sipush 500, 3) := by decide +kernel
theorem dL_begins_67 : decode cL_begins 67 = .ok (.iastore, 1) := by decide +kernel
theorem dL_begins_68 : decode cL_begins 68 = .ok (.aload_n 1, 1) := by decide +kernel
theorem dL_begins_69 : decode cL_begins 69 = .ok (.iconst 4, 1) := by decide +kernel
theorem dL_begins_70 : decode cL_begins 70 = .ok (.sipush 6000, 3) := by decide +kernel
theorem dL_begins_73 : decode cL_begins 73 = .ok (.iastore, 1) := by decide +kernel
theorem dL_begins_74 : decode cL_begins 74 = .ok (.aload_n 1, 1) := by decide +kernel
theorem dL_begins_75 : decode cL_begins 75 = .ok (.iconst 5, 1) := by decide +kernel
theorem dL_begins_76 : decode cL_begins 76 = .ok (.sipush 4000, 3) := by decide +kernel
theorem dL_begins_79 : decode cL_begins 79 = .ok (.iastore, 1) := by decide +kernel
theorem dL_begins_80 : decode cL_begins 80 = .ok (.aload_n 1, 1) := by decide +kernel
theorem dL_begins_81 : decode cL_begins 81 = .ok (.bipush 6, 2) := by decide +kernel
theorem dL_begins_83 : decode cL_begins 83 = .ok (.bipush 120, 2) := by decide +kernel
theorem dL_begins_85 : decode cL_begins 85 = .ok (.iastore, 1) := by decide +kernel
theorem dL_begins_86 : decode cL_begins 86 = .ok (.aload_n 1, 1) := by decide +kernel
theorem dL_begins_87 : decode cL_begins 87 = .ok (.bipush 7, 2) := by decide +kernel
theorem dL_begins_89 : decode cL_begins 89 = .ok (.iconst 4, 1) := by decide +kernel
theorem dL_begins_90 : decode cL_begins 90 = .ok (.iastore, 1) := by decide +kernel
theorem dL_begins_91 : decode cL_begins 91 = .ok (.aload_n 1, 1) := by decide +kernel
theorem dL_begins_92 : decode cL_begins 92 = .ok (.bipush 8, 2) := by decide +kernel
theorem dL_begins_94 : decode cL_begins 94 = .ok (.bipush 8, 2) := by decide +kernel
theorem dL_begins_96 : decode cL_begins 96 = .ok (.iastore, 1) := by decide +kernel
theorem dL_begins_97 : decode cL_begins 97 = .ok (.aload_n 2, 1) := by decide +kernel
theorem dL_begins_98 : decode cL_begins 98 = .ok (.iconst 0, 1) := by decide +kernel
theorem dL_begins_99 : decode cL_begins 99 = .ok (.sipush 3000, 3) := by decide +kernel
theorem dL_begins_102 : decode cL_begins 102 = .ok (.iastore, 1) := by decide +kernel
theorem dL_begins_103 : decode cL_begins 103 = .ok (.return_, 1) := by decide +kernel
theorem dL_low_0 : decode cL_low 0 = .ok (.iload_n 0, 1) := by decide +kernel
theorem dL_low_1 : decode cL_low 1 = .ok (.ifCond .ne 8, 3) := by decide +kernel
theorem dL_low_4 : decode cL_low 4 = .ok (.bipush 20, 2) := by decide +kernel
theorem dL_low_6 : decode cL_low 6 = .ok (.goto 46, 3) := by decide +kernel
theorem dL_low_9 : decode cL_low 9 = .ok (.iload_n 0, 1) := by decide +kernel
theorem dL_low_10 : decode cL_low 10 = .ok (.iconst 3, 1) := by decide +kernel
theorem dL_low_11 : decode cL_low 11 = .ok (.if_icmp .ne 8, 3) := by decide +kernel
theorem dL_low_14 : decode cL_low 14 = .ok (.bipush 100, 2) := by decide +kernel
theorem dL_low_16 : decode cL_low 16 = .ok (.goto 36, 3) := by decide +kernel
theorem dL_low_19 : decode cL_low 19 = .ok (.iload_n 0, 1) := by decide +kernel
theorem dL_low_20 : decode cL_low 20 = .ok (.iconst 4, 1) := by decide +kernel
theorem dL_low_21 : decode cL_low 21 = .ok (.if_icmp .ne 9, 3) := by decide +kernel
theorem dL_low_24 : decode cL_low 24 = .ok (.sipush 1000, 3) := by decide +kernel
theorem dL_low_27 : decode cL_low 27 = .ok (.goto 25, 3) := by decide +kernel
theorem dL_low_30 : decode cL_low 30 = .ok (.iload_n 0, 1) := by decide +kernel
theorem dL_low_31 : decode cL_low 31 = .ok (.bipush 6, 2) := by decide +kernel
theorem dL_low_33 : decode cL_low 33 = .ok (.if_icmp .ne 8, 3) := by decide +kernel
theorem dL_low_36 : decode cL_low 36 = .ok (.bipush 10, 2) := by decide +kernel
theorem dL_low_38 : decode cL_low 38 = .ok (.goto 14, 3) := by decide +kernel
theorem dL_low_41 : decode cL_low 41 = .ok (.iload_n 0, 1) := by decide +kernel
theorem dL_low_42 : decode cL_low 42 = .ok (.bipush 7, 2) := by decide +kernel
theorem dL_low_44 : decode cL_low 44 = .ok (.if_icmp .ne 7, 3) := by decide +kernel
theorem dL_low_47 : decode cL_low 47 = .ok (.iconst 1, 1) := by decide +kernel
theorem dL_low_48 : decode cL_low 48 = .ok (.goto 4, 3) := by decide +kernel
theorem dL_low_51 : decode cL_low 51 = .ok (.iconst 0, 1) := by decide +kernel
theorem dL_low_52 : decode cL_low 52 = .ok (.ireturn, 1) := by decide +kernel
theorem dL_high_0 : decode cL_high 0 = .ok (.iload_n 0, 1) := by decide +kernel
theorem dL_high_1 : decode cL_high 1 = .ok (.ifCond .ne 9, 3) := by decide +kernel
theorem dL_high_4 : decode cL_high 4 = .ok (.sipush 200, 3) := by decide +kernel
theorem dL_high_7 : decode cL_high 7 = .ok (.goto 61, 3) := by decide +kernel
theorem dL_high_10 : decode cL_high 10 = .ok (.iload_n 0, 1) := by decide +kernel
theorem dL_high_11 : decode cL_high 11 = .ok (.iconst 3, 1) := by decide +kernel
theorem dL_high_12 : decode cL_high 12 = .ok (.if_icmp .ge 8, 3) := by decide +kernel
theorem dL_high_15 : decode cL_high 15 = .ok (.bipush 100, 2) := by decide +kernel
theorem dL_high_17 : decode cL_high 17 = .ok (.goto 51, 3) := by decide +kernel
theorem dL_high_20 : decode cL_high 20 = .ok (.iload_n 0, 1) := by decide +kernel
theorem dL_high_21 : decode cL_high 21 = .ok (.iconst 3, 1) := by decide +kernel
theorem dL_high_22 : decode cL_high 22 = .ok (.if_icmp .ne 9, 3) := by decide +kernel
theorem dL_high_25 : decode cL_high 25 = .ok (.sipush 2000, 3) := by decide +kernel
theorem dL_high_28 : decode cL_high 28 = .ok (.goto 40, 3) := by decide +kernel
theorem dL_high_31 : decode cL_high 31 = .ok (.iload_n 0, 1) := by decide +kernel
theorem dL_high_32 : decode cL_high 32 = .ok (.bipush 6, 2) := by decide +kernel
theorem dL_high_34 : decode cL_high 34 = .ok (.if_icmp .ge 9, 3) := by decide +kernel
theorem dL_high_37 : decode cL_high 37 = .ok (.sipush 20000, 3) := by decide +kernel
theorem dL_high_40 : decode cL_high 40 = .ok (.goto 28, 3) := by decide +kernel
theorem dL_high_43 : decode cL_high 43 = .ok (.iload_n 0, 1) := by decide +kernel
theorem dL_high_44 : decode cL_high 44 = .ok (.bipush 6, 2) := by decide +kernel
theorem dL_high_46 : decode cL_high 46 = .ok (.if_icmp .ne 9, 3) := by decide +kernel
theorem dL_high_49 : decode cL_high 49 = .ok (.sipush 500, 3) := by decide +kernel
theorem dL_high_52 : decode cL_high 52 = .ok (.goto 16, 3) := by decide +kernel
theorem dL_high_55 : decode cL_high 55 = .ok (.iload_n 0, 1) := by decide +kernel
theorem dL_high_56 : decode cL_high 56 = .ok (.bipush 7, 2) := by decide +kernel
theorem dL_high_58 : decode cL_high 58 = .ok (.if_icmp .ne 8, 3) := by decide +kernel
theorem dL_high_61 : decode cL_high 61 = .ok (.bipush 8, 2) := by decide +kernel
theorem dL_high_63 : decode cL_high 63 = .ok (.goto 5, 3) := by decide +kernel
theorem dL_high_66 : decode cL_high 66 = .ok (.bipush 32, 2) := by decide +kernel
theorem dL_high_68 : decode cL_high 68 = .ok (.ireturn, 1) := by decide +kernel
theorem dL_bits_0 : decode cL_bits 0 = .ok (.iconst 0, 1) := by decide +kernel
theorem dL_bits_1 : decode cL_bits 1 = .ok (.istore_n 1, 1) := by decide +kernel
theorem dL_bits_2 : decode cL_bits 2 = .ok (.iconst 0, 1) := by decide +kernel
theorem dL_bits_3 : decode cL_bits 3 = .ok (.istore_n 2, 1) := by decide +kernel
theorem dL_bits_4 : decode cL_bits 4 = .ok (.iload_n 2, 1) := by decide +kernel
theorem dL_bits_5 : decode cL_bits 5 = .ok (.bipush 24, 2) := by decide +kernel
theorem dL_bits_7 : decode cL_bits 7 = .ok (.if_icmp .ge 17, 3) := by decide +kernel
theorem dL_bits_10 : decode cL_bits 10 = .ok (.iload_n 1, 1) := by decide +kernel
theorem dL_bits_11 : decode cL_bits 11 = .ok (.iload_n 0, 1) := by decide +kernel
theorem dL_bits_12 : decode cL_bits 12 = .ok (.iload_n 2, 1) := by decide +kernel
theorem dL_bits_13 : decode cL_bits 13 = .ok (.ishr, 1) := by decide +kernel
theorem dL_bits_14 : decode cL_bits 14 = .ok (.iconst 1, 1) := by decide +kernel
theorem dL_bits_15 : decode cL_bits 15 = .ok (.iand, 1) := by decide +kernel
theorem dL_bits_16 : decode cL_bits 16 = .ok (.iadd, 1) := by decide +kernel
theorem dL_bits_17 : decode cL_bits 17 = .ok (.istore_n 1, 1) := by decide +kernel
theorem dL_bits_18 : decode cL_bits 18 = .ok (.iinc 2 1, 3) := by decide +kernel
theorem dL_bits_21 : decode cL_bits 21 = .ok (.goto (-17), 3) := by decide +kernel
theorem dL_bits_24 : decode cL_bits 24 = .ok (.iload_n 1, 1) := by decide +kernel
theorem dL_bits_25 : decode cL_bits 25 = .ok (.ireturn, 1) := by decide +kernel
theorem dL_drawn_0 : decode cL_drawn 0 = .ok (.iconst 0, 1) := by decide +kernel
theorem dL_drawn_1 : decode cL_drawn 1 = .ok (.istore_n 1, 1) := by decide +kernel
theorem dL_drawn_2 : decode cL_drawn 2 = .ok (.iconst 0, 1) := by decide +kernel
theorem dL_drawn_3 : decode cL_drawn 3 = .ok (.istore_n 2, 1) := by decide +kernel
theorem dL_drawn_4 : decode cL_drawn 4 = .ok (.iload_n 2, 1) := by decide +kernel
theorem dL_drawn_5 : decode cL_drawn 5 = .ok (.bipush 8, 2) := by decide +kernel
theorem dL_drawn_7 : decode cL_drawn 7 = .ok (.if_icmp .ge 21, 3) := by decide +kernel
theorem dL_drawn_10 : decode cL_drawn 10 = .ok (.iload_n 1, 1) := by decide +kernel
theorem dL_drawn_11 : decode cL_drawn 11 = .ok (.aload_n 0, 1) := by decide +kernel
theorem dL_drawn_12 : decode cL_drawn 12 = .ok (.iconst 5, 1) := by decide +kernel
theorem dL_drawn_13 : decode cL_drawn 13 = .ok (.iload_n 2, 1) := by decide +kernel
theorem dL_drawn_14 : decode cL_drawn 14 = .ok (.imul, 1) := by decide +kernel
theorem dL_drawn_15 : decode cL_drawn 15 = .ok (.iconst 3, 1) := by decide +kernel
theorem dL_drawn_16 : decode cL_drawn 16 = .ok (.iadd, 1) := by decide +kernel
theorem dL_drawn_17 : decode cL_drawn 17 = .ok (.iaload, 1) := by decide +kernel
theorem dL_drawn_18 : decode cL_drawn 18 = .ok (.iload_n 2, 1) := by decide +kernel
theorem dL_drawn_19 : decode cL_drawn 19 = .ok (.ishl, 1) := by decide +kernel
theorem dL_drawn_20 : decode cL_drawn 20 = .ok (.iadd, 1) := by decide +kernel
theorem dL_drawn_21 : decode cL_drawn 21 = .ok (.istore_n 1, 1) := by decide +kernel
theorem dL_drawn_22 : decode cL_drawn 22 = .ok (.iinc 2 1, 3) := by decide +kernel
theorem dL_drawn_25 : decode cL_drawn 25 = .ok (.goto (-21), 3) := by decide +kernel
theorem dL_drawn_28 : decode cL_drawn 28 = .ok (.iload_n 1, 1) := by decide +kernel
theorem dL_drawn_29 : decode cL_drawn 29 = .ok (.ireturn, 1) := by decide +kernel
theorem dL_acts_0 : decode cL_acts 0 = .ok (.iload 5, 2) := by decide +kernel
theorem dL_acts_2 : decode cL_acts 2 = .ok (.iconst 3, 1) := by decide +kernel
theorem dL_acts_3 : decode cL_acts 3 = .ok (.ishr, 1) := by decide +kernel
theorem dL_acts_4 : decode cL_acts 4 = .ok (.istore 6, 2) := by decide +kernel
theorem dL_acts_6 : decode cL_acts 6 = .ok (.iload 6, 2) := by decide +kernel
theorem dL_acts_8 : decode cL_acts 8 = .ok (.bipush 8, 2) := by decide +kernel
theorem dL_acts_10 : decode cL_acts 10 = .ok (.irem, 1) := by decide +kernel
theorem dL_acts_11 : decode cL_acts 11 = .ok (.istore 7, 2) := by decide +kernel
theorem dL_acts_13 : decode cL_acts 13 = .ok (.iload 6, 2) := by decide +kernel
theorem dL_acts_15 : decode cL_acts 15 = .ok (.iconst 3, 1) := by decide +kernel
theorem dL_acts_16 : decode cL_acts 16 = .ok (.ishr, 1) := by decide +kernel
theorem dL_acts_17 : decode cL_acts 17 = .ok (.bipush 24, 2) := by decide +kernel
theorem dL_acts_19 : decode cL_acts 19 = .ok (.irem, 1) := by decide +kernel
theorem dL_acts_20 : decode cL_acts 20 = .ok (.istore 8, 2) := by decide +kernel
theorem dL_acts_22 : decode cL_acts 22 = .ok (.iload 5, 2) := by decide +kernel
theorem dL_acts_24 : decode cL_acts 24 = .ok (.bipush 7, 2) := by decide +kernel
theorem dL_acts_26 : decode cL_acts 26 = .ok (.iand, 1) := by decide +kernel
theorem dL_acts_27 : decode cL_acts 27 = .ok (.tableswitch 625 0 5 #[37, 149, 293, 293, 365, 420], 37) := by decide +kernel
theorem dL_acts_64 : decode cL_acts 64 = .ok (.iload 6, 2) := by decide +kernel
theorem dL_acts_66 : decode cL_acts 66 = .ok (.bipush 9, 2) := by decide +kernel
theorem dL_acts_68 : decode cL_acts 68 = .ok (.irem, 1) := by decide +kernel
theorem dL_acts_69 : decode cL_acts 69 = .ok (.istore 9, 2) := by decide +kernel
theorem dL_acts_71 : decode cL_acts 71 = .ok (.iload 9, 2) := by decide +kernel
theorem dL_acts_73 : decode cL_acts 73 = .ok (.invokestatic 18, 3) := by decide +kernel
theorem dL_acts_76 : decode cL_acts 76 = .ok (.iload 6, 2) := by decide +kernel
theorem dL_acts_78 : decode cL_acts 78 = .ok (.iconst 4, 1) := by decide +kernel
theorem dL_acts_79 : decode cL_acts 79 = .ok (.ishr, 1) := by decide +kernel
theorem dL_acts_80 : decode cL_acts 80 = .ok (.iload 9, 2) := by decide +kernel
theorem dL_acts_82 : decode cL_acts 82 = .ok (.iconst 4, 1) := by decide +kernel
theorem dL_acts_83 : decode cL_acts 83 = .ok (.if_icmp .eq 9, 3) := by decide +kernel
theorem dL_acts_86 : decode cL_acts 86 = .ok (.iload 9, 2) := by decide +kernel
theorem dL_acts_88 : decode cL_acts 88 = .ok (.iconst 5, 1) := by decide +kernel
theorem dL_acts_89 : decode cL_acts 89 = .ok (.if_icmp .ne 9, 3) := by decide +kernel
theorem dL_acts_92 : decode cL_acts 92 = .ok (.sipush 3000, 3) := by decide +kernel
theorem dL_acts_95 : decode cL_acts 95 = .ok (.goto 16, 3) := by decide +kernel
theorem dL_acts_98 : decode cL_acts 98 = .ok (.iload 9, 2) := by decide +kernel
theorem dL_acts_100 : decode cL_acts 100 = .ok (.invokestatic 22, 3) := by decide +kernel
theorem dL_acts_103 : decode cL_acts 103 = .ok (.iload 9, 2) := by decide +kernel
theorem dL_acts_105 : decode cL_acts 105 = .ok (.invokestatic 18, 3) := by decide +kernel
theorem dL_acts_108 : decode cL_acts 108 = .ok (.isub, 1) := by decide +kernel
theorem dL_acts_109 : decode cL_acts 109 = .ok (.iconst 1, 1) := by decide +kernel
theorem dL_acts_110 : decode cL_acts 110 = .ok (.iadd, 1) := by decide +kernel
theorem dL_acts_111 : decode cL_acts 111 = .ok (.irem, 1) := by decide +kernel
theorem dL_acts_112 : decode cL_acts 112 = .ok (.iadd, 1) := by decide +kernel
theorem dL_acts_113 : decode cL_acts 113 = .ok (.istore 10, 2) := by decide +kernel
theorem dL_acts_115 : decode cL_acts 115 = .ok (.aload_n 2, 1) := by decide +kernel
theorem dL_acts_116 : decode cL_acts 116 = .ok (.iload 9, 2) := by decide +kernel
theorem dL_acts_118 : decode cL_acts 118 = .ok (.iaload, 1) := by decide +kernel
theorem dL_acts_119 : decode cL_acts 119 = .ok (.istore 11, 2) := by decide +kernel
theorem dL_acts_121 : decode cL_acts 121 = .ok (.aload_n 2, 1) := by decide +kernel
theorem dL_acts_122 : decode cL_acts 122 = .ok (.iload 9, 2) := by decide +kernel
theorem dL_acts_124 : decode cL_acts 124 = .ok (.iload 10, 2) := by decide +kernel
theorem dL_acts_126 : decode cL_acts 126 = .ok (.iastore, 1) := by decide +kernel
theorem dL_acts_127 : decode cL_acts 127 = .ok (.aload_n 0, 1) := by decide +kernel
theorem dL_acts_128 : decode cL_acts 128 = .ok (.iload 9, 2) := by decide +kernel
theorem dL_acts_130 : decode cL_acts 130 = .ok (.iload 10, 2) := by decide +kernel
theorem dL_acts_132 : decode cL_acts 132 = .ok (.invokevirtual 25, 3) := by decide +kernel
theorem dL_acts_135 : decode cL_acts 135 = .ok (.iload 11, 2) := by decide +kernel
theorem dL_acts_137 : decode cL_acts 137 = .ok (.if_icmp .ne 37, 3) := by decide +kernel
theorem dL_acts_140 : decode cL_acts 140 = .ok (.aload_n 0, 1) := by decide +kernel
theorem dL_acts_141 : decode cL_acts 141 = .ok (.iload 9, 2) := by decide +kernel
theorem dL_acts_143 : decode cL_acts 143 = .ok (.iload 9, 2) := by decide +kernel
theorem dL_acts_145 : decode cL_acts 145 = .ok (.invokestatic 22, 3) := by decide +kernel
theorem dL_acts_148 : decode cL_acts 148 = .ok (.iconst 1, 1) := by decide +kernel
theorem dL_acts_149 : decode cL_acts 149 = .ok (.iadd, 1) := by decide +kernel
theorem dL_acts_150 : decode cL_acts 150 = .ok (.invokevirtual 25, 3) := by decide +kernel
theorem dL_acts_153 : decode cL_acts 153 = .ok (.ldc 31, 2) := by decide +kernel
theorem dL_acts_155 : decode cL_acts 155 = .ok (.if_icmp .ne 19, 3) := by decide +kernel
theorem dL_acts_158 : decode cL_acts 158 = .ok (.aload_n 0, 1) := by decide +kernel
theorem dL_acts_159 : decode cL_acts 159 = .ok (.bipush 9, 2) := by decide +kernel
theorem dL_acts_161 : decode cL_acts 161 = .ok (.iconst 1, 1) := by decide +kernel
theorem dL_acts_162 : decode cL_acts 162 = .ok (.invokevirtual 25, 3) := by decide +kernel
theorem dL_acts_165 : decode cL_acts 165 = .ok (.ldc 32, 2) := by decide +kernel
theorem dL_acts_167 : decode cL_acts 167 = .ok (.if_icmp .ne 7, 3) := by decide +kernel
theorem dL_acts_170 : decode cL_acts 170 = .ok (.iconst 1, 1) := by decide +kernel
theorem dL_acts_171 : decode cL_acts 171 = .ok (.goto 4, 3) := by decide +kernel
theorem dL_acts_174 : decode cL_acts 174 = .ok (.iconst 0, 1) := by decide +kernel
theorem dL_acts_175 : decode cL_acts 175 = .ok (.ireturn, 1) := by decide +kernel
theorem dL_acts_176 : decode cL_acts 176 = .ok (.aload_n 1, 1) := by decide +kernel
theorem dL_acts_177 : decode cL_acts 177 = .ok (.iconst 5, 1) := by decide +kernel
theorem dL_acts_178 : decode cL_acts 178 = .ok (.iload 7, 2) := by decide +kernel
theorem dL_acts_180 : decode cL_acts 180 = .ok (.imul, 1) := by decide +kernel
theorem dL_acts_181 : decode cL_acts 181 = .ok (.iconst 1, 1) := by decide +kernel
theorem dL_acts_182 : decode cL_acts 182 = .ok (.iadd, 1) := by decide +kernel
theorem dL_acts_183 : decode cL_acts 183 = .ok (.iaload, 1) := by decide +kernel
theorem dL_acts_184 : decode cL_acts 184 = .ok (.istore 12, 2) := by decide +kernel
theorem dL_acts_186 : decode cL_acts 186 = .ok (.aload_n 1, 1) := by decide +kernel
theorem dL_acts_187 : decode cL_acts 187 = .ok (.iconst 5, 1) := by decide +kernel
theorem dL_acts_188 : decode cL_acts 188 = .ok (.iload 7, 2) := by decide +kernel
theorem dL_acts_190 : decode cL_acts 190 = .ok (.imul, 1) := by decide +kernel
theorem dL_acts_191 : decode cL_acts 191 = .ok (.iload 6, 2) := by decide +kernel
theorem dL_acts_193 : decode cL_acts 193 = .ok (.iconst 3, 1) := by decide +kernel
theorem dL_acts_194 : decode cL_acts 194 = .ok (.ishr, 1) := by decide +kernel
theorem dL_acts_195 : decode cL_acts 195 = .ok (.iconst 2, 1) := by decide +kernel
theorem dL_acts_196 : decode cL_acts 196 = .ok (.irem, 1) := by decide +kernel
theorem dL_acts_197 : decode cL_acts 197 = .ok (.iastore, 1) := by decide +kernel
theorem dL_acts_198 : decode cL_acts 198 = .ok (.aload_n 1, 1) := by decide +kernel
theorem dL_acts_199 : decode cL_acts 199 = .ok (.iconst 5, 1) := by decide +kernel
theorem dL_acts_200 : decode cL_acts 200 = .ok (.iload 7, 2) := by decide +kernel
theorem dL_acts_202 : decode cL_acts 202 = .ok (.imul, 1) := by decide +kernel
theorem dL_acts_203 : decode cL_acts 203 = .ok (.iconst 1, 1) := by decide +kernel
theorem dL_acts_204 : decode cL_acts 204 = .ok (.iadd, 1) := by decide +kernel
theorem dL_acts_205 : decode cL_acts 205 = .ok (.iconst 1, 1) := by decide +kernel
theorem dL_acts_206 : decode cL_acts 206 = .ok (.iload 6, 2) := by decide +kernel
theorem dL_acts_208 : decode cL_acts 208 = .ok (.iconst 4, 1) := by decide +kernel
theorem dL_acts_209 : decode cL_acts 209 = .ok (.ishr, 1) := by decide +kernel
theorem dL_acts_210 : decode cL_acts 210 = .ok (.bipush 40, 2) := by decide +kernel
theorem dL_acts_212 : decode cL_acts 212 = .ok (.irem, 1) := by decide +kernel
theorem dL_acts_213 : decode cL_acts 213 = .ok (.iadd, 1) := by decide +kernel
theorem dL_acts_214 : decode cL_acts 214 = .ok (.iastore, 1) := by decide +kernel
theorem dL_acts_215 : decode cL_acts 215 = .ok (.aload_n 1, 1) := by decide +kernel
theorem dL_acts_216 : decode cL_acts 216 = .ok (.iconst 5, 1) := by decide +kernel
theorem dL_acts_217 : decode cL_acts 217 = .ok (.iload 7, 2) := by decide +kernel
theorem dL_acts_219 : decode cL_acts 219 = .ok (.imul, 1) := by decide +kernel
theorem dL_acts_220 : decode cL_acts 220 = .ok (.iconst 2, 1) := by decide +kernel
theorem dL_acts_221 : decode cL_acts 221 = .ok (.iadd, 1) := by decide +kernel
theorem dL_acts_222 : decode cL_acts 222 = .ok (.iload 6, 2) := by decide +kernel
theorem dL_acts_224 : decode cL_acts 224 = .ok (.bipush 10, 2) := by decide +kernel
theorem dL_acts_226 : decode cL_acts 226 = .ok (.ishr, 1) := by decide +kernel
theorem dL_acts_227 : decode cL_acts 227 = .ok (.iconst 3, 1) := by decide +kernel
theorem dL_acts_228 : decode cL_acts 228 = .ok (.irem, 1) := by decide +kernel
theorem dL_acts_229 : decode cL_acts 229 = .ok (.ifCond .ne 15, 3) := by decide +kernel
theorem dL_acts_232 : decode cL_acts 232 = .ok (.iload 6, 2) := by decide +kernel
theorem dL_acts_234 : decode cL_acts 234 = .ok (.bipush 12, 2) := by decide +kernel
theorem dL_acts_236 : decode cL_acts 236 = .ok (.ishr, 1) := by decide +kernel
theorem dL_acts_237 : decode cL_acts 237 = .ok (.sipush 201, 3) := by decide +kernel
theorem dL_acts_240 : decode cL_acts 240 = .ok (.irem, 1) := by decide +kernel
theorem dL_acts_241 : decode cL_acts 241 = .ok (.goto 11, 3) := by decide +kernel
theorem dL_acts_244 : decode cL_acts 244 = .ok (.iload 6, 2) := by decide +kernel
theorem dL_acts_246 : decode cL_acts 246 = .ok (.bipush 12, 2) := by decide +kernel
theorem dL_acts_248 : decode cL_acts 248 = .ok (.ishr, 1) := by decide +kernel
theorem dL_acts_249 : decode cL_acts 249 = .ok (.bipush 60, 2) := by decide +kernel
theorem dL_acts_251 : decode cL_acts 251 = .ok (.irem, 1) := by decide +kernel
theorem dL_acts_252 : decode cL_acts 252 = .ok (.iastore, 1) := by decide +kernel
theorem dL_acts_253 : decode cL_acts 253 = .ok (.aload_n 0, 1) := by decide +kernel
theorem dL_acts_254 : decode cL_acts 254 = .ok (.iload 7, 2) := by decide +kernel
theorem dL_acts_256 : decode cL_acts 256 = .ok (.aload_n 1, 1) := by decide +kernel
theorem dL_acts_257 : decode cL_acts 257 = .ok (.iconst 5, 1) := by decide +kernel
theorem dL_acts_258 : decode cL_acts 258 = .ok (.iload 7, 2) := by decide +kernel
theorem dL_acts_260 : decode cL_acts 260 = .ok (.imul, 1) := by decide +kernel
theorem dL_acts_261 : decode cL_acts 261 = .ok (.iaload, 1) := by decide +kernel
theorem dL_acts_262 : decode cL_acts 262 = .ok (.aload_n 1, 1) := by decide +kernel
theorem dL_acts_263 : decode cL_acts 263 = .ok (.iconst 5, 1) := by decide +kernel
theorem dL_acts_264 : decode cL_acts 264 = .ok (.iload 7, 2) := by decide +kernel
theorem dL_acts_266 : decode cL_acts 266 = .ok (.imul, 1) := by decide +kernel
theorem dL_acts_267 : decode cL_acts 267 = .ok (.iconst 1, 1) := by decide +kernel
theorem dL_acts_268 : decode cL_acts 268 = .ok (.iadd, 1) := by decide +kernel
theorem dL_acts_269 : decode cL_acts 269 = .ok (.iaload, 1) := by decide +kernel
theorem dL_acts_270 : decode cL_acts 270 = .ok (.aload_n 1, 1) := by decide +kernel
theorem dL_acts_271 : decode cL_acts 271 = .ok (.iconst 5, 1) := by decide +kernel
theorem dL_acts_272 : decode cL_acts 272 = .ok (.iload 7, 2) := by decide +kernel
theorem dL_acts_274 : decode cL_acts 274 = .ok (.imul, 1) := by decide +kernel
theorem dL_acts_275 : decode cL_acts 275 = .ok (.iconst 2, 1) := by decide +kernel
theorem dL_acts_276 : decode cL_acts 276 = .ok (.iadd, 1) := by decide +kernel
theorem dL_acts_277 : decode cL_acts 277 = .ok (.iaload, 1) := by decide +kernel
theorem dL_acts_278 : decode cL_acts 278 = .ok (.invokevirtual 33, 3) := by decide +kernel
theorem dL_acts_281 : decode cL_acts 281 = .ok (.iload 12, 2) := by decide +kernel
theorem dL_acts_283 : decode cL_acts 283 = .ok (.if_icmp .ne 35, 3) := by decide +kernel
theorem dL_acts_286 : decode cL_acts 286 = .ok (.aload_n 0, 1) := by decide +kernel
theorem dL_acts_287 : decode cL_acts 287 = .ok (.iload 7, 2) := by decide +kernel
theorem dL_acts_289 : decode cL_acts 289 = .ok (.iconst 2, 1) := by decide +kernel
theorem dL_acts_290 : decode cL_acts 290 = .ok (.iconst 1, 1) := by decide +kernel
theorem dL_acts_291 : decode cL_acts 291 = .ok (.iconst 1, 1) := by decide +kernel
theorem dL_acts_292 : decode cL_acts 292 = .ok (.invokevirtual 33, 3) := by decide +kernel
theorem dL_acts_295 : decode cL_acts 295 = .ok (.ldc 31, 2) := by decide +kernel
theorem dL_acts_297 : decode cL_acts 297 = .ok (.if_icmp .ne 21, 3) := by decide +kernel
theorem dL_acts_300 : decode cL_acts 300 = .ok (.aload_n 0, 1) := by decide +kernel
theorem dL_acts_301 : decode cL_acts 301 = .ok (.bipush 8, 2) := by decide +kernel
theorem dL_acts_303 : decode cL_acts 303 = .ok (.iconst 0, 1) := by decide +kernel
theorem dL_acts_304 : decode cL_acts 304 = .ok (.iconst 1, 1) := by decide +kernel
theorem dL_acts_305 : decode cL_acts 305 = .ok (.iconst 1, 1) := by decide +kernel
theorem dL_acts_306 : decode cL_acts 306 = .ok (.invokevirtual 33, 3) := by decide +kernel
theorem dL_acts_309 : decode cL_acts 309 = .ok (.ldc 32, 2) := by decide +kernel
theorem dL_acts_311 : decode cL_acts 311 = .ok (.if_icmp .ne 7, 3) := by decide +kernel
theorem dL_acts_314 : decode cL_acts 314 = .ok (.iconst 1, 1) := by decide +kernel
theorem dL_acts_315 : decode cL_acts 315 = .ok (.goto 4, 3) := by decide +kernel
theorem dL_acts_318 : decode cL_acts 318 = .ok (.iconst 0, 1) := by decide +kernel
theorem dL_acts_319 : decode cL_acts 319 = .ok (.ireturn, 1) := by decide +kernel
theorem dL_acts_320 : decode cL_acts 320 = .ok (.aload_n 1, 1) := by decide +kernel
theorem dL_acts_321 : decode cL_acts 321 = .ok (.iconst 5, 1) := by decide +kernel
theorem dL_acts_322 : decode cL_acts 322 = .ok (.iload 7, 2) := by decide +kernel
theorem dL_acts_324 : decode cL_acts 324 = .ok (.imul, 1) := by decide +kernel
theorem dL_acts_325 : decode cL_acts 325 = .ok (.iconst 3, 1) := by decide +kernel
theorem dL_acts_326 : decode cL_acts 326 = .ok (.iadd, 1) := by decide +kernel
theorem dL_acts_327 : decode cL_acts 327 = .ok (.iload 6, 2) := by decide +kernel
theorem dL_acts_329 : decode cL_acts 329 = .ok (.iconst 3, 1) := by decide +kernel
theorem dL_acts_330 : decode cL_acts 330 = .ok (.ishr, 1) := by decide +kernel
theorem dL_acts_331 : decode cL_acts 331 = .ok (.iconst 4, 1) := by decide +kernel
theorem dL_acts_332 : decode cL_acts 332 = .ok (.irem, 1) := by decide +kernel
theorem dL_acts_333 : decode cL_acts 333 = .ok (.ifCond .le 7, 3) := by decide +kernel
theorem dL_acts_336 : decode cL_acts 336 = .ok (.iconst 1, 1) := by decide +kernel
theorem dL_acts_337 : decode cL_acts 337 = .ok (.goto 4, 3) := by decide +kernel
theorem dL_acts_340 : decode cL_acts 340 = .ok (.iconst 0, 1) := by decide +kernel
theorem dL_acts_341 : decode cL_acts 341 = .ok (.iastore, 1) := by decide +kernel
theorem dL_acts_342 : decode cL_acts 342 = .ok (.aload_n 0, 1) := by decide +kernel
theorem dL_acts_343 : decode cL_acts 343 = .ok (.iload 7, 2) := by decide +kernel
theorem dL_acts_345 : decode cL_acts 345 = .ok (.aload_n 1, 1) := by decide +kernel
theorem dL_acts_346 : decode cL_acts 346 = .ok (.iconst 5, 1) := by decide +kernel
theorem dL_acts_347 : decode cL_acts 347 = .ok (.iload 7, 2) := by decide +kernel
theorem dL_acts_349 : decode cL_acts 349 = .ok (.imul, 1) := by decide +kernel
theorem dL_acts_350 : decode cL_acts 350 = .ok (.iconst 3, 1) := by decide +kernel
theorem dL_acts_351 : decode cL_acts 351 = .ok (.iadd, 1) := by decide +kernel
theorem dL_acts_352 : decode cL_acts 352 = .ok (.iaload, 1) := by decide +kernel
theorem dL_acts_353 : decode cL_acts 353 = .ok (.iconst 1, 1) := by decide +kernel
theorem dL_acts_354 : decode cL_acts 354 = .ok (.if_icmp .ne 7, 3) := by decide +kernel
theorem dL_acts_357 : decode cL_acts 357 = .ok (.iconst 1, 1) := by decide +kernel
theorem dL_acts_358 : decode cL_acts 358 = .ok (.goto 4, 3) := by decide +kernel
theorem dL_acts_361 : decode cL_acts 361 = .ok (.iconst 0, 1) := by decide +kernel
theorem dL_acts_362 : decode cL_acts 362 = .ok (.invokevirtual 37, 3) := by decide +kernel
theorem dL_acts_365 : decode cL_acts 365 = .ok (.aload_n 1, 1) := by decide +kernel
theorem dL_acts_366 : decode cL_acts 366 = .ok (.invokestatic 41, 3) := by decide +kernel
theorem dL_acts_369 : decode cL_acts 369 = .ok (.invokestatic 45, 3) := by decide +kernel
theorem dL_acts_372 : decode cL_acts 372 = .ok (.if_icmp .ne 18, 3) := by decide +kernel
theorem dL_acts_375 : decode cL_acts 375 = .ok (.aload_n 0, 1) := by decide +kernel
theorem dL_acts_376 : decode cL_acts 376 = .ok (.iconst (-1), 1) := by decide +kernel
theorem dL_acts_377 : decode cL_acts 377 = .ok (.iconst 1, 1) := by decide +kernel
theorem dL_acts_378 : decode cL_acts 378 = .ok (.invokevirtual 37, 3) := by decide +kernel
theorem dL_acts_381 : decode cL_acts 381 = .ok (.ldc 32, 2) := by decide +kernel
theorem dL_acts_383 : decode cL_acts 383 = .ok (.if_icmp .ne 7, 3) := by decide +kernel
theorem dL_acts_386 : decode cL_acts 386 = .ok (.iconst 1, 1) := by decide +kernel
theorem dL_acts_387 : decode cL_acts 387 = .ok (.goto 4, 3) := by decide +kernel
theorem dL_acts_390 : decode cL_acts 390 = .ok (.iconst 0, 1) := by decide +kernel
theorem dL_acts_391 : decode cL_acts 391 = .ok (.ireturn, 1) := by decide +kernel
theorem dL_acts_392 : decode cL_acts 392 = .ok (.aload 4, 2) := by decide +kernel
theorem dL_acts_394 : decode cL_acts 394 = .ok (.iconst 1, 1) := by decide +kernel
theorem dL_acts_395 : decode cL_acts 395 = .ok (.iaload, 1) := by decide +kernel
theorem dL_acts_396 : decode cL_acts 396 = .ok (.istore 13, 2) := by decide +kernel
theorem dL_acts_398 : decode cL_acts 398 = .ok (.aload 4, 2) := by decide +kernel
theorem dL_acts_400 : decode cL_acts 400 = .ok (.iconst 1, 1) := by decide +kernel
theorem dL_acts_401 : decode cL_acts 401 = .ok (.iload 6, 2) := by decide +kernel
theorem dL_acts_403 : decode cL_acts 403 = .ok (.iconst 4, 1) := by decide +kernel
theorem dL_acts_404 : decode cL_acts 404 = .ok (.irem, 1) := by decide +kernel
theorem dL_acts_405 : decode cL_acts 405 = .ok (.iastore, 1) := by decide +kernel
theorem dL_acts_406 : decode cL_acts 406 = .ok (.aload_n 0, 1) := by decide +kernel
theorem dL_acts_407 : decode cL_acts 407 = .ok (.iload 6, 2) := by decide +kernel
theorem dL_acts_409 : decode cL_acts 409 = .ok (.iconst 2, 1) := by decide +kernel
theorem dL_acts_410 : decode cL_acts 410 = .ok (.irem, 1) := by decide +kernel
theorem dL_acts_411 : decode cL_acts 411 = .ok (.iconst 1, 1) := by decide +kernel
theorem dL_acts_412 : decode cL_acts 412 = .ok (.if_icmp .ne 7, 3) := by decide +kernel
theorem dL_acts_415 : decode cL_acts 415 = .ok (.iconst 1, 1) := by decide +kernel
theorem dL_acts_416 : decode cL_acts 416 = .ok (.goto 4, 3) := by decide +kernel
theorem dL_acts_419 : decode cL_acts 419 = .ok (.iconst 0, 1) := by decide +kernel
theorem dL_acts_420 : decode cL_acts 420 = .ok (.iload 6, 2) := by decide +kernel
theorem dL_acts_422 : decode cL_acts 422 = .ok (.iconst 4, 1) := by decide +kernel
theorem dL_acts_423 : decode cL_acts 423 = .ok (.irem, 1) := by decide +kernel
theorem dL_acts_424 : decode cL_acts 424 = .ok (.iconst 1, 1) := by decide +kernel
theorem dL_acts_425 : decode cL_acts 425 = .ok (.if_icmp .le 7, 3) := by decide +kernel
theorem dL_acts_428 : decode cL_acts 428 = .ok (.iconst 1, 1) := by decide +kernel
theorem dL_acts_429 : decode cL_acts 429 = .ok (.goto 4, 3) := by decide +kernel
theorem dL_acts_432 : decode cL_acts 432 = .ok (.iconst 0, 1) := by decide +kernel
theorem dL_acts_433 : decode cL_acts 433 = .ok (.invokevirtual 48, 3) := by decide +kernel
theorem dL_acts_436 : decode cL_acts 436 = .ok (.iload 13, 2) := by decide +kernel
theorem dL_acts_438 : decode cL_acts 438 = .ok (.if_icmp .ne 7, 3) := by decide +kernel
theorem dL_acts_441 : decode cL_acts 441 = .ok (.iconst 1, 1) := by decide +kernel
theorem dL_acts_442 : decode cL_acts 442 = .ok (.goto 4, 3) := by decide +kernel
theorem dL_acts_445 : decode cL_acts 445 = .ok (.iconst 0, 1) := by decide +kernel
theorem dL_acts_446 : decode cL_acts 446 = .ok (.ireturn, 1) := by decide +kernel
theorem dL_acts_447 : decode cL_acts 447 = .ok (.aload_n 3, 1) := by decide +kernel
theorem dL_acts_448 : decode cL_acts 448 = .ok (.iload 7, 2) := by decide +kernel
theorem dL_acts_450 : decode cL_acts 450 = .ok (.iaload, 1) := by decide +kernel
theorem dL_acts_451 : decode cL_acts 451 = .ok (.iload 8, 2) := by decide +kernel
theorem dL_acts_453 : decode cL_acts 453 = .ok (.ishr, 1) := by decide +kernel
theorem dL_acts_454 : decode cL_acts 454 = .ok (.iconst 1, 1) := by decide +kernel
theorem dL_acts_455 : decode cL_acts 455 = .ok (.iand, 1) := by decide +kernel
theorem dL_acts_456 : decode cL_acts 456 = .ok (.iconst 1, 1) := by decide +kernel
theorem dL_acts_457 : decode cL_acts 457 = .ok (.if_icmp .ne 7, 3) := by decide +kernel
theorem dL_acts_460 : decode cL_acts 460 = .ok (.iconst 1, 1) := by decide +kernel
theorem dL_acts_461 : decode cL_acts 461 = .ok (.goto 4, 3) := by decide +kernel
theorem dL_acts_464 : decode cL_acts 464 = .ok (.iconst 0, 1) := by decide +kernel
theorem dL_acts_465 : decode cL_acts 465 = .ok (.istore 14, 2) := by decide +kernel
theorem dL_acts_467 : decode cL_acts 467 = .ok (.iload 6, 2) := by decide +kernel
theorem dL_acts_469 : decode cL_acts 469 = .ok (.bipush 8, 2) := by decide +kernel
theorem dL_acts_471 : decode cL_acts 471 = .ok (.ishr, 1) := by decide +kernel
theorem dL_acts_472 : decode cL_acts 472 = .ok (.iconst 3, 1) := by decide +kernel
theorem dL_acts_473 : decode cL_acts 473 = .ok (.irem, 1) := by decide +kernel
theorem dL_acts_474 : decode cL_acts 474 = .ok (.ifCond .le 7, 3) := by decide +kernel
theorem dL_acts_477 : decode cL_acts 477 = .ok (.iconst 1, 1) := by decide +kernel
theorem dL_acts_478 : decode cL_acts 478 = .ok (.goto 4, 3) := by decide +kernel
theorem dL_acts_481 : decode cL_acts 481 = .ok (.iconst 0, 1) := by decide +kernel
theorem dL_acts_482 : decode cL_acts 482 = .ok (.istore 15, 2) := by decide +kernel
theorem dL_acts_484 : decode cL_acts 484 = .ok (.iconst 0, 1) := by decide +kernel
theorem dL_acts_485 : decode cL_acts 485 = .ok (.istore 16, 2) := by decide +kernel
theorem dL_acts_487 : decode cL_acts 487 = .ok (.iconst 0, 1) := by decide +kernel
theorem dL_acts_488 : decode cL_acts 488 = .ok (.istore 17, 2) := by decide +kernel
theorem dL_acts_490 : decode cL_acts 490 = .ok (.iload 17, 2) := by decide +kernel
theorem dL_acts_492 : decode cL_acts 492 = .ok (.bipush 8, 2) := by decide +kernel
theorem dL_acts_494 : decode cL_acts 494 = .ok (.if_icmp .ge 21, 3) := by decide +kernel
theorem dL_acts_497 : decode cL_acts 497 = .ok (.iload 16, 2) := by decide +kernel
theorem dL_acts_499 : decode cL_acts 499 = .ok (.aload_n 3, 1) := by decide +kernel
theorem dL_acts_500 : decode cL_acts 500 = .ok (.iload 17, 2) := by decide +kernel
theorem dL_acts_502 : decode cL_acts 502 = .ok (.iaload, 1) := by decide +kernel
theorem dL_acts_503 : decode cL_acts 503 = .ok (.invokestatic 45, 3) := by decide +kernel
theorem dL_acts_506 : decode cL_acts 506 = .ok (.iadd, 1) := by decide +kernel
theorem dL_acts_507 : decode cL_acts 507 = .ok (.istore 16, 2) := by decide +kernel
theorem dL_acts_509 : decode cL_acts 509 = .ok (.iinc 17 1, 3) := by decide +kernel
theorem dL_acts_512 : decode cL_acts 512 = .ok (.goto (-22), 3) := by decide +kernel
theorem dL_acts_515 : decode cL_acts 515 = .ok (.iload 15, 2) := by decide +kernel
theorem dL_acts_517 : decode cL_acts 517 = .ok (.ifCond .eq 35, 3) := by decide +kernel
theorem dL_acts_520 : decode cL_acts 520 = .ok (.iload 14, 2) := by decide +kernel
theorem dL_acts_522 : decode cL_acts 522 = .ok (.ifCond .ne 30, 3) := by decide +kernel
theorem dL_acts_525 : decode cL_acts 525 = .ok (.iload 16, 2) := by decide +kernel
theorem dL_acts_527 : decode cL_acts 527 = .ok (.bipush 6, 2) := by decide +kernel
theorem dL_acts_529 : decode cL_acts 529 = .ok (.if_icmp .ne 23, 3) := by decide +kernel
theorem dL_acts_532 : decode cL_acts 532 = .ok (.aload_n 0, 1) := by decide +kernel
theorem dL_acts_533 : decode cL_acts 533 = .ok (.iload 7, 2) := by decide +kernel
theorem dL_acts_535 : decode cL_acts 535 = .ok (.iload 8, 2) := by decide +kernel
theorem dL_acts_537 : decode cL_acts 537 = .ok (.iconst 1, 1) := by decide +kernel
theorem dL_acts_538 : decode cL_acts 538 = .ok (.invokevirtual 52, 3) := by decide +kernel
theorem dL_acts_541 : decode cL_acts 541 = .ok (.ldc 56, 2) := by decide +kernel
theorem dL_acts_543 : decode cL_acts 543 = .ok (.if_icmp .ne 7, 3) := by decide +kernel
theorem dL_acts_546 : decode cL_acts 546 = .ok (.iconst 1, 1) := by decide +kernel
theorem dL_acts_547 : decode cL_acts 547 = .ok (.goto 4, 3) := by decide +kernel
theorem dL_acts_550 : decode cL_acts 550 = .ok (.iconst 0, 1) := by decide +kernel
theorem dL_acts_551 : decode cL_acts 551 = .ok (.ireturn, 1) := by decide +kernel
theorem dL_acts_552 : decode cL_acts 552 = .ok (.iload 16, 2) := by decide +kernel
theorem dL_acts_554 : decode cL_acts 554 = .ok (.iload 15, 2) := by decide +kernel
theorem dL_acts_556 : decode cL_acts 556 = .ok (.ifCond .eq 12, 3) := by decide +kernel
theorem dL_acts_559 : decode cL_acts 559 = .ok (.iload 14, 2) := by decide +kernel
theorem dL_acts_561 : decode cL_acts 561 = .ok (.ifCond .ne 7, 3) := by decide +kernel
theorem dL_acts_564 : decode cL_acts 564 = .ok (.iconst 1, 1) := by decide +kernel
theorem dL_acts_565 : decode cL_acts 565 = .ok (.goto 18, 3) := by decide +kernel
theorem dL_acts_568 : decode cL_acts 568 = .ok (.iload 15, 2) := by decide +kernel
theorem dL_acts_570 : decode cL_acts 570 = .ok (.ifCond .ne 12, 3) := by decide +kernel
theorem dL_acts_573 : decode cL_acts 573 = .ok (.iload 14, 2) := by decide +kernel
theorem dL_acts_575 : decode cL_acts 575 = .ok (.ifCond .eq 7, 3) := by decide +kernel
theorem dL_acts_578 : decode cL_acts 578 = .ok (.iconst (-1), 1) := by decide +kernel
theorem dL_acts_579 : decode cL_acts 579 = .ok (.goto 4, 3) := by decide +kernel
theorem dL_acts_582 : decode cL_acts 582 = .ok (.iconst 0, 1) := by decide +kernel
theorem dL_acts_583 : decode cL_acts 583 = .ok (.iadd, 1) := by decide +kernel
theorem dL_acts_584 : decode cL_acts 584 = .ok (.istore 16, 2) := by decide +kernel
theorem dL_acts_586 : decode cL_acts 586 = .ok (.aload_n 3, 1) := by decide +kernel
theorem dL_acts_587 : decode cL_acts 587 = .ok (.iload 7, 2) := by decide +kernel
theorem dL_acts_589 : decode cL_acts 589 = .ok (.iload 15, 2) := by decide +kernel
theorem dL_acts_591 : decode cL_acts 591 = .ok (.ifCond .eq 15, 3) := by decide +kernel
theorem dL_acts_594 : decode cL_acts 594 = .ok (.aload_n 3, 1) := by decide +kernel
theorem dL_acts_595 : decode cL_acts 595 = .ok (.iload 7, 2) := by decide +kernel
theorem dL_acts_597 : decode cL_acts 597 = .ok (.iaload, 1) := by decide +kernel
theorem dL_acts_598 : decode cL_acts 598 = .ok (.iconst 1, 1) := by decide +kernel
theorem dL_acts_599 : decode cL_acts 599 = .ok (.iload 8, 2) := by decide +kernel
theorem dL_acts_601 : decode cL_acts 601 = .ok (.ishl, 1) := by decide +kernel
theorem dL_acts_602 : decode cL_acts 602 = .ok (.ior, 1) := by decide +kernel
theorem dL_acts_603 : decode cL_acts 603 = .ok (.goto 14, 3) := by decide +kernel
theorem dL_acts_606 : decode cL_acts 606 = .ok (.aload_n 3, 1) := by decide +kernel
theorem dL_acts_607 : decode cL_acts 607 = .ok (.iload 7, 2) := by decide +kernel
theorem dL_acts_609 : decode cL_acts 609 = .ok (.iaload, 1) := by decide +kernel
theorem dL_acts_610 : decode cL_acts 610 = .ok (.iconst 1, 1) := by decide +kernel
theorem dL_acts_611 : decode cL_acts 611 = .ok (.iload 8, 2) := by decide +kernel
theorem dL_acts_613 : decode cL_acts 613 = .ok (.ishl, 1) := by decide +kernel
theorem dL_acts_614 : decode cL_acts 614 = .ok (.iconst (-1), 1) := by decide +kernel
theorem dL_acts_615 : decode cL_acts 615 = .ok (.ixor, 1) := by decide +kernel
theorem dL_acts_616 : decode cL_acts 616 = .ok (.iand, 1) := by decide +kernel
theorem dL_acts_617 : decode cL_acts 617 = .ok (.iastore, 1) := by decide +kernel
theorem dL_acts_618 : decode cL_acts 618 = .ok (.aload_n 0, 1) := by decide +kernel
theorem dL_acts_619 : decode cL_acts 619 = .ok (.iload 7, 2) := by decide +kernel
theorem dL_acts_621 : decode cL_acts 621 = .ok (.iload 8, 2) := by decide +kernel
theorem dL_acts_623 : decode cL_acts 623 = .ok (.iload 15, 2) := by decide +kernel
theorem dL_acts_625 : decode cL_acts 625 = .ok (.invokevirtual 52, 3) := by decide +kernel
theorem dL_acts_628 : decode cL_acts 628 = .ok (.iload 16, 2) := by decide +kernel
theorem dL_acts_630 : decode cL_acts 630 = .ok (.if_icmp .ne 20, 3) := by decide +kernel
theorem dL_acts_633 : decode cL_acts 633 = .ok (.aload_n 0, 1) := by decide +kernel
theorem dL_acts_634 : decode cL_acts 634 = .ok (.iconst 0, 1) := by decide +kernel
theorem dL_acts_635 : decode cL_acts 635 = .ok (.bipush 24, 2) := by decide +kernel
theorem dL_acts_637 : decode cL_acts 637 = .ok (.iconst 1, 1) := by decide +kernel
theorem dL_acts_638 : decode cL_acts 638 = .ok (.invokevirtual 52, 3) := by decide +kernel
theorem dL_acts_641 : decode cL_acts 641 = .ok (.ldc 32, 2) := by decide +kernel
theorem dL_acts_643 : decode cL_acts 643 = .ok (.if_icmp .ne 7, 3) := by decide +kernel
theorem dL_acts_646 : decode cL_acts 646 = .ok (.iconst 1, 1) := by decide +kernel
theorem dL_acts_647 : decode cL_acts 647 = .ok (.goto 4, 3) := by decide +kernel
theorem dL_acts_650 : decode cL_acts 650 = .ok (.iconst 0, 1) := by decide +kernel
theorem dL_acts_651 : decode cL_acts 651 = .ok (.ireturn, 1) := by decide +kernel
theorem dL_acts_652 : decode cL_acts 652 = .ok (.iload 6, 2) := by decide +kernel
theorem dL_acts_654 : decode cL_acts 654 = .ok (.iconst 2, 1) := by decide +kernel
theorem dL_acts_655 : decode cL_acts 655 = .ok (.irem, 1) := by decide +kernel
theorem dL_acts_656 : decode cL_acts 656 = .ok (.istore 17, 2) := by decide +kernel
theorem dL_acts_658 : decode cL_acts 658 = .ok (.iload 6, 2) := by decide +kernel
theorem dL_acts_660 : decode cL_acts 660 = .ok (.bipush 8, 2) := by decide +kernel
theorem dL_acts_662 : decode cL_acts 662 = .ok (.ishr, 1) := by decide +kernel
theorem dL_acts_663 : decode cL_acts 663 = .ok (.iconst 4, 1) := by decide +kernel
theorem dL_acts_664 : decode cL_acts 664 = .ok (.irem, 1) := by decide +kernel
theorem dL_acts_665 : decode cL_acts 665 = .ok (.ifCond .le 7, 3) := by decide +kernel
theorem dL_acts_668 : decode cL_acts 668 = .ok (.iconst 1, 1) := by decide +kernel
theorem dL_acts_669 : decode cL_acts 669 = .ok (.goto 4, 3) := by decide +kernel
theorem dL_acts_672 : decode cL_acts 672 = .ok (.iconst 0, 1) := by decide +kernel
theorem dL_acts_673 : decode cL_acts 673 = .ok (.istore 18, 2) := by decide +kernel
theorem dL_acts_675 : decode cL_acts 675 = .ok (.aload 4, 2) := by decide +kernel
theorem dL_acts_677 : decode cL_acts 677 = .ok (.iconst 2, 1) := by decide +kernel
theorem dL_acts_678 : decode cL_acts 678 = .ok (.iload 17, 2) := by decide +kernel
theorem dL_acts_680 : decode cL_acts 680 = .ok (.iadd, 1) := by decide +kernel
theorem dL_acts_681 : decode cL_acts 681 = .ok (.iload 18, 2) := by decide +kernel
theorem dL_acts_683 : decode cL_acts 683 = .ok (.ifCond .eq 18, 3) := by decide +kernel
theorem dL_acts_686 : decode cL_acts 686 = .ok (.aload 4, 2) := by decide +kernel
theorem dL_acts_688 : decode cL_acts 688 = .ok (.iconst 2, 1) := by decide +kernel
theorem dL_acts_689 : decode cL_acts 689 = .ok (.iload 17, 2) := by decide +kernel
theorem dL_acts_691 : decode cL_acts 691 = .ok (.iadd, 1) := by decide +kernel
theorem dL_acts_692 : decode cL_acts 692 = .ok (.iaload, 1) := by decide +kernel
theorem dL_acts_693 : decode cL_acts 693 = .ok (.iconst 1, 1) := by decide +kernel
theorem dL_acts_694 : decode cL_acts 694 = .ok (.iload 8, 2) := by decide +kernel
theorem dL_acts_696 : decode cL_acts 696 = .ok (.ishl, 1) := by decide +kernel
theorem dL_acts_697 : decode cL_acts 697 = .ok (.ior, 1) := by decide +kernel
theorem dL_acts_698 : decode cL_acts 698 = .ok (.goto 17, 3) := by decide +kernel
theorem dL_acts_701 : decode cL_acts 701 = .ok (.aload 4, 2) := by decide +kernel
theorem dL_acts_703 : decode cL_acts 703 = .ok (.iconst 2, 1) := by decide +kernel
theorem dL_acts_704 : decode cL_acts 704 = .ok (.iload 17, 2) := by decide +kernel
theorem dL_acts_706 : decode cL_acts 706 = .ok (.iadd, 1) := by decide +kernel
theorem dL_acts_707 : decode cL_acts 707 = .ok (.iaload, 1) := by decide +kernel
theorem dL_acts_708 : decode cL_acts 708 = .ok (.iconst 1, 1) := by decide +kernel
theorem dL_acts_709 : decode cL_acts 709 = .ok (.iload 8, 2) := by decide +kernel
theorem dL_acts_711 : decode cL_acts 711 = .ok (.ishl, 1) := by decide +kernel
theorem dL_acts_712 : decode cL_acts 712 = .ok (.iconst (-1), 1) := by decide +kernel
theorem dL_acts_713 : decode cL_acts 713 = .ok (.ixor, 1) := by decide +kernel
theorem dL_acts_714 : decode cL_acts 714 = .ok (.iand, 1) := by decide +kernel
theorem dL_acts_715 : decode cL_acts 715 = .ok (.iastore, 1) := by decide +kernel
theorem dL_acts_716 : decode cL_acts 716 = .ok (.aload_n 0, 1) := by decide +kernel
theorem dL_acts_717 : decode cL_acts 717 = .ok (.iload 17, 2) := by decide +kernel
theorem dL_acts_719 : decode cL_acts 719 = .ok (.iload 8, 2) := by decide +kernel
theorem dL_acts_721 : decode cL_acts 721 = .ok (.iload 18, 2) := by decide +kernel
theorem dL_acts_723 : decode cL_acts 723 = .ok (.invokevirtual 57, 3) := by decide +kernel
theorem dL_acts_726 : decode cL_acts 726 = .ok (.aload 4, 2) := by decide +kernel
theorem dL_acts_728 : decode cL_acts 728 = .ok (.iconst 2, 1) := by decide +kernel
theorem dL_acts_729 : decode cL_acts 729 = .ok (.iload 17, 2) := by decide +kernel
theorem dL_acts_731 : decode cL_acts 731 = .ok (.iadd, 1) := by decide +kernel
theorem dL_acts_732 : decode cL_acts 732 = .ok (.iaload, 1) := by decide +kernel
theorem dL_acts_733 : decode cL_acts 733 = .ok (.invokestatic 45, 3) := by decide +kernel
theorem dL_acts_736 : decode cL_acts 736 = .ok (.if_icmp .ne 31, 3) := by decide +kernel
theorem dL_acts_739 : decode cL_acts 739 = .ok (.aload_n 0, 1) := by decide +kernel
theorem dL_acts_740 : decode cL_acts 740 = .ok (.iconst 2, 1) := by decide +kernel
theorem dL_acts_741 : decode cL_acts 741 = .ok (.iconst 0, 1) := by decide +kernel
theorem dL_acts_742 : decode cL_acts 742 = .ok (.iconst 1, 1) := by decide +kernel
theorem dL_acts_743 : decode cL_acts 743 = .ok (.invokevirtual 57, 3) := by decide +kernel
theorem dL_acts_746 : decode cL_acts 746 = .ok (.ldc 32, 2) := by decide +kernel
theorem dL_acts_748 : decode cL_acts 748 = .ok (.if_icmp .ne 19, 3) := by decide +kernel
theorem dL_acts_751 : decode cL_acts 751 = .ok (.aload_n 0, 1) := by decide +kernel
theorem dL_acts_752 : decode cL_acts 752 = .ok (.iconst 0, 1) := by decide +kernel
theorem dL_acts_753 : decode cL_acts 753 = .ok (.iconst (-1), 1) := by decide +kernel
theorem dL_acts_754 : decode cL_acts 754 = .ok (.iconst 1, 1) := by decide +kernel
theorem dL_acts_755 : decode cL_acts 755 = .ok (.invokevirtual 57, 3) := by decide +kernel
theorem dL_acts_758 : decode cL_acts 758 = .ok (.ldc 32, 2) := by decide +kernel
theorem dL_acts_760 : decode cL_acts 760 = .ok (.if_icmp .ne 7, 3) := by decide +kernel
theorem dL_acts_763 : decode cL_acts 763 = .ok (.iconst 1, 1) := by decide +kernel
theorem dL_acts_764 : decode cL_acts 764 = .ok (.goto 4, 3) := by decide +kernel
theorem dL_acts_767 : decode cL_acts 767 = .ok (.iconst 0, 1) := by decide +kernel
theorem dL_acts_768 : decode cL_acts 768 = .ok (.ireturn, 1) := by decide +kernel
theorem dL_sound_0 : decode cL_sound 0 = .ok (.iconst 0, 1) := by decide +kernel
theorem dL_sound_1 : decode cL_sound 1 = .ok (.istore_n 2, 1) := by decide +kernel
theorem dL_sound_2 : decode cL_sound 2 = .ok (.iconst 0, 1) := by decide +kernel
theorem dL_sound_3 : decode cL_sound 3 = .ok (.istore_n 3, 1) := by decide +kernel
theorem dL_sound_4 : decode cL_sound 4 = .ok (.iconst 0, 1) := by decide +kernel
theorem dL_sound_5 : decode cL_sound 5 = .ok (.istore 4, 2) := by decide +kernel
theorem dL_sound_7 : decode cL_sound 7 = .ok (.iconst 0, 1) := by decide +kernel
theorem dL_sound_8 : decode cL_sound 8 = .ok (.istore 5, 2) := by decide +kernel
theorem dL_sound_10 : decode cL_sound 10 = .ok (.aload_n 0, 1) := by decide +kernel
theorem dL_sound_11 : decode cL_sound 11 = .ok (.iconst 0, 1) := by decide +kernel
theorem dL_sound_12 : decode cL_sound 12 = .ok (.invokevirtual 64, 3) := by decide +kernel
theorem dL_sound_15 : decode cL_sound 15 = .ok (.ifCond .lt 43, 3) := by decide +kernel
theorem dL_sound_18 : decode cL_sound 18 = .ok (.iload_n 1, 1) := by decide +kernel
theorem dL_sound_19 : decode cL_sound 19 = .ok (.aload_n 0, 1) := by decide +kernel
theorem dL_sound_20 : decode cL_sound 20 = .ok (.iconst 3, 1) := by decide +kernel
theorem dL_sound_21 : decode cL_sound 21 = .ok (.invokevirtual 64, 3) := by decide +kernel
theorem dL_sound_24 : decode cL_sound 24 = .ok (.iadd, 1) := by decide +kernel
theorem dL_sound_25 : decode cL_sound 25 = .ok (.aload_n 0, 1) := by decide +kernel
theorem dL_sound_26 : decode cL_sound 26 = .ok (.iconst 0, 1) := by decide +kernel
theorem dL_sound_27 : decode cL_sound 27 = .ok (.invokevirtual 64, 3) := by decide +kernel
theorem dL_sound_30 : decode cL_sound 30 = .ok (.aload_n 0, 1) := by decide +kernel
theorem dL_sound_31 : decode cL_sound 31 = .ok (.iconst 4, 1) := by decide +kernel
theorem dL_sound_32 : decode cL_sound 32 = .ok (.invokevirtual 64, 3) := by decide +kernel
theorem dL_sound_35 : decode cL_sound 35 = .ok (.iadd, 1) := by decide +kernel
theorem dL_sound_36 : decode cL_sound 36 = .ok (.aload_n 0, 1) := by decide +kernel
theorem dL_sound_37 : decode cL_sound 37 = .ok (.iconst 5, 1) := by decide +kernel
theorem dL_sound_38 : decode cL_sound 38 = .ok (.invokevirtual 64, 3) := by decide +kernel
theorem dL_sound_41 : decode cL_sound 41 = .ok (.iadd, 1) := by decide +kernel
theorem dL_sound_42 : decode cL_sound 42 = .ok (.if_icmp .ne 16, 3) := by decide +kernel
theorem dL_sound_45 : decode cL_sound 45 = .ok (.aload_n 0, 1) := by decide +kernel
theorem dL_sound_46 : decode cL_sound 46 = .ok (.bipush 9, 2) := by decide +kernel
theorem dL_sound_48 : decode cL_sound 48 = .ok (.invokevirtual 64, 3) := by decide +kernel
theorem dL_sound_51 : decode cL_sound 51 = .ok (.ifCond .lt 7, 3) := by decide +kernel
theorem dL_sound_54 : decode cL_sound 54 = .ok (.iconst 1, 1) := by decide +kernel
theorem dL_sound_55 : decode cL_sound 55 = .ok (.goto 4, 3) := by decide +kernel
theorem dL_sound_58 : decode cL_sound 58 = .ok (.iconst 0, 1) := by decide +kernel
theorem dL_sound_59 : decode cL_sound 59 = .ok (.istore 6, 2) := by decide +kernel
theorem dL_sound_61 : decode cL_sound 61 = .ok (.iconst 0, 1) := by decide +kernel
theorem dL_sound_62 : decode cL_sound 62 = .ok (.istore 7, 2) := by decide +kernel
theorem dL_sound_64 : decode cL_sound 64 = .ok (.iload 7, 2) := by decide +kernel
theorem dL_sound_66 : decode cL_sound 66 = .ok (.bipush 8, 2) := by decide +kernel
theorem dL_sound_68 : decode cL_sound 68 = .ok (.if_icmp .ge 299, 3) := by decide +kernel
theorem dL_sound_71 : decode cL_sound 71 = .ok (.iload 6, 2) := by decide +kernel
theorem dL_sound_73 : decode cL_sound 73 = .ok (.ifCond .eq 294, 3) := by decide +kernel
theorem dL_sound_76 : decode cL_sound 76 = .ok (.iload_n 2, 1) := by decide +kernel
theorem dL_sound_77 : decode cL_sound 77 = .ok (.aload_n 0, 1) := by decide +kernel
theorem dL_sound_78 : decode cL_sound 78 = .ok (.iload 7, 2) := by decide +kernel
theorem dL_sound_80 : decode cL_sound 80 = .ok (.iconst 4, 1) := by decide +kernel
theorem dL_sound_81 : decode cL_sound 81 = .ok (.invokevirtual 67, 3) := by decide +kernel
theorem dL_sound_84 : decode cL_sound 84 = .ok (.iadd, 1) := by decide +kernel
theorem dL_sound_85 : decode cL_sound 85 = .ok (.istore_n 2, 1) := by decide +kernel
theorem dL_sound_86 : decode cL_sound 86 = .ok (.aload_n 0, 1) := by decide +kernel
theorem dL_sound_87 : decode cL_sound 87 = .ok (.iload 7, 2) := by decide +kernel
theorem dL_sound_89 : decode cL_sound 89 = .ok (.iconst 0, 1) := by decide +kernel
theorem dL_sound_90 : decode cL_sound 90 = .ok (.invokevirtual 67, 3) := by decide +kernel
theorem dL_sound_93 : decode cL_sound 93 = .ok (.istore 8, 2) := by decide +kernel
theorem dL_sound_95 : decode cL_sound 95 = .ok (.iconst 0, 1) := by decide +kernel
theorem dL_sound_96 : decode cL_sound 96 = .ok (.istore 9, 2) := by decide +kernel
theorem dL_sound_98 : decode cL_sound 98 = .ok (.iload 9, 2) := by decide +kernel
theorem dL_sound_100 : decode cL_sound 100 = .ok (.bipush 24, 2) := by decide +kernel
theorem dL_sound_102 : decode cL_sound 102 = .ok (.if_icmp .ge 259, 3) := by decide +kernel
theorem dL_sound_105 : decode cL_sound 105 = .ok (.iload 6, 2) := by decide +kernel
theorem dL_sound_107 : decode cL_sound 107 = .ok (.ifCond .eq 254, 3) := by decide +kernel
theorem dL_sound_110 : decode cL_sound 110 = .ok (.aload_n 0, 1) := by decide +kernel
theorem dL_sound_111 : decode cL_sound 111 = .ok (.iload 7, 2) := by decide +kernel
theorem dL_sound_113 : decode cL_sound 113 = .ok (.iload 9, 2) := by decide +kernel
theorem dL_sound_115 : decode cL_sound 115 = .ok (.invokevirtual 70, 3) := by decide +kernel
theorem dL_sound_118 : decode cL_sound 118 = .ok (.istore 10, 2) := by decide +kernel
theorem dL_sound_120 : decode cL_sound 120 = .ok (.aload_n 0, 1) := by decide +kernel
theorem dL_sound_121 : decode cL_sound 121 = .ok (.iload 7, 2) := by decide +kernel
theorem dL_sound_123 : decode cL_sound 123 = .ok (.iload 9, 2) := by decide +kernel
theorem dL_sound_125 : decode cL_sound 125 = .ok (.iconst 3, 1) := by decide +kernel
theorem dL_sound_126 : decode cL_sound 126 = .ok (.invokevirtual 73, 3) := by decide +kernel
theorem dL_sound_129 : decode cL_sound 129 = .ok (.istore 11, 2) := by decide +kernel
theorem dL_sound_131 : decode cL_sound 131 = .ok (.iload_n 3, 1) := by decide +kernel
theorem dL_sound_132 : decode cL_sound 132 = .ok (.iload 10, 2) := by decide +kernel
theorem dL_sound_134 : decode cL_sound 134 = .ok (.iconst 1, 1) := by decide +kernel
theorem dL_sound_135 : decode cL_sound 135 = .ok (.if_icmp .eq 9, 3) := by decide +kernel
theorem dL_sound_138 : decode cL_sound 138 = .ok (.iload 10, 2) := by decide +kernel
theorem dL_sound_140 : decode cL_sound 140 = .ok (.iconst 2, 1) := by decide +kernel
theorem dL_sound_141 : decode cL_sound 141 = .ok (.if_icmp .ne 7, 3) := by decide +kernel
theorem dL_sound_144 : decode cL_sound 144 = .ok (.iconst 0, 1) := by decide +kernel
theorem dL_sound_145 : decode cL_sound 145 = .ok (.goto 4, 3) := by decide +kernel
theorem dL_sound_148 : decode cL_sound 148 = .ok (.iconst 1, 1) := by decide +kernel
theorem dL_sound_149 : decode cL_sound 149 = .ok (.iadd, 1) := by decide +kernel
theorem dL_sound_150 : decode cL_sound 150 = .ok (.istore_n 3, 1) := by decide +kernel
theorem dL_sound_151 : decode cL_sound 151 = .ok (.iload 4, 2) := by decide +kernel
theorem dL_sound_153 : decode cL_sound 153 = .ok (.iload 10, 2) := by decide +kernel
theorem dL_sound_155 : decode cL_sound 155 = .ok (.ifCond .ne 7, 3) := by decide +kernel
theorem dL_sound_158 : decode cL_sound 158 = .ok (.iconst 1, 1) := by decide +kernel
theorem dL_sound_159 : decode cL_sound 159 = .ok (.goto 4, 3) := by decide +kernel
theorem dL_sound_162 : decode cL_sound 162 = .ok (.iconst 0, 1) := by decide +kernel
theorem dL_sound_163 : decode cL_sound 163 = .ok (.iadd, 1) := by decide +kernel
theorem dL_sound_164 : decode cL_sound 164 = .ok (.istore 4, 2) := by decide +kernel
theorem dL_sound_166 : decode cL_sound 166 = .ok (.iload 5, 2) := by decide +kernel
theorem dL_sound_168 : decode cL_sound 168 = .ok (.iload 11, 2) := by decide +kernel
theorem dL_sound_170 : decode cL_sound 170 = .ok (.ifCond .le 8, 3) := by decide +kernel
theorem dL_sound_173 : decode cL_sound 173 = .ok (.iload 11, 2) := by decide +kernel
theorem dL_sound_175 : decode cL_sound 175 = .ok (.goto 4, 3) := by decide +kernel
theorem dL_sound_178 : decode cL_sound 178 = .ok (.iconst 0, 1) := by decide +kernel
theorem dL_sound_179 : decode cL_sound 179 = .ok (.iadd, 1) := by decide +kernel
theorem dL_sound_180 : decode cL_sound 180 = .ok (.istore 5, 2) := by decide +kernel
theorem dL_sound_182 : decode cL_sound 182 = .ok (.iload 10, 2) := by decide +kernel
theorem dL_sound_184 : decode cL_sound 184 = .ok (.ifCond .lt 88, 3) := by decide +kernel
theorem dL_sound_187 : decode cL_sound 187 = .ok (.iload 10, 2) := by decide +kernel
theorem dL_sound_189 : decode cL_sound 189 = .ok (.iconst 5, 1) := by decide +kernel
theorem dL_sound_190 : decode cL_sound 190 = .ok (.if_icmp .gt 82, 3) := by decide +kernel
theorem dL_sound_193 : decode cL_sound 193 = .ok (.iload 10, 2) := by decide +kernel
theorem dL_sound_195 : decode cL_sound 195 = .ok (.iconst 1, 1) := by decide +kernel
theorem dL_sound_196 : decode cL_sound 196 = .ok (.if_icmp .ne 7, 3) := by decide +kernel
theorem dL_sound_199 : decode cL_sound 199 = .ok (.iconst 1, 1) := by decide +kernel
theorem dL_sound_200 : decode cL_sound 200 = .ok (.goto 4, 3) := by decide +kernel
theorem dL_sound_203 : decode cL_sound 203 = .ok (.iconst 0, 1) := by decide +kernel
