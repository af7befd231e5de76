theorem dX3_init_0 : decode cX3_init 0 = .ok (.aload_n 0, 1) := by decide +kernel
theorem dX3_init_1 : decode cX3_init 1 = .ok (.invokespecial 1, 3) := by decide +kernel
theorem dX3_init_4 : decode cX3_init 4 = .ok (.aload_n 0, 1) := by decide +kernel
theorem dX3_init_5 : decode cX3_init 5 = .ok (.new 7, 3) := by decide +kernel
theorem dX3_init_8 : decode cX3_init 8 = .ok (.dup, 1) := by decide +kernel
theorem dX3_init_9 : decode cX3_init 9 = .ok (.invokespecial 9, 3) := by decide +kernel
theorem dX3_init_12 : decode cX3_init 12 = .ok (.putfield 10, 3) := by decide +kernel
theorem dX3_init_15 : decode cX3_init 15 = .ok (.aload_n 0, 1) := by decide +kernel
theorem dX3_init_16 : decode cX3_init 16 = .ok (.new 7, 3) := by decide +kernel
theorem dX3_init_19 : decode cX3_init 19 = .ok (.dup, 1) := by decide +kernel
theorem dX3_init_20 : decode cX3_init 20 = .ok (.invokespecial 9, 3) := by decide +kernel
theorem dX3_init_23 : decode cX3_init 23 = .ok (.putfield 16, 3) := by decide +kernel
theorem dX3_init_26 : decode cX3_init 26 = .ok (.aload_n 0, 1) := by decide +kernel
theorem dX3_init_27 : decode cX3_init 27 = .ok (.iconst 5, 1) := by decide +kernel
theorem dX3_init_28 : decode cX3_init 28 = .ok (.anewarray 7, 3) := by decide +kernel
theorem dX3_init_31 : decode cX3_init 31 = .ok (.putfield 19, 3) := by decide +kernel
theorem dX3_init_34 : decode cX3_init 34 = .ok (.aload_n 0, 1) := by decide +kernel
theorem dX3_init_35 : decode cX3_init 35 = .ok (.iconst 2, 1) := by decide +kernel
theorem dX3_init_36 : decode cX3_init 36 = .ok (.anewarray 7, 3) := by decide +kernel
theorem dX3_init_39 : decode cX3_init 39 = .ok (.putfield 23, 3) := by decide +kernel
theorem dX3_init_42 : decode cX3_init 42 = .ok (.aload_n 0, 1) := by decide +kernel
theorem dX3_init_43 : decode cX3_init 43 = .ok (.iconst 2, 1) := by decide +kernel
theorem dX3_init_44 : decode cX3_init 44 = .ok (.newarray .boolean, 2) := by decide +kernel
theorem dX3_init_46 : decode cX3_init 46 = .ok (.putfield 26, 3) := by decide +kernel
theorem dX3_init_49 : decode cX3_init 49 = .ok (.aload_n 0, 1) := by decide +kernel
theorem dX3_init_50 : decode cX3_init 50 = .ok (.new 30, 3) := by decide +kernel
theorem dX3_init_53 : decode cX3_init 53 = .ok (.dup, 1) := by decide +kernel
theorem dX3_init_54 : decode cX3_init 54 = .ok (.invokespecial 32, 3) := by decide +kernel
theorem dX3_init_57 : decode cX3_init 57 = .ok (.putfield 33, 3) := by decide +kernel
theorem dX3_init_60 : decode cX3_init 60 = .ok (.aload_n 0, 1) := by decide +kernel
theorem dX3_init_61 : decode cX3_init 61 = .ok (.new 37, 3) := by decide +kernel
theorem dX3_init_64 : decode cX3_init 64 = .ok (.dup, 1) := by decide +kernel
theorem dX3_init_65 : decode cX3_init 65 = .ok (.invokespecial 39, 3) := by decide +kernel
theorem dX3_init_68 : decode cX3_init 68 = .ok (.putfield 40, 3) := by decide +kernel
theorem dX3_init_71 : decode cX3_init 71 = .ok (.aload_n 0, 1) := by decide +kernel
theorem dX3_init_72 : decode cX3_init 72 = .ok (.new 37, 3) := by decide +kernel
theorem dX3_init_75 : decode cX3_init 75 = .ok (.dup, 1) := by decide +kernel
theorem dX3_init_76 : decode cX3_init 76 = .ok (.invokespecial 39, 3) := by decide +kernel
theorem dX3_init_79 : decode cX3_init 79 = .ok (.putfield 44, 3) := by decide +kernel
theorem dX3_init_82 : decode cX3_init 82 = .ok (.iconst 0, 1) := by decide +kernel
theorem dX3_init_83 : decode cX3_init 83 = .ok (.istore_n 1, 1) := by decide +kernel
theorem dX3_init_84 : decode cX3_init 84 = .ok (.iload_n 1, 1) := by decide +kernel
theorem dX3_init_85 : decode cX3_init 85 = .ok (.iconst 5, 1) := by decide +kernel
theorem dX3_init_86 : decode cX3_init 86 = .ok (.if_icmp .ge 22, 3) := by decide +kernel
theorem dX3_init_89 : decode cX3_init 89 = .ok (.aload_n 0, 1) := by decide +kernel
theorem dX3_init_90 : decode cX3_init 90 = .ok (.getfield 19, 3) := by decide +kernel
theorem dX3_init_93 : decode cX3_init 93 = .ok (.iload_n 1, 1) := by decide +kernel
theorem dX3_init_94 : decode cX3_init 94 = .ok (.new 7, 3) := by decide +kernel
theorem dX3_init_97 : decode cX3_init 97 = .ok (.dup, 1) := by decide +kernel
theorem dX3_init_98 : decode cX3_init 98 = .ok (.invokespecial 9, 3) := by decide +kernel
theorem dX3_init_101 : decode cX3_init 101 = .ok (.aastore, 1) := by decide +kernel
theorem dX3_init_102 : decode cX3_init 102 = .ok (.iinc 1 1, 3) := by decide +kernel
theorem dX3_init_105 : decode cX3_init 105 = .ok (.goto (-21), 3) := by decide +kernel
theorem dX3_init_108 : decode cX3_init 108 = .ok (.iconst 0, 1) := by decide +kernel
theorem dX3_init_109 : decode cX3_init 109 = .ok (.istore_n 1, 1) := by decide +kernel
theorem dX3_init_110 : decode cX3_init 110 = .ok (.iload_n 1, 1) := by decide +kernel
theorem dX3_init_111 : decode cX3_init 111 = .ok (.iconst 2, 1) := by decide +kernel
theorem dX3_init_112 : decode cX3_init 112 = .ok (.if_icmp .ge 22, 3) := by decide +kernel
theorem dX3_init_115 : decode cX3_init 115 = .ok (.aload_n 0, 1) := by decide +kernel
theorem dX3_init_116 : decode cX3_init 116 = .ok (.getfield 23, 3) := by decide +kernel
theorem dX3_init_119 : decode cX3_init 119 = .ok (.iload_n 1, 1) := by decide +kernel
theorem dX3_init_120 : decode cX3_init 120 = .ok (.new 7, 3) := by decide +kernel
theorem dX3_init_123 : decode cX3_init 123 = .ok (.dup, 1) := by decide +kernel
theorem dX3_init_124 : decode cX3_init 124 = .ok (.invokespecial 9, 3) := by decide +kernel
theorem dX3_init_127 : decode cX3_init 127 = .ok (.aastore, 1) := by decide +kernel
theorem dX3_init_128 : decode cX3_init 128 = .ok (.iinc 1 1, 3) := by decide +kernel
theorem dX3_init_131 : decode cX3_init 131 = .ok (.goto (-21), 3) := by decide +kernel
theorem dX3_init_134 : decode cX3_init 134 = .ok (.return_, 1) := by decide +kernel
theorem dX3_layOut_0 : decode cX3_layOut 0 = .ok (.iload_n 1, 1) := by decide +kernel
theorem dX3_layOut_1 : decode cX3_layOut 1 = .ok (.invokestatic 47, 3) := by decide +kernel
theorem dX3_layOut_4 : decode cX3_layOut 4 = .ok (.ifCond .ne 6, 3) := by decide +kernel
theorem dX3_layOut_7 : decode cX3_layOut 7 = .ok (.ldc 51, 2) := by decide +kernel
theorem dX3_layOut_9 : decode cX3_layOut 9 = .ok (.ireturn, 1) := by decide +kernel
theorem dX3_layOut_10 : decode cX3_layOut 10 = .ok (.iload_n 2, 1) := by decide +kernel
theorem dX3_layOut_11 : decode cX3_layOut 11 = .ok (.invokestatic 52, 3) := by decide +kernel
theorem dX3_layOut_14 : decode cX3_layOut 14 = .ok (.ifCond .eq 25, 3) := by decide +kernel
theorem dX3_layOut_17 : decode cX3_layOut 17 = .ok (.iload_n 3, 1) := by decide +kernel
theorem dX3_layOut_18 : decode cX3_layOut 18 = .ok (.iconst 1, 1) := by decide +kernel
theorem dX3_layOut_19 : decode cX3_layOut 19 = .ok (.bipush 40, 2) := by decide +kernel
theorem dX3_layOut_21 : decode cX3_layOut 21 = .ok (.invokestatic 55, 3) := by decide +kernel
theorem dX3_layOut_24 : decode cX3_layOut 24 = .ok (.ifCond .eq 15, 3) := by decide +kernel
theorem dX3_layOut_27 : decode cX3_layOut 27 = .ok (.iload 4, 2) := by decide +kernel
theorem dX3_layOut_29 : decode cX3_layOut 29 = .ok (.iconst 0, 1) := by decide +kernel
theorem dX3_layOut_30 : decode cX3_layOut 30 = .ok (.sipush 200, 3) := by decide +kernel
theorem dX3_layOut_33 : decode cX3_layOut 33 = .ok (.invokestatic 55, 3) := by decide +kernel
theorem dX3_layOut_36 : decode cX3_layOut 36 = .ok (.ifCond .ne 6, 3) := by decide +kernel
theorem dX3_layOut_39 : decode cX3_layOut 39 = .ok (.ldc 59, 2) := by decide +kernel
theorem dX3_layOut_41 : decode cX3_layOut 41 = .ok (.ireturn, 1) := by decide +kernel
theorem dX3_layOut_42 : decode cX3_layOut 42 = .ok (.aload_n 0, 1) := by decide +kernel
theorem dX3_layOut_43 : decode cX3_layOut 43 = .ok (.invokevirtual 60, 3) := by decide +kernel
theorem dX3_layOut_46 : decode cX3_layOut 46 = .ok (.aload_n 0, 1) := by decide +kernel
theorem dX3_layOut_47 : decode cX3_layOut 47 = .ok (.getfield 10, 3) := by decide +kernel
theorem dX3_layOut_50 : decode cX3_layOut 50 = .ok (.getfield 63, 3) := by decide +kernel
theorem dX3_layOut_53 : decode cX3_layOut 53 = .ok (.iload_n 1, 1) := by decide +kernel
theorem dX3_layOut_54 : decode cX3_layOut 54 = .ok (.iaload, 1) := by decide +kernel
theorem dX3_layOut_55 : decode cX3_layOut 55 = .ok (.istore 5, 2) := by decide +kernel
theorem dX3_layOut_57 : decode cX3_layOut 57 = .ok (.aload_n 0, 1) := by decide +kernel
theorem dX3_layOut_58 : decode cX3_layOut 58 = .ok (.getfield 10, 3) := by decide +kernel
theorem dX3_layOut_61 : decode cX3_layOut 61 = .ok (.getfield 67, 3) := by decide +kernel
theorem dX3_layOut_64 : decode cX3_layOut 64 = .ok (.iload_n 1, 1) := by decide +kernel
theorem dX3_layOut_65 : decode cX3_layOut 65 = .ok (.iload_n 2, 1) := by decide +kernel
theorem dX3_layOut_66 : decode cX3_layOut 66 = .ok (.iastore, 1) := by decide +kernel
theorem dX3_layOut_67 : decode cX3_layOut 67 = .ok (.aload_n 0, 1) := by decide +kernel
theorem dX3_layOut_68 : decode cX3_layOut 68 = .ok (.getfield 10, 3) := by decide +kernel
theorem dX3_layOut_71 : decode cX3_layOut 71 = .ok (.getfield 63, 3) := by decide +kernel
theorem dX3_layOut_74 : decode cX3_layOut 74 = .ok (.iload_n 1, 1) := by decide +kernel
theorem dX3_layOut_75 : decode cX3_layOut 75 = .ok (.iload_n 3, 1) := by decide +kernel
theorem dX3_layOut_76 : decode cX3_layOut 76 = .ok (.iastore, 1) := by decide +kernel
theorem dX3_layOut_77 : decode cX3_layOut 77 = .ok (.aload_n 0, 1) := by decide +kernel
theorem dX3_layOut_78 : decode cX3_layOut 78 = .ok (.getfield 10, 3) := by decide +kernel
theorem dX3_layOut_81 : decode cX3_layOut 81 = .ok (.getfield 70, 3) := by decide +kernel
theorem dX3_layOut_84 : decode cX3_layOut 84 = .ok (.iload_n 1, 1) := by decide +kernel
theorem dX3_layOut_85 : decode cX3_layOut 85 = .ok (.iload 4, 2) := by decide +kernel
theorem dX3_layOut_87 : decode cX3_layOut 87 = .ok (.iastore, 1) := by decide +kernel
theorem dX3_layOut_88 : decode cX3_layOut 88 = .ok (.iconst 0, 1) := by decide +kernel
theorem dX3_layOut_89 : decode cX3_layOut 89 = .ok (.istore 6, 2) := by decide +kernel
theorem dX3_layOut_91 : decode cX3_layOut 91 = .ok (.iload 6, 2) := by decide +kernel
theorem dX3_layOut_93 : decode cX3_layOut 93 = .ok (.bipush 24, 2) := by decide +kernel
theorem dX3_layOut_95 : decode cX3_layOut 95 = .ok (.if_icmp .ge 24, 3) := by decide +kernel
theorem dX3_layOut_98 : decode cX3_layOut 98 = .ok (.aload_n 0, 1) := by decide +kernel
theorem dX3_layOut_99 : decode cX3_layOut 99 = .ok (.getfield 10, 3) := by decide +kernel
theorem dX3_layOut_102 : decode cX3_layOut 102 = .ok (.getfield 73, 3) := by decide +kernel
theorem dX3_layOut_105 : decode cX3_layOut 105 = .ok (.iload_n 1, 1) := by decide +kernel
theorem dX3_layOut_106 : decode cX3_layOut 106 = .ok (.iload 6, 2) := by decide +kernel
theorem dX3_layOut_108 : decode cX3_layOut 108 = .ok (.invokestatic 76, 3) := by decide +kernel
theorem dX3_layOut_111 : decode cX3_layOut 111 = .ok (.iconst 0, 1) := by decide +kernel
theorem dX3_layOut_112 : decode cX3_layOut 112 = .ok (.iastore, 1) := by decide +kernel
theorem dX3_layOut_113 : decode cX3_layOut 113 = .ok (.iinc 6 1, 3) := by decide +kernel
theorem dX3_layOut_116 : decode cX3_layOut 116 = .ok (.goto (-25), 3) := by decide +kernel
theorem dX3_layOut_119 : decode cX3_layOut 119 = .ok (.iload 5, 2) := by decide +kernel
theorem dX3_layOut_121 : decode cX3_layOut 121 = .ok (.ireturn, 1) := by decide +kernel
theorem dX3_stop_0 : decode cX3_stop 0 = .ok (.iload_n 1, 1) := by decide +kernel
theorem dX3_stop_1 : decode cX3_stop 1 = .ok (.invokestatic 47, 3) := by decide +kernel
theorem dX3_stop_4 : decode cX3_stop 4 = .ok (.ifCond .ne 6, 3) := by decide +kernel
theorem dX3_stop_7 : decode cX3_stop 7 = .ok (.ldc 51, 2) := by decide +kernel
theorem dX3_stop_9 : decode cX3_stop 9 = .ok (.ireturn, 1) := by decide +kernel
theorem dX3_stop_10 : decode cX3_stop 10 = .ok (.iload_n 2, 1) := by decide +kernel
theorem dX3_stop_11 : decode cX3_stop 11 = .ok (.tableswitch 93 0 4 #[33, 43, 53, 63, 83], 33) := by decide +kernel
theorem dX3_stop_44 : decode cX3_stop 44 = .ok (.aload_n 0, 1) := by decide +kernel
theorem dX3_stop_45 : decode cX3_stop 45 = .ok (.getfield 10, 3) := by decide +kernel
theorem dX3_stop_48 : decode cX3_stop 48 = .ok (.getfield 67, 3) := by decide +kernel
theorem dX3_stop_51 : decode cX3_stop 51 = .ok (.iload_n 1, 1) := by decide +kernel
theorem dX3_stop_52 : decode cX3_stop 52 = .ok (.iaload, 1) := by decide +kernel
theorem dX3_stop_53 : decode cX3_stop 53 = .ok (.ireturn, 1) := by decide +kernel
theorem dX3_stop_54 : decode cX3_stop 54 = .ok (.aload_n 0, 1) := by decide +kernel
theorem dX3_stop_55 : decode cX3_stop 55 = .ok (.getfield 10, 3) := by decide +kernel
theorem dX3_stop_58 : decode cX3_stop 58 = .ok (.getfield 63, 3) := by decide +kernel
theorem dX3_stop_61 : decode cX3_stop 61 = .ok (.iload_n 1, 1) := by decide +kernel
theorem dX3_stop_62 : decode cX3_stop 62 = .ok (.iaload, 1) := by decide +kernel
theorem dX3_stop_63 : decode cX3_stop 63 = .ok (.ireturn, 1) := by decide +kernel
theorem dX3_stop_64 : decode cX3_stop 64 = .ok (.aload_n 0, 1) := by decide +kernel
theorem dX3_stop_65 : decode cX3_stop 65 = .ok (.getfield 10, 3) := by decide +kernel
theorem dX3_stop_68 : decode cX3_stop 68 = .ok (.getfield 70, 3) := by decide +kernel
theorem dX3_stop_71 : decode cX3_stop 71 = .ok (.iload_n 1, 1) := by decide +kernel
theorem dX3_stop_72 : decode cX3_stop 72 = .ok (.iaload, 1) := by decide +kernel
theorem dX3_stop_73 : decode cX3_stop 73 = .ok (.ireturn, 1) := by decide +kernel
theorem dX3_stop_74 : decode cX3_stop 74 = .ok (.aload_n 0, 1) := by decide +kernel
theorem dX3_stop_75 : decode cX3_stop 75 = .ok (.getfield 10, 3) := by decide +kernel
theorem dX3_stop_78 : decode cX3_stop 78 = .ok (.getfield 80, 3) := by decide +kernel
theorem dX3_stop_81 : decode cX3_stop 81 = .ok (.iload_n 1, 1) := by decide +kernel
theorem dX3_stop_82 : decode cX3_stop 82 = .ok (.invokestatic 84, 3) := by decide +kernel
theorem dX3_stop_85 : decode cX3_stop 85 = .ok (.ifCond .eq 7, 3) := by decide +kernel
theorem dX3_stop_88 : decode cX3_stop 88 = .ok (.iconst 1, 1) := by decide +kernel
theorem dX3_stop_89 : decode cX3_stop 89 = .ok (.goto 4, 3) := by decide +kernel
theorem dX3_stop_92 : decode cX3_stop 92 = .ok (.iconst 0, 1) := by decide +kernel
theorem dX3_stop_93 : decode cX3_stop 93 = .ok (.ireturn, 1) := by decide +kernel
theorem dX3_stop_94 : decode cX3_stop 94 = .ok (.aload_n 0, 1) := by decide +kernel
theorem dX3_stop_95 : decode cX3_stop 95 = .ok (.getfield 10, 3) := by decide +kernel
theorem dX3_stop_98 : decode cX3_stop 98 = .ok (.getfield 88, 3) := by decide +kernel
theorem dX3_stop_101 : decode cX3_stop 101 = .ok (.iload_n 1, 1) := by decide +kernel
theorem dX3_stop_102 : decode cX3_stop 102 = .ok (.iaload, 1) := by decide +kernel
theorem dX3_stop_103 : decode cX3_stop 103 = .ok (.ireturn, 1) := by decide +kernel
theorem dX3_stop_104 : decode cX3_stop 104 = .ok (.ldc 59, 2) := by decide +kernel
theorem dX3_stop_106 : decode cX3_stop 106 = .ok (.ireturn, 1) := by decide +kernel
theorem dX3_set_0 : decode cX3_set 0 = .ok (.iload_n 1, 1) := by decide +kernel
theorem dX3_set_1 : decode cX3_set 1 = .ok (.iconst 0, 1) := by decide +kernel
theorem dX3_set_2 : decode cX3_set 2 = .ok (.bipush 8, 2) := by decide +kernel
theorem dX3_set_4 : decode cX3_set 4 = .ok (.invokestatic 55, 3) := by decide +kernel
theorem dX3_set_7 : decode cX3_set 7 = .ok (.ifCond .ne 6, 3) := by decide +kernel
theorem dX3_set_10 : decode cX3_set 10 = .ok (.ldc 51, 2) := by decide +kernel
theorem dX3_set_12 : decode cX3_set 12 = .ok (.ireturn, 1) := by decide +kernel
theorem dX3_set_13 : decode cX3_set 13 = .ok (.iload_n 2, 1) := by decide +kernel
theorem dX3_set_14 : decode cX3_set 14 = .ok (.getstatic 91, 3) := by decide +kernel
theorem dX3_set_17 : decode cX3_set 17 = .ok (.iload_n 1, 1) := by decide +kernel
theorem dX3_set_18 : decode cX3_set 18 = .ok (.iaload, 1) := by decide +kernel
theorem dX3_set_19 : decode cX3_set 19 = .ok (.getstatic 94, 3) := by decide +kernel
theorem dX3_set_22 : decode cX3_set 22 = .ok (.iload_n 1, 1) := by decide +kernel
theorem dX3_set_23 : decode cX3_set 23 = .ok (.iaload, 1) := by decide +kernel
theorem dX3_set_24 : decode cX3_set 24 = .ok (.invokestatic 55, 3) := by decide +kernel
theorem dX3_set_27 : decode cX3_set 27 = .ok (.ifCond .ne 6, 3) := by decide +kernel
theorem dX3_set_30 : decode cX3_set 30 = .ok (.ldc 59, 2) := by decide +kernel
theorem dX3_set_32 : decode cX3_set 32 = .ok (.ireturn, 1) := by decide +kernel
theorem dX3_set_33 : decode cX3_set 33 = .ok (.aload_n 0, 1) := by decide +kernel
theorem dX3_set_34 : decode cX3_set 34 = .ok (.invokevirtual 60, 3) := by decide +kernel
theorem dX3_set_37 : decode cX3_set 37 = .ok (.aload_n 0, 1) := by decide +kernel
theorem dX3_set_38 : decode cX3_set 38 = .ok (.getfield 10, 3) := by decide +kernel
theorem dX3_set_41 : decode cX3_set 41 = .ok (.getfield 97, 3) := by decide +kernel
theorem dX3_set_44 : decode cX3_set 44 = .ok (.iload_n 1, 1) := by decide +kernel
theorem dX3_set_45 : decode cX3_set 45 = .ok (.iaload, 1) := by decide +kernel
theorem dX3_set_46 : decode cX3_set 46 = .ok (.istore_n 3, 1) := by decide +kernel
theorem dX3_set_47 : decode cX3_set 47 = .ok (.aload_n 0, 1) := by decide +kernel
theorem dX3_set_48 : decode cX3_set 48 = .ok (.getfield 10, 3) := by decide +kernel
theorem dX3_set_51 : decode cX3_set 51 = .ok (.getfield 97, 3) := by decide +kernel
theorem dX3_set_54 : decode cX3_set 54 = .ok (.iload_n 1, 1) := by decide +kernel
theorem dX3_set_55 : decode cX3_set 55 = .ok (.iload_n 2, 1) := by decide +kernel
theorem dX3_set_56 : decode cX3_set 56 = .ok (.iastore, 1) := by decide +kernel
theorem dX3_set_57 : decode cX3_set 57 = .ok (.iload_n 3, 1) := by decide +kernel
theorem dX3_set_58 : decode cX3_set 58 = .ok (.ireturn, 1) := by decide +kernel
theorem dX3_cipher_0 : decode cX3_cipher 0 = .ok (.iload_n 1, 1) := by decide +kernel
theorem dX3_cipher_1 : decode cX3_cipher 1 = .ok (.invokestatic 47, 3) := by decide +kernel
theorem dX3_cipher_4 : decode cX3_cipher 4 = .ok (.ifCond .eq 10, 3) := by decide +kernel
theorem dX3_cipher_7 : decode cX3_cipher 7 = .ok (.iload_n 2, 1) := by decide +kernel
theorem dX3_cipher_8 : decode cX3_cipher 8 = .ok (.invokestatic 100, 3) := by decide +kernel
theorem dX3_cipher_11 : decode cX3_cipher 11 = .ok (.ifCond .ne 6, 3) := by decide +kernel
theorem dX3_cipher_14 : decode cX3_cipher 14 = .ok (.ldc 51, 2) := by decide +kernel
theorem dX3_cipher_16 : decode cX3_cipher 16 = .ok (.ireturn, 1) := by decide +kernel
theorem dX3_cipher_17 : decode cX3_cipher 17 = .ok (.iload_n 3, 1) := by decide +kernel
theorem dX3_cipher_18 : decode cX3_cipher 18 = .ok (.ifCond .eq 23, 3) := by decide +kernel
theorem dX3_cipher_21 : decode cX3_cipher 21 = .ok (.aload_n 0, 1) := by decide +kernel
theorem dX3_cipher_22 : decode cX3_cipher 22 = .ok (.getfield 10, 3) := by decide +kernel
theorem dX3_cipher_25 : decode cX3_cipher 25 = .ok (.getfield 103, 3) := by decide +kernel
theorem dX3_cipher_28 : decode cX3_cipher 28 = .ok (.iload_n 1, 1) := by decide +kernel
theorem dX3_cipher_29 : decode cX3_cipher 29 = .ok (.iaload, 1) := by decide +kernel
theorem dX3_cipher_30 : decode cX3_cipher 30 = .ok (.iload_n 2, 1) := by decide +kernel
theorem dX3_cipher_31 : decode cX3_cipher 31 = .ok (.invokestatic 84, 3) := by decide +kernel
theorem dX3_cipher_34 : decode cX3_cipher 34 = .ok (.ifCond .ne 7, 3) := by decide +kernel
theorem dX3_cipher_37 : decode cX3_cipher 37 = .ok (.iconst 1, 1) := by decide +kernel
theorem dX3_cipher_38 : decode cX3_cipher 38 = .ok (.goto 4, 3) := by decide +kernel
theorem dX3_cipher_41 : decode cX3_cipher 41 = .ok (.iconst 0, 1) := by decide +kernel
theorem dX3_cipher_42 : decode cX3_cipher 42 = .ok (.istore 4, 2) := by decide +kernel
theorem dX3_cipher_44 : decode cX3_cipher 44 = .ok (.iload 4, 2) := by decide +kernel
theorem dX3_cipher_46 : decode cX3_cipher 46 = .ok (.ifCond .eq 21, 3) := by decide +kernel
theorem dX3_cipher_49 : decode cX3_cipher 49 = .ok (.aload_n 0, 1) := by decide +kernel
theorem dX3_cipher_50 : decode cX3_cipher 50 = .ok (.getfield 10, 3) := by decide +kernel
theorem dX3_cipher_53 : decode cX3_cipher 53 = .ok (.getfield 103, 3) := by decide +kernel
theorem dX3_cipher_56 : decode cX3_cipher 56 = .ok (.invokestatic 106, 3) := by decide +kernel
theorem dX3_cipher_59 : decode cX3_cipher 59 = .ok (.bipush 6, 2) := by decide +kernel
theorem dX3_cipher_61 : decode cX3_cipher 61 = .ok (.if_icmp .lt 6, 3) := by decide +kernel
theorem dX3_cipher_64 : decode cX3_cipher 64 = .ok (.ldc 110, 2) := by decide +kernel
theorem dX3_cipher_66 : decode cX3_cipher 66 = .ok (.ireturn, 1) := by decide +kernel
theorem dX3_cipher_67 : decode cX3_cipher 67 = .ok (.aload_n 0, 1) := by decide +kernel
theorem dX3_cipher_68 : decode cX3_cipher 68 = .ok (.invokevirtual 60, 3) := by decide +kernel
theorem dX3_cipher_71 : decode cX3_cipher 71 = .ok (.aload_n 0, 1) := by decide +kernel
theorem dX3_cipher_72 : decode cX3_cipher 72 = .ok (.getfield 10, 3) := by decide +kernel
theorem dX3_cipher_75 : decode cX3_cipher 75 = .ok (.getfield 103, 3) := by decide +kernel
theorem dX3_cipher_78 : decode cX3_cipher 78 = .ok (.iload_n 1, 1) := by decide +kernel
theorem dX3_cipher_79 : decode cX3_cipher 79 = .ok (.aload_n 0, 1) := by decide +kernel
theorem dX3_cipher_80 : decode cX3_cipher 80 = .ok (.getfield 10, 3) := by decide +kernel
theorem dX3_cipher_83 : decode cX3_cipher 83 = .ok (.getfield 103, 3) := by decide +kernel
theorem dX3_cipher_86 : decode cX3_cipher 86 = .ok (.iload_n 1, 1) := by decide +kernel
theorem dX3_cipher_87 : decode cX3_cipher 87 = .ok (.iaload, 1) := by decide +kernel
theorem dX3_cipher_88 : decode cX3_cipher 88 = .ok (.iload_n 2, 1) := by decide +kernel
theorem dX3_cipher_89 : decode cX3_cipher 89 = .ok (.iload_n 3, 1) := by decide +kernel
theorem dX3_cipher_90 : decode cX3_cipher 90 = .ok (.invokestatic 111, 3) := by decide +kernel
theorem dX3_cipher_93 : decode cX3_cipher 93 = .ok (.iastore, 1) := by decide +kernel
theorem dX3_cipher_94 : decode cX3_cipher 94 = .ok (.aload_n 0, 1) := by decide +kernel
theorem dX3_cipher_95 : decode cX3_cipher 95 = .ok (.getfield 10, 3) := by decide +kernel
theorem dX3_cipher_98 : decode cX3_cipher 98 = .ok (.getfield 103, 3) := by decide +kernel
theorem dX3_cipher_101 : decode cX3_cipher 101 = .ok (.invokestatic 106, 3) := by decide +kernel
theorem dX3_cipher_104 : decode cX3_cipher 104 = .ok (.ireturn, 1) := by decide +kernel
theorem dX3_draw_0 : decode cX3_draw 0 = .ok (.iload_n 1, 1) := by decide +kernel
theorem dX3_draw_1 : decode cX3_draw 1 = .ok (.invokestatic 47, 3) := by decide +kernel
theorem dX3_draw_4 : decode cX3_draw 4 = .ok (.ifCond .ne 6, 3) := by decide +kernel
theorem dX3_draw_7 : decode cX3_draw 7 = .ok (.ldc 51, 2) := by decide +kernel
theorem dX3_draw_9 : decode cX3_draw 9 = .ok (.ireturn, 1) := by decide +kernel
theorem dX3_draw_10 : decode cX3_draw 10 = .ok (.aload_n 0, 1) := by decide +kernel
theorem dX3_draw_11 : decode cX3_draw 11 = .ok (.invokevirtual 60, 3) := by decide +kernel
theorem dX3_draw_14 : decode cX3_draw 14 = .ok (.aload_n 0, 1) := by decide +kernel
theorem dX3_draw_15 : decode cX3_draw 15 = .ok (.getfield 10, 3) := by decide +kernel
theorem dX3_draw_18 : decode cX3_draw 18 = .ok (.aload_n 0, 1) := by decide +kernel
theorem dX3_draw_19 : decode cX3_draw 19 = .ok (.getfield 10, 3) := by decide +kernel
theorem dX3_draw_22 : decode cX3_draw 22 = .ok (.getfield 80, 3) := by decide +kernel
theorem dX3_draw_25 : decode cX3_draw 25 = .ok (.iload_n 1, 1) := by decide +kernel
theorem dX3_draw_26 : decode cX3_draw 26 = .ok (.iload_n 2, 1) := by decide +kernel
theorem dX3_draw_27 : decode cX3_draw 27 = .ok (.invokestatic 111, 3) := by decide +kernel
theorem dX3_draw_30 : decode cX3_draw 30 = .ok (.putfield 80, 3) := by decide +kernel
theorem dX3_draw_33 : decode cX3_draw 33 = .ok (.aload_n 0, 1) := by decide +kernel
theorem dX3_draw_34 : decode cX3_draw 34 = .ok (.getfield 10, 3) := by decide +kernel
theorem dX3_draw_37 : decode cX3_draw 37 = .ok (.getfield 80, 3) := by decide +kernel
theorem dX3_draw_40 : decode cX3_draw 40 = .ok (.invokestatic 115, 3) := by decide +kernel
theorem dX3_draw_43 : decode cX3_draw 43 = .ok (.ireturn, 1) := by decide +kernel
theorem dX3_press_0 : decode cX3_press 0 = .ok (.iload_n 1, 1) := by decide +kernel
theorem dX3_press_1 : decode cX3_press 1 = .ok (.invokestatic 52, 3) := by decide +kernel
theorem dX3_press_4 : decode cX3_press 4 = .ok (.ifCond .eq 10, 3) := by decide +kernel
theorem dX3_press_7 : decode cX3_press 7 = .ok (.iload_n 2, 1) := by decide +kernel
theorem dX3_press_8 : decode cX3_press 8 = .ok (.invokestatic 100, 3) := by decide +kernel
theorem dX3_press_11 : decode cX3_press 11 = .ok (.ifCond .ne 6, 3) := by decide +kernel
theorem dX3_press_14 : decode cX3_press 14 = .ok (.ldc 51, 2) := by decide +kernel
theorem dX3_press_16 : decode cX3_press 16 = .ok (.ireturn, 1) := by decide +kernel
theorem dX3_press_17 : decode cX3_press 17 = .ok (.aload_n 0, 1) := by decide +kernel
theorem dX3_press_18 : decode cX3_press 18 = .ok (.invokevirtual 60, 3) := by decide +kernel
theorem dX3_press_21 : decode cX3_press 21 = .ok (.aload_n 0, 1) := by decide +kernel
theorem dX3_press_22 : decode cX3_press 22 = .ok (.getfield 10, 3) := by decide +kernel
theorem dX3_press_25 : decode cX3_press 25 = .ok (.getfield 121, 3) := by decide +kernel
theorem dX3_press_28 : decode cX3_press 28 = .ok (.iload_n 1, 1) := by decide +kernel
theorem dX3_press_29 : decode cX3_press 29 = .ok (.aload_n 0, 1) := by decide +kernel
theorem dX3_press_30 : decode cX3_press 30 = .ok (.getfield 10, 3) := by decide +kernel
theorem dX3_press_33 : decode cX3_press 33 = .ok (.getfield 121, 3) := by decide +kernel
theorem dX3_press_36 : decode cX3_press 36 = .ok (.iload_n 1, 1) := by decide +kernel
theorem dX3_press_37 : decode cX3_press 37 = .ok (.iaload, 1) := by decide +kernel
theorem dX3_press_38 : decode cX3_press 38 = .ok (.iload_n 2, 1) := by decide +kernel
theorem dX3_press_39 : decode cX3_press 39 = .ok (.iload_n 3, 1) := by decide +kernel
theorem dX3_press_40 : decode cX3_press 40 = .ok (.invokestatic 111, 3) := by decide +kernel
theorem dX3_press_43 : decode cX3_press 43 = .ok (.iastore, 1) := by decide +kernel
theorem dX3_press_44 : decode cX3_press 44 = .ok (.aload_n 0, 1) := by decide +kernel
theorem dX3_press_45 : decode cX3_press 45 = .ok (.getfield 10, 3) := by decide +kernel
theorem dX3_press_48 : decode cX3_press 48 = .ok (.getfield 121, 3) := by decide +kernel
theorem dX3_press_51 : decode cX3_press 51 = .ok (.iload_n 1, 1) := by decide +kernel
theorem dX3_press_52 : decode cX3_press 52 = .ok (.iaload, 1) := by decide +kernel
theorem dX3_press_53 : decode cX3_press 53 = .ok (.invokestatic 115, 3) := by decide +kernel
theorem dX3_press_56 : decode cX3_press 56 = .ok (.ireturn, 1) := by decide +kernel
theorem dX3_couple_0 : decode cX3_couple 0 = .ok (.aload_n 0, 1) := by decide +kernel
theorem dX3_couple_1 : decode cX3_couple 1 = .ok (.invokevirtual 60, 3) := by decide +kernel
theorem dX3_couple_4 : decode cX3_couple 4 = .ok (.aload_n 0, 1) := by decide +kernel
theorem dX3_couple_5 : decode cX3_couple 5 = .ok (.getfield 10, 3) := by decide +kernel
theorem dX3_couple_8 : decode cX3_couple 8 = .ok (.getfield 124, 3) := by decide +kernel
theorem dX3_couple_11 : decode cX3_couple 11 = .ok (.ifCond .eq 7, 3) := by decide +kernel
theorem dX3_couple_14 : decode cX3_couple 14 = .ok (.iconst 1, 1) := by decide +kernel
theorem dX3_couple_15 : decode cX3_couple 15 = .ok (.goto 4, 3) := by decide +kernel
theorem dX3_couple_18 : decode cX3_couple 18 = .ok (.iconst 0, 1) := by decide +kernel
theorem dX3_couple_19 : decode cX3_couple 19 = .ok (.aload_n 0, 1) := by decide +kernel
theorem dX3_couple_20 : decode cX3_couple 20 = .ok (.getfield 10, 3) := by decide +kernel
theorem dX3_couple_23 : decode cX3_couple 23 = .ok (.getfield 128, 3) := by decide +kernel
theorem dX3_couple_26 : decode cX3_couple 26 = .ok (.ifCond .eq 7, 3) := by decide +kernel
theorem dX3_couple_29 : decode cX3_couple 29 = .ok (.iconst 2, 1) := by decide +kernel
theorem dX3_couple_30 : decode cX3_couple 30 = .ok (.goto 4, 3) := by decide +kernel
theorem dX3_couple_33 : decode cX3_couple 33 = .ok (.iconst 0, 1) := by decide +kernel
theorem dX3_couple_34 : decode cX3_couple 34 = .ok (.iadd, 1) := by decide +kernel
theorem dX3_couple_35 : decode cX3_couple 35 = .ok (.istore_n 3, 1) := by decide +kernel
theorem dX3_couple_36 : decode cX3_couple 36 = .ok (.aload_n 0, 1) := by decide +kernel
theorem dX3_couple_37 : decode cX3_couple 37 = .ok (.getfield 10, 3) := by decide +kernel
theorem dX3_couple_40 : decode cX3_couple 40 = .ok (.iload_n 1, 1) := by decide +kernel
theorem dX3_couple_41 : decode cX3_couple 41 = .ok (.putfield 124, 3) := by decide +kernel
theorem dX3_couple_44 : decode cX3_couple 44 = .ok (.aload_n 0, 1) := by decide +kernel
theorem dX3_couple_45 : decode cX3_couple 45 = .ok (.getfield 10, 3) := by decide +kernel
theorem dX3_couple_48 : decode cX3_couple 48 = .ok (.iload_n 2, 1) := by decide +kernel
theorem dX3_couple_49 : decode cX3_couple 49 = .ok (.putfield 128, 3) := by decide +kernel
theorem dX3_couple_52 : decode cX3_couple 52 = .ok (.iload_n 3, 1) := by decide +kernel
theorem dX3_couple_53 : decode cX3_couple 53 = .ok (.ireturn, 1) := by decide +kernel
theorem dX3_tick_0 : decode cX3_tick 0 = .ok (.iload_n 1, 1) := by decide +kernel
theorem dX3_tick_1 : decode cX3_tick 1 = .ok (.iconst 1, 1) := by decide +kernel
theorem dX3_tick_2 : decode cX3_tick 2 = .ok (.sipush 200, 3) := by decide +kernel
theorem dX3_tick_5 : decode cX3_tick 5 = .ok (.invokestatic 55, 3) := by decide +kernel
theorem dX3_tick_8 : decode cX3_tick 8 = .ok (.ifCond .ne 6, 3) := by decide +kernel
theorem dX3_tick_11 : decode cX3_tick 11 = .ok (.ldc 59, 2) := by decide +kernel
theorem dX3_tick_13 : decode cX3_tick 13 = .ok (.ireturn, 1) := by decide +kernel
theorem dX3_tick_14 : decode cX3_tick 14 = .ok (.aload_n 0, 1) := by decide +kernel
theorem dX3_tick_15 : decode cX3_tick 15 = .ok (.invokevirtual 60, 3) := by decide +kernel
theorem dX3_tick_18 : decode cX3_tick 18 = .ok (.aload_n 0, 1) := by decide +kernel
theorem dX3_tick_19 : decode cX3_tick 19 = .ok (.aload_n 0, 1) := by decide +kernel
theorem dX3_tick_20 : decode cX3_tick 20 = .ok (.getfield 10, 3) := by decide +kernel
theorem dX3_tick_23 : decode cX3_tick 23 = .ok (.iload_n 1, 1) := by decide +kernel
theorem dX3_tick_24 : decode cX3_tick 24 = .ok (.invokevirtual 131, 3) := by decide +kernel
theorem dX3_tick_27 : decode cX3_tick 27 = .ok (.pop, 1) := by decide +kernel
theorem dX3_tick_28 : decode cX3_tick 28 = .ok (.aload_n 0, 1) := by decide +kernel
theorem dX3_tick_29 : decode cX3_tick 29 = .ok (.getfield 10, 3) := by decide +kernel
theorem dX3_tick_32 : decode cX3_tick 32 = .ok (.getfield 135, 3) := by decide +kernel
theorem dX3_tick_35 : decode cX3_tick 35 = .ok (.ireturn, 1) := by decide +kernel
theorem dX3_append_0 : decode cX3_append 0 = .ok (.iload_n 1, 1) := by decide +kernel
theorem dX3_append_1 : decode cX3_append 1 = .ok (.iconst 0, 1) := by decide +kernel
theorem dX3_append_2 : decode cX3_append 2 = .ok (.bipush 127, 2) := by decide +kernel
theorem dX3_append_4 : decode cX3_append 4 = .ok (.invokestatic 55, 3) := by decide +kernel
theorem dX3_append_7 : decode cX3_append 7 = .ok (.ifCond .ne 6, 3) := by decide +kernel
theorem dX3_append_10 : decode cX3_append 10 = .ok (.ldc 59, 2) := by decide +kernel
theorem dX3_append_12 : decode cX3_append 12 = .ok (.ireturn, 1) := by decide +kernel
theorem dX3_append_13 : decode cX3_append 13 = .ok (.aload_n 0, 1) := by decide +kernel
theorem dX3_append_14 : decode cX3_append 14 = .ok (.getfield 33, 3) := by decide +kernel
theorem dX3_append_17 : decode cX3_append 17 = .ok (.iload_n 1, 1) := by decide +kernel
theorem dX3_append_18 : decode cX3_append 18 = .ok (.invokevirtual 138, 3) := by decide +kernel
theorem dX3_append_21 : decode cX3_append 21 = .ok (.ifCond .eq 13, 3) := by decide +kernel
theorem dX3_append_24 : decode cX3_append 24 = .ok (.aload_n 0, 1) := by decide +kernel
theorem dX3_append_25 : decode cX3_append 25 = .ok (.getfield 33, 3) := by decide +kernel
theorem dX3_append_28 : decode cX3_append 28 = .ok (.getfield 141, 3) := by decide +kernel
theorem dX3_append_31 : decode cX3_append 31 = .ok (.goto 5, 3) := by decide +kernel
theorem dX3_append_34 : decode cX3_append 34 = .ok (.ldc 110, 2) := by decide +kernel
theorem dX3_append_36 : decode cX3_append 36 = .ok (.ireturn, 1) := by decide +kernel
theorem dX3_play_0 : decode cX3_play 0 = .ok (.aload_n 0, 1) := by decide +kernel
theorem dX3_play_1 : decode cX3_play 1 = .ok (.getfield 33, 3) := by decide +kernel
theorem dX3_play_4 : decode cX3_play 4 = .ok (.invokevirtual 144, 3) := by decide +kernel
theorem dX3_play_7 : decode cX3_play 7 = .ok (.ldc 148, 2) := by decide +kernel
theorem dX3_play_9 : decode cX3_play 9 = .ok (.if_icmp .eq 6, 3) := by decide +kernel
theorem dX3_play_12 : decode cX3_play 12 = .ok (.ldc 149, 2) := by decide +kernel
theorem dX3_play_14 : decode cX3_play 14 = .ok (.ireturn, 1) := by decide +kernel
theorem dX3_play_15 : decode cX3_play 15 = .ok (.aload_n 0, 1) := by decide +kernel
theorem dX3_play_16 : decode cX3_play 16 = .ok (.invokevirtual 60, 3) := by decide +kernel
theorem dX3_play_19 : decode cX3_play 19 = .ok (.aload_n 0, 1) := by decide +kernel
theorem dX3_play_20 : decode cX3_play 20 = .ok (.getfield 33, 3) := by decide +kernel
theorem dX3_play_23 : decode cX3_play 23 = .ok (.invokevirtual 150, 3) := by decide +kernel
theorem dX3_play_26 : decode cX3_play 26 = .ok (.iconst 0, 1) := by decide +kernel
theorem dX3_play_27 : decode cX3_play 27 = .ok (.istore_n 1, 1) := by decide +kernel
theorem dX3_play_28 : decode cX3_play 28 = .ok (.aload_n 0, 1) := by decide +kernel
theorem dX3_play_29 : decode cX3_play 29 = .ok (.getfield 33, 3) := by decide +kernel
theorem dX3_play_32 : decode cX3_play 32 = .ok (.invokevirtual 153, 3) := by decide +kernel
theorem dX3_play_35 : decode cX3_play 35 = .ok (.ifCond .eq 26, 3) := by decide +kernel
theorem dX3_play_38 : decode cX3_play 38 = .ok (.iload_n 1, 1) := by decide +kernel
theorem dX3_play_39 : decode cX3_play 39 = .ok (.bipush 80, 2) := by decide +kernel
theorem dX3_play_41 : decode cX3_play 41 = .ok (.if_icmp .ge 20, 3) := by decide +kernel
theorem dX3_play_44 : decode cX3_play 44 = .ok (.aload_n 0, 1) := by decide +kernel
theorem dX3_play_45 : decode cX3_play 45 = .ok (.getfield 33, 3) := by decide +kernel
theorem dX3_play_48 : decode cX3_play 48 = .ok (.invokevirtual 157, 3) := by decide +kernel
theorem dX3_play_51 : decode cX3_play 51 = .ok (.aload_n 0, 1) := by decide +kernel
theorem dX3_play_52 : decode cX3_play 52 = .ok (.invokevirtual 160, 3) := by decide +kernel
theorem dX3_play_55 : decode cX3_play 55 = .ok (.iinc 1 1, 3) := by decide +kernel
theorem dX3_play_58 : decode cX3_play 58 = .ok (.goto (-30), 3) := by decide +kernel
theorem dX3_play_61 : decode cX3_play 61 = .ok (.iload_n 1, 1) := by decide +kernel
theorem dX3_play_62 : decode cX3_play 62 = .ok (.ireturn, 1) := by decide +kernel
theorem dX3_carryOutAct_0 : decode cX3_carryOutAct 0 = .ok (.aload_n 0, 1) := by decide +kernel
theorem dX3_carryOutAct_1 : decode cX3_carryOutAct 1 = .ok (.getfield 33, 3) := by decide +kernel
theorem dX3_carryOutAct_4 : decode cX3_carryOutAct 4 = .ok (.getfield 163, 3) := by decide +kernel
theorem dX3_carryOutAct_7 : decode cX3_carryOutAct 7 = .ok (.lookupswitch 171 #[(100, 41), (108, 98), (112, 98), (114, 41)], 41) := by decide +kernel
theorem dX3_carryOutAct_48 : decode cX3_carryOutAct 48 = .ok (.aload_n 0, 1) := by decide +kernel
theorem dX3_carryOutAct_49 : decode cX3_carryOutAct 49 = .ok (.getfield 33, 3) := by decide +kernel
theorem dX3_carryOutAct_52 : decode cX3_carryOutAct 52 = .ok (.getfield 166, 3) := by decide +kernel
theorem dX3_carryOutAct_55 : decode cX3_carryOutAct 55 = .ok (.invokestatic 47, 3) := by decide +kernel
theorem dX3_carryOutAct_58 : decode cX3_carryOutAct 58 = .ok (.ifCond .eq 136, 3) := by decide +kernel
theorem dX3_carryOutAct_61 : decode cX3_carryOutAct 61 = .ok (.aload_n 0, 1) := by decide +kernel
theorem dX3_carryOutAct_62 : decode cX3_carryOutAct 62 = .ok (.getfield 10, 3) := by decide +kernel
theorem dX3_carryOutAct_65 : decode cX3_carryOutAct 65 = .ok (.aload_n 0, 1) := by decide +kernel
theorem dX3_carryOutAct_66 : decode cX3_carryOutAct 66 = .ok (.getfield 10, 3) := by decide +kernel
theorem dX3_carryOutAct_69 : decode cX3_carryOutAct 69 = .ok (.getfield 80, 3) := by decide +kernel
theorem dX3_carryOutAct_72 : decode cX3_carryOutAct 72 = .ok (.aload_n 0, 1) := by decide +kernel
theorem dX3_carryOutAct_73 : decode cX3_carryOutAct 73 = .ok (.getfield 33, 3) := by decide +kernel
theorem dX3_carryOutAct_76 : decode cX3_carryOutAct 76 = .ok (.getfield 166, 3) := by decide +kernel
theorem dX3_carryOutAct_79 : decode cX3_carryOutAct 79 = .ok (.aload_n 0, 1) := by decide +kernel
theorem dX3_carryOutAct_80 : decode cX3_carryOutAct 80 = .ok (.getfield 33, 3) := by decide +kernel
theorem dX3_carryOutAct_83 : decode cX3_carryOutAct 83 = .ok (.getfield 163, 3) := by decide +kernel
theorem dX3_carryOutAct_86 : decode cX3_carryOutAct 86 = .ok (.bipush 100, 2) := by decide +kernel
theorem dX3_carryOutAct_88 : decode cX3_carryOutAct 88 = .ok (.if_icmp .ne 7, 3) := by decide +kernel
theorem dX3_carryOutAct_91 : decode cX3_carryOutAct 91 = .ok (.iconst 1, 1) := by decide +kernel
theorem dX3_carryOutAct_92 : decode cX3_carryOutAct 92 = .ok (.goto 4, 3) := by decide +kernel
theorem dX3_carryOutAct_95 : decode cX3_carryOutAct 95 = .ok (.iconst 0, 1) := by decide +kernel
theorem dX3_carryOutAct_96 : decode cX3_carryOutAct 96 = .ok (.invokestatic 111, 3) := by decide +kernel
theorem dX3_carryOutAct_99 : decode cX3_carryOutAct 99 = .ok (.putfield 80, 3) := by decide +kernel
theorem dX3_carryOutAct_102 : decode cX3_carryOutAct 102 = .ok (.goto 92, 3) := by decide +kernel
theorem dX3_carryOutAct_105 : decode cX3_carryOutAct 105 = .ok (.aload_n 0, 1) := by decide +kernel
theorem dX3_carryOutAct_106 : decode cX3_carryOutAct 106 = .ok (.getfield 33, 3) := by decide +kernel
theorem dX3_carryOutAct_109 : decode cX3_carryOutAct 109 = .ok (.getfield 166, 3) := by decide +kernel
theorem dX3_carryOutAct_112 : decode cX3_carryOutAct 112 = .ok (.invokestatic 52, 3) := by decide +kernel
theorem dX3_carryOutAct_115 : decode cX3_carryOutAct 115 = .ok (.ifCond .eq 79, 3) := by decide +kernel
theorem dX3_carryOutAct_118 : decode cX3_carryOutAct 118 = .ok (.aload_n 0, 1) := by decide +kernel
theorem dX3_carryOutAct_119 : decode cX3_carryOutAct 119 = .ok (.getfield 10, 3) := by decide +kernel
theorem dX3_carryOutAct_122 : decode cX3_carryOutAct 122 = .ok (.getfield 121, 3) := by decide +kernel
theorem dX3_carryOutAct_125 : decode cX3_carryOutAct 125 = .ok (.aload_n 0, 1) := by decide +kernel
theorem dX3_carryOutAct_126 : decode cX3_carryOutAct 126 = .ok (.getfield 33, 3) := by decide +kernel
theorem dX3_carryOutAct_129 : decode cX3_carryOutAct 129 = .ok (.getfield 166, 3) := by decide +kernel
theorem dX3_carryOutAct_132 : decode cX3_carryOutAct 132 = .ok (.aload_n 0, 1) := by decide +kernel
theorem dX3_carryOutAct_133 : decode cX3_carryOutAct 133 = .ok (.getfield 10, 3) := by decide +kernel
theorem dX3_carryOutAct_136 : decode cX3_carryOutAct 136 = .ok (.getfield 121, 3) := by decide +kernel
theorem dX3_carryOutAct_139 : decode cX3_carryOutAct 139 = .ok (.aload_n 0, 1) := by decide +kernel
theorem dX3_carryOutAct_140 : decode cX3_carryOutAct 140 = .ok (.getfield 33, 3) := by decide +kernel
theorem dX3_carryOutAct_143 : decode cX3_carryOutAct 143 = .ok (.getfield 166, 3) := by decide +kernel
theorem dX3_carryOutAct_146 : decode cX3_carryOutAct 146 = .ok (.iaload, 1) := by decide +kernel
theorem dX3_carryOutAct_147 : decode cX3_carryOutAct 147 = .ok (.aload_n 0, 1) := by decide +kernel
theorem dX3_carryOutAct_148 : decode cX3_carryOutAct 148 = .ok (.getfield 33, 3) := by decide +kernel
theorem dX3_carryOutAct_151 : decode cX3_carryOutAct 151 = .ok (.getfield 169, 3) := by decide +kernel
theorem dX3_carryOutAct_154 : decode cX3_carryOutAct 154 = .ok (.aload_n 0, 1) := by decide +kernel
theorem dX3_carryOutAct_155 : decode cX3_carryOutAct 155 = .ok (.getfield 33, 3) := by decide +kernel
theorem dX3_carryOutAct_158 : decode cX3_carryOutAct 158 = .ok (.getfield 163, 3) := by decide +kernel
theorem dX3_carryOutAct_161 : decode cX3_carryOutAct 161 = .ok (.bipush 112, 2) := by decide +kernel
theorem dX3_carryOutAct_163 : decode cX3_carryOutAct 163 = .ok (.if_icmp .ne 7, 3) := by decide +kernel
theorem dX3_carryOutAct_166 : decode cX3_carryOutAct 166 = .ok (.iconst 1, 1) := by decide +kernel
theorem dX3_carryOutAct_167 : decode cX3_carryOutAct 167 = .ok (.goto 4, 3) := by decide +kernel
theorem dX3_carryOutAct_170 : decode cX3_carryOutAct 170 = .ok (.iconst 0, 1) := by decide +kernel
theorem dX3_carryOutAct_171 : decode cX3_carryOutAct 171 = .ok (.invokestatic 111, 3) := by decide +kernel
theorem dX3_carryOutAct_174 : decode cX3_carryOutAct 174 = .ok (.iastore, 1) := by decide +kernel
theorem dX3_carryOutAct_175 : decode cX3_carryOutAct 175 = .ok (.goto 19, 3) := by decide +kernel
theorem dX3_carryOutAct_178 : decode cX3_carryOutAct 178 = .ok (.aload_n 0, 1) := by decide +kernel
theorem dX3_carryOutAct_179 : decode cX3_carryOutAct 179 = .ok (.aload_n 0, 1) := by decide +kernel
theorem dX3_carryOutAct_180 : decode cX3_carryOutAct 180 = .ok (.getfield 10, 3) := by decide +kernel
theorem dX3_carryOutAct_183 : decode cX3_carryOutAct 183 = .ok (.aload_n 0, 1) := by decide +kernel
theorem dX3_carryOutAct_184 : decode cX3_carryOutAct 184 = .ok (.getfield 33, 3) := by decide +kernel
theorem dX3_carryOutAct_187 : decode cX3_carryOutAct 187 = .ok (.getfield 169, 3) := by decide +kernel
theorem dX3_carryOutAct_190 : decode cX3_carryOutAct 190 = .ok (.invokevirtual 131, 3) := by decide +kernel
theorem dX3_carryOutAct_193 : decode cX3_carryOutAct 193 = .ok (.pop, 1) := by decide +kernel
theorem dX3_carryOutAct_194 : decode cX3_carryOutAct 194 = .ok (.return_, 1) := by decide +kernel
theorem dX3_tell_0 : decode cX3_tell 0 = .ok (.iload_n 1, 1) := by decide +kernel
theorem dX3_tell_1 : decode cX3_tell 1 = .ok (.iconst 0, 1) := by decide +kernel
theorem dX3_tell_2 : decode cX3_tell 2 = .ok (.bipush 9, 2) := by decide +kernel
theorem dX3_tell_4 : decode cX3_tell 4 = .ok (.invokestatic 55, 3) := by decide +kernel
theorem dX3_tell_7 : decode cX3_tell 7 = .ok (.ifCond .ne 6, 3) := by decide +kernel
theorem dX3_tell_10 : decode cX3_tell 10 = .ok (.ldc 51, 2) := by decide +kernel
theorem dX3_tell_12 : decode cX3_tell 12 = .ok (.ireturn, 1) := by decide +kernel
theorem dX3_tell_13 : decode cX3_tell 13 = .ok (.aload_n 0, 1) := by decide +kernel
theorem dX3_tell_14 : decode cX3_tell 14 = .ok (.invokevirtual 172, 3) := by decide +kernel
theorem dX3_tell_17 : decode cX3_tell 17 = .ok (.aload_n 0, 1) := by decide +kernel
theorem dX3_tell_18 : decode cX3_tell 18 = .ok (.iload_n 1, 1) := by decide +kernel
theorem dX3_tell_19 : decode cX3_tell 19 = .ok (.invokevirtual 175, 3) := by decide +kernel
theorem dX3_tell_22 : decode cX3_tell 22 = .ok (.ireturn, 1) := by decide +kernel
theorem dX3_numberTold_0 : decode cX3_numberTold 0 = .ok (.iload_n 1, 1) := by decide +kernel
theorem dX3_numberTold_1 : decode cX3_numberTold 1 = .ok (.tableswitch 135 0 8 #[51, 59, 67, 75, 83, 94, 102, 113, 124], 51) := by decide +kernel
theorem dX3_numberTold_52 : decode cX3_numberTold 52 = .ok (.aload_n 0, 1) := by decide +kernel
theorem dX3_numberTold_53 : decode cX3_numberTold 53 = .ok (.getfield 10, 3) := by decide +kernel
theorem dX3_numberTold_56 : decode cX3_numberTold 56 = .ok (.getfield 135, 3) := by decide +kernel
theorem dX3_numberTold_59 : decode cX3_numberTold 59 = .ok (.ireturn, 1) := by decide +kernel
theorem dX3_numberTold_60 : decode cX3_numberTold 60 = .ok (.aload_n 0, 1) := by decide +kernel
theorem dX3_numberTold_61 : decode cX3_numberTold 61 = .ok (.getfield 10, 3) := by decide +kernel
theorem dX3_numberTold_64 : decode cX3_numberTold 64 = .ok (.invokevirtual 178, 3) := by decide +kernel
theorem dX3_numberTold_67 : decode cX3_numberTold 67 = .ok (.ireturn, 1) := by decide +kernel
theorem dX3_numberTold_68 : decode cX3_numberTold 68 = .ok (.aload_n 0, 1) := by decide +kernel
theorem dX3_numberTold_69 : decode cX3_numberTold 69 = .ok (.getfield 10, 3) := by decide +kernel
theorem dX3_numberTold_72 : decode cX3_numberTold 72 = .ok (.getfield 181, 3) := by decide +kernel
theorem dX3_numberTold_75 : decode cX3_numberTold 75 = .ok (.ireturn, 1) := by decide +kernel
theorem dX3_numberTold_76 : decode cX3_numberTold 76 = .ok (.aload_n 0, 1) := by decide +kernel
theorem dX3_numberTold_77 : decode cX3_numberTold 77 = .ok (.getfield 10, 3) := by decide +kernel
theorem dX3_numberTold_80 : decode cX3_numberTold 80 = .ok (.getfield 184, 3) := by decide +kernel
theorem dX3_numberTold_83 : decode cX3_numberTold 83 = .ok (.ireturn, 1) := by decide +kernel
theorem dX3_numberTold_84 : decode cX3_numberTold 84 = .ok (.aload_n 0, 1) := by decide +kernel
theorem dX3_numberTold_85 : decode cX3_numberTold 85 = .ok (.getfield 10, 3) := by decide +kernel
theorem dX3_numberTold_88 : decode cX3_numberTold 88 = .ok (.getfield 88, 3) := by decide +kernel
theorem dX3_numberTold_91 : decode cX3_numberTold 91 = .ok (.invokestatic 187, 3) := by decide +kernel
theorem dX3_numberTold_94 : decode cX3_numberTold 94 = .ok (.ireturn, 1) := by decide +kernel
theorem dX3_numberTold_95 : decode cX3_numberTold 95 = .ok (.aload_n 0, 1) := by decide +kernel
theorem dX3_numberTold_96 : decode cX3_numberTold 96 = .ok (.getfield 10, 3) := by decide +kernel
theorem dX3_numberTold_99 : decode cX3_numberTold 99 = .ok (.getfield 190, 3) := by decide +kernel
theorem dX3_numberTold_102 : decode cX3_numberTold 102 = .ok (.ireturn, 1) := by decide +kernel
theorem dX3_numberTold_103 : decode cX3_numberTold 103 = .ok (.aload_n 0, 1) := by decide +kernel
theorem dX3_numberTold_104 : decode cX3_numberTold 104 = .ok (.getfield 40, 3) := by decide +kernel
theorem dX3_numberTold_107 : decode cX3_numberTold 107 = .ok (.getfield 193, 3) := by decide +kernel
theorem dX3_numberTold_110 : decode cX3_numberTold 110 = .ok (.invokestatic 106, 3) := by decide +kernel
theorem dX3_numberTold_113 : decode cX3_numberTold 113 = .ok (.ireturn, 1) := by decide +kernel
theorem dX3_numberTold_114 : decode cX3_numberTold 114 = .ok (.aload_n 0, 1) := by decide +kernel
theorem dX3_numberTold_115 : decode cX3_numberTold 115 = .ok (.getfield 40, 3) := by decide +kernel
theorem dX3_numberTold_118 : decode cX3_numberTold 118 = .ok (.getfield 196, 3) := by decide +kernel
theorem dX3_numberTold_121 : decode cX3_numberTold 121 = .ok (.invokestatic 106, 3) := by decide +kernel
theorem dX3_numberTold_124 : decode cX3_numberTold 124 = .ok (.ireturn, 1) := by decide +kernel
theorem dX3_numberTold_125 : decode cX3_numberTold 125 = .ok (.aload_n 0, 1) := by decide +kernel
theorem dX3_numberTold_126 : decode cX3_numberTold 126 = .ok (.getfield 10, 3) := by decide +kernel
theorem dX3_numberTold_129 : decode cX3_numberTold 129 = .ok (.getfield 103, 3) := by decide +kernel
theorem dX3_numberTold_132 : decode cX3_numberTold 132 = .ok (.invokestatic 106, 3) := by decide +kernel
theorem dX3_numberTold_135 : decode cX3_numberTold 135 = .ok (.ireturn, 1) := by decide +kernel
theorem dX3_numberTold_136 : decode cX3_numberTold 136 = .ok (.aload_n 0, 1) := by decide +kernel
theorem dX3_numberTold_137 : decode cX3_numberTold 137 = .ok (.getfield 10, 3) := by decide +kernel
theorem dX3_numberTold_140 : decode cX3_numberTold 140 = .ok (.getfield 199, 3) := by decide +kernel
theorem dX3_numberTold_143 : decode cX3_numberTold 143 = .ok (.ireturn, 1) := by decide +kernel
theorem dX3_chest_0 : decode cX3_chest 0 = .ok (.iload_n 1, 1) := by decide +kernel
theorem dX3_chest_1 : decode cX3_chest 1 = .ok (.invokestatic 52, 3) := by decide +kernel
theorem dX3_chest_4 : decode cX3_chest 4 = .ok (.ifCond .ne 6, 3) := by decide +kernel
theorem dX3_chest_7 : decode cX3_chest 7 = .ok (.ldc 51, 2) := by decide +kernel
theorem dX3_chest_9 : decode cX3_chest 9 = .ok (.ireturn, 1) := by decide +kernel
theorem dX3_chest_10 : decode cX3_chest 10 = .ok (.aload_n 0, 1) := by decide +kernel
theorem dX3_chest_11 : decode cX3_chest 11 = .ok (.invokevirtual 172, 3) := by decide +kernel
theorem dX3_chest_14 : decode cX3_chest 14 = .ok (.aload_n 0, 1) := by decide +kernel
theorem dX3_chest_15 : decode cX3_chest 15 = .ok (.iload_n 1, 1) := by decide +kernel
theorem dX3_chest_16 : decode cX3_chest 16 = .ok (.iload_n 2, 1) := by decide +kernel
theorem dX3_chest_17 : decode cX3_chest 17 = .ok (.invokevirtual 202, 3) := by decide +kernel
theorem dX3_chest_20 : decode cX3_chest 20 = .ok (.ireturn, 1) := by decide +kernel
theorem dX3_chestTold_0 : decode cX3_chestTold 0 = .ok (.iload_n 2, 1) := by decide +kernel
theorem dX3_chestTold_1 : decode cX3_chestTold 1 = .ok (.tableswitch 56 0 2 #[27, 37, 47], 27) := by decide +kernel
theorem dX3_chestTold_28 : decode cX3_chestTold 28 = .ok (.aload_n 0, 1) := by decide +kernel
theorem dX3_chestTold_29 : decode cX3_chestTold 29 = .ok (.getfield 40, 3) := by decide +kernel
theorem dX3_chestTold_32 : decode cX3_chestTold 32 = .ok (.getfield 205, 3) := by decide +kernel
theorem dX3_chestTold_35 : decode cX3_chestTold 35 = .ok (.iload_n 1, 1) := by decide +kernel
theorem dX3_chestTold_36 : decode cX3_chestTold 36 = .ok (.iaload, 1) := by decide +kernel
theorem dX3_chestTold_37 : decode cX3_chestTold 37 = .ok (.ireturn, 1) := by decide +kernel
theorem dX3_chestTold_38 : decode cX3_chestTold 38 = .ok (.aload_n 0, 1) := by decide +kernel
theorem dX3_chestTold_39 : decode cX3_chestTold 39 = .ok (.getfield 40, 3) := by decide +kernel
theorem dX3_chestTold_42 : decode cX3_chestTold 42 = .ok (.getfield 208, 3) := by decide +kernel
theorem dX3_chestTold_45 : decode cX3_chestTold 45 = .ok (.iload_n 1, 1) := by decide +kernel
theorem dX3_chestTold_46 : decode cX3_chestTold 46 = .ok (.iaload, 1) := by decide +kernel
theorem dX3_chestTold_47 : decode cX3_chestTold 47 = .ok (.ireturn, 1) := by decide +kernel
theorem dX3_chestTold_48 : decode cX3_chestTold 48 = .ok (.aload_n 0, 1) := by decide +kernel
theorem dX3_chestTold_49 : decode cX3_chestTold 49 = .ok (.getfield 10, 3) := by decide +kernel
theorem dX3_chestTold_52 : decode cX3_chestTold 52 = .ok (.iload_n 1, 1) := by decide +kernel
theorem dX3_chestTold_53 : decode cX3_chestTold 53 = .ok (.invokevirtual 211, 3) := by decide +kernel
theorem dX3_chestTold_56 : decode cX3_chestTold 56 = .ok (.ireturn, 1) := by decide +kernel
theorem dX3_chestTold_57 : decode cX3_chestTold 57 = .ok (.ldc 59, 2) := by decide +kernel
theorem dX3_chestTold_59 : decode cX3_chestTold 59 = .ok (.ireturn, 1) := by decide +kernel
theorem dX3_strokes_0 : decode cX3_strokes 0 = .ok (.iload_n 1, 1) := by decide +kernel
theorem dX3_strokes_1 : decode cX3_strokes 1 = .ok (.iconst 0, 1) := by decide +kernel
theorem dX3_strokes_2 : decode cX3_strokes 2 = .ok (.iconst 1, 1) := by decide +kernel
theorem dX3_strokes_3 : decode cX3_strokes 3 = .ok (.invokestatic 55, 3) := by decide +kernel
theorem dX3_strokes_6 : decode cX3_strokes 6 = .ok (.ifCond .ne 6, 3) := by decide +kernel
theorem dX3_strokes_9 : decode cX3_strokes 9 = .ok (.ldc 51, 2) := by decide +kernel
theorem dX3_strokes_11 : decode cX3_strokes 11 = .ok (.ireturn, 1) := by decide +kernel
theorem dX3_strokes_12 : decode cX3_strokes 12 = .ok (.aload_n 0, 1) := by decide +kernel
theorem dX3_strokes_13 : decode cX3_strokes 13 = .ok (.getfield 10, 3) := by decide +kernel
theorem dX3_strokes_16 : decode cX3_strokes 16 = .ok (.getfield 214, 3) := by decide +kernel
theorem dX3_strokes_19 : decode cX3_strokes 19 = .ok (.iload_n 1, 1) := by decide +kernel
theorem dX3_strokes_20 : decode cX3_strokes 20 = .ok (.iaload, 1) := by decide +kernel
theorem dX3_strokes_21 : decode cX3_strokes 21 = .ok (.ireturn, 1) := by decide +kernel
theorem dX3_pipe_0 : decode cX3_pipe 0 = .ok (.iload_n 1, 1) := by decide +kernel
theorem dX3_pipe_1 : decode cX3_pipe 1 = .ok (.invokestatic 47, 3) := by decide +kernel
theorem dX3_pipe_4 : decode cX3_pipe 4 = .ok (.ifCond .eq 10, 3) := by decide +kernel
theorem dX3_pipe_7 : decode cX3_pipe 7 = .ok (.iload_n 2, 1) := by decide +kernel
theorem dX3_pipe_8 : decode cX3_pipe 8 = .ok (.invokestatic 100, 3) := by decide +kernel
theorem dX3_pipe_11 : decode cX3_pipe 11 = .ok (.ifCond .ne 6, 3) := by decide +kernel
theorem dX3_pipe_14 : decode cX3_pipe 14 = .ok (.ldc 51, 2) := by decide +kernel
theorem dX3_pipe_16 : decode cX3_pipe 16 = .ok (.ireturn, 1) := by decide +kernel
theorem dX3_pipe_17 : decode cX3_pipe 17 = .ok (.iload_n 3, 1) := by decide +kernel
theorem dX3_pipe_18 : decode cX3_pipe 18 = .ok (.iconst 0, 1) := by decide +kernel
theorem dX3_pipe_19 : decode cX3_pipe 19 = .ok (.iconst 4, 1) := by decide +kernel
theorem dX3_pipe_20 : decode cX3_pipe 20 = .ok (.invokestatic 55, 3) := by decide +kernel
theorem dX3_pipe_23 : decode cX3_pipe 23 = .ok (.ifCond .ne 6, 3) := by decide +kernel
theorem dX3_pipe_26 : decode cX3_pipe 26 = .ok (.ldc 59, 2) := by decide +kernel
theorem dX3_pipe_28 : decode cX3_pipe 28 = .ok (.ireturn, 1) := by decide +kernel
theorem dX3_pipe_29 : decode cX3_pipe 29 = .ok (.aload_n 0, 1) := by decide +kernel
theorem dX3_pipe_30 : decode cX3_pipe 30 = .ok (.invokevirtual 172, 3) := by decide +kernel
theorem dX3_pipe_33 : decode cX3_pipe 33 = .ok (.aload_n 0, 1) := by decide +kernel
theorem dX3_pipe_34 : decode cX3_pipe 34 = .ok (.iload_n 1, 1) := by decide +kernel
theorem dX3_pipe_35 : decode cX3_pipe 35 = .ok (.iload_n 2, 1) := by decide +kernel
theorem dX3_pipe_36 : decode cX3_pipe 36 = .ok (.iload_n 3, 1) := by decide +kernel
theorem dX3_pipe_37 : decode cX3_pipe 37 = .ok (.invokevirtual 217, 3) := by decide +kernel
theorem dX3_pipe_40 : decode cX3_pipe 40 = .ok (.ireturn, 1) := by decide +kernel
theorem dX3_pipeTold_0 : decode cX3_pipeTold 0 = .ok (.iload_n 3, 1) := by decide +kernel
theorem dX3_pipeTold_1 : decode cX3_pipeTold 1 = .ok (.ifCond .ne 13, 3) := by decide +kernel
theorem dX3_pipeTold_4 : decode cX3_pipeTold 4 = .ok (.aload_n 0, 1) := by decide +kernel
theorem dX3_pipeTold_5 : decode cX3_pipeTold 5 = .ok (.getfield 10, 3) := by decide +kernel
theorem dX3_pipeTold_8 : decode cX3_pipeTold 8 = .ok (.iload_n 1, 1) := by decide +kernel
theorem dX3_pipeTold_9 : decode cX3_pipeTold 9 = .ok (.iload_n 2, 1) := by decide +kernel
theorem dX3_pipeTold_10 : decode cX3_pipeTold 10 = .ok (.invokevirtual 221, 3) := by decide +kernel
theorem dX3_pipeTold_13 : decode cX3_pipeTold 13 = .ok (.ireturn, 1) := by decide +kernel
theorem dX3_pipeTold_14 : decode cX3_pipeTold 14 = .ok (.iload_n 3, 1) := by decide +kernel
theorem dX3_pipeTold_15 : decode cX3_pipeTold 15 = .ok (.iconst 1, 1) := by decide +kernel
theorem dX3_pipeTold_16 : decode cX3_pipeTold 16 = .ok (.if_icmp .ne 17, 3) := by decide +kernel
theorem dX3_pipeTold_19 : decode cX3_pipeTold 19 = .ok (.aload_n 0, 1) := by decide +kernel
theorem dX3_pipeTold_20 : decode cX3_pipeTold 20 = .ok (.getfield 10, 3) := by decide +kernel
theorem dX3_pipeTold_23 : decode cX3_pipeTold 23 = .ok (.getfield 73, 3) := by decide +kernel
theorem dX3_pipeTold_26 : decode cX3_pipeTold 26 = .ok (.iload_n 1, 1) := by decide +kernel
theorem dX3_pipeTold_27 : decode cX3_pipeTold 27 = .ok (.iload_n 2, 1) := by decide +kernel
theorem dX3_pipeTold_28 : decode cX3_pipeTold 28 = .ok (.invokestatic 76, 3) := by decide +kernel
theorem dX3_pipeTold_31 : decode cX3_pipeTold 31 = .ok (.iaload, 1) := by decide +kernel
theorem dX3_pipeTold_32 : decode cX3_pipeTold 32 = .ok (.ireturn, 1) := by decide +kernel
theorem dX3_pipeTold_33 : decode cX3_pipeTold 33 = .ok (.aload_n 0, 1) := by decide +kernel
theorem dX3_pipeTold_34 : decode cX3_pipeTold 34 = .ok (.getfield 40, 3) := by decide +kernel
theorem dX3_pipeTold_37 : decode cX3_pipeTold 37 = .ok (.getfield 193, 3) := by decide +kernel
theorem dX3_pipeTold_40 : decode cX3_pipeTold 40 = .ok (.iload_n 1, 1) := by decide +kernel
theorem dX3_pipeTold_41 : decode cX3_pipeTold 41 = .ok (.iaload, 1) := by decide +kernel
theorem dX3_pipeTold_42 : decode cX3_pipeTold 42 = .ok (.iload_n 2, 1) := by decide +kernel
theorem dX3_pipeTold_43 : decode cX3_pipeTold 43 = .ok (.invokestatic 84, 3) := by decide +kernel
theorem dX3_pipeTold_46 : decode cX3_pipeTold 46 = .ok (.ifCond .ne 6, 3) := by decide +kernel
theorem dX3_pipeTold_49 : decode cX3_pipeTold 49 = .ok (.ldc 148, 2) := by decide +kernel
theorem dX3_pipeTold_51 : decode cX3_pipeTold 51 = .ok (.ireturn, 1) := by decide +kernel
theorem dX3_pipeTold_52 : decode cX3_pipeTold 52 = .ok (.iload_n 3, 1) := by decide +kernel
theorem dX3_pipeTold_53 : decode cX3_pipeTold 53 = .ok (.iconst 2, 1) := by decide +kernel
theorem dX3_pipeTold_54 : decode cX3_pipeTold 54 = .ok (.if_icmp .ne 17, 3) := by decide +kernel
theorem dX3_pipeTold_57 : decode cX3_pipeTold 57 = .ok (.aload_n 0, 1) := by decide +kernel
theorem dX3_pipeTold_58 : decode cX3_pipeTold 58 = .ok (.getfield 40, 3) := by decide +kernel
theorem dX3_pipeTold_61 : decode cX3_pipeTold 61 = .ok (.aload_n 0, 1) := by decide +kernel
theorem dX3_pipeTold_62 : decode cX3_pipeTold 62 = .ok (.getfield 10, 3) := by decide +kernel
theorem dX3_pipeTold_65 : decode cX3_pipeTold 65 = .ok (.iload_n 1, 1) := by decide +kernel
theorem dX3_pipeTold_66 : decode cX3_pipeTold 66 = .ok (.iload_n 2, 1) := by decide +kernel
theorem dX3_pipeTold_67 : decode cX3_pipeTold 67 = .ok (.invokevirtual 224, 3) := by decide +kernel
theorem dX3_pipeTold_70 : decode cX3_pipeTold 70 = .ok (.ireturn, 1) := by decide +kernel
theorem dX3_pipeTold_71 : decode cX3_pipeTold 71 = .ok (.iload_n 3, 1) := by decide +kernel
theorem dX3_pipeTold_72 : decode cX3_pipeTold 72 = .ok (.iconst 3, 1) := by decide +kernel
theorem dX3_pipeTold_73 : decode cX3_pipeTold 73 = .ok (.if_icmp .ne 19, 3) := by decide +kernel
theorem dX3_pipeTold_76 : decode cX3_pipeTold 76 = .ok (.aload_n 0, 1) := by decide +kernel
theorem dX3_pipeTold_77 : decode cX3_pipeTold 77 = .ok (.getfield 40, 3) := by decide +kernel
theorem dX3_pipeTold_80 : decode cX3_pipeTold 80 = .ok (.getfield 228, 3) := by decide +kernel
theorem dX3_pipeTold_83 : decode cX3_pipeTold 83 = .ok (.iload_n 1, 1) := by decide +kernel
theorem dX3_pipeTold_84 : decode cX3_pipeTold 84 = .ok (.iload_n 2, 1) := by decide +kernel
theorem dX3_pipeTold_85 : decode cX3_pipeTold 85 = .ok (.invokestatic 76, 3) := by decide +kernel
theorem dX3_pipeTold_88 : decode cX3_pipeTold 88 = .ok (.iaload, 1) := by decide +kernel
theorem dX3_pipeTold_89 : decode cX3_pipeTold 89 = .ok (.goto 9, 3) := by decide +kernel
theorem dX3_pipeTold_92 : decode cX3_pipeTold 92 = .ok (.aload_n 0, 1) := by decide +kernel
theorem dX3_pipeTold_93 : decode cX3_pipeTold 93 = .ok (.iload_n 1, 1) := by decide +kernel
theorem dX3_pipeTold_94 : decode cX3_pipeTold 94 = .ok (.iload_n 2, 1) := by decide +kernel
theorem dX3_pipeTold_95 : decode cX3_pipeTold 95 = .ok (.invokevirtual 231, 3) := by decide +kernel
theorem dX3_pipeTold_98 : decode cX3_pipeTold 98 = .ok (.ireturn, 1) := by decide +kernel
theorem dX3_reason_0 : decode cX3_reason 0 = .ok (.iload_n 1, 1) := by decide +kernel
theorem dX3_reason_1 : decode cX3_reason 1 = .ok (.invokestatic 47, 3) := by decide +kernel
theorem dX3_reason_4 : decode cX3_reason 4 = .ok (.ifCond .eq 10, 3) := by decide +kernel
theorem dX3_reason_7 : decode cX3_reason 7 = .ok (.iload_n 2, 1) := by decide +kernel
theorem dX3_reason_8 : decode cX3_reason 8 = .ok (.invokestatic 100, 3) := by decide +kernel
theorem dX3_reason_11 : decode cX3_reason 11 = .ok (.ifCond .ne 6, 3) := by decide +kernel
theorem dX3_reason_14 : decode cX3_reason 14 = .ok (.ldc 51, 2) := by decide +kernel
theorem dX3_reason_16 : decode cX3_reason 16 = .ok (.ireturn, 1) := by decide +kernel
theorem dX3_reason_17 : decode cX3_reason 17 = .ok (.aload_n 0, 1) := by decide +kernel
theorem dX3_reason_18 : decode cX3_reason 18 = .ok (.invokevirtual 172, 3) := by decide +kernel
theorem dX3_reason_21 : decode cX3_reason 21 = .ok (.aload_n 0, 1) := by decide +kernel
theorem dX3_reason_22 : decode cX3_reason 22 = .ok (.iload_n 1, 1) := by decide +kernel
theorem dX3_reason_23 : decode cX3_reason 23 = .ok (.iload_n 2, 1) := by decide +kernel
theorem dX3_reason_24 : decode cX3_reason 24 = .ok (.invokevirtual 234, 3) := by decide +kernel
theorem dX3_reason_27 : decode cX3_reason 27 = .ok (.ireturn, 1) := by decide +kernel
theorem dX3_reasonTold_0 : decode cX3_reasonTold 0 = .ok (.aload_n 0, 1) := by decide +kernel
theorem dX3_reasonTold_1 : decode cX3_reasonTold 1 = .ok (.getfield 10, 3) := by decide +kernel
theorem dX3_reasonTold_4 : decode cX3_reasonTold 4 = .ok (.getfield 80, 3) := by decide +kernel
theorem dX3_reasonTold_7 : decode cX3_reasonTold 7 = .ok (.iload_n 1, 1) := by decide +kernel
theorem dX3_reasonTold_8 : decode cX3_reasonTold 8 = .ok (.invokestatic 84, 3) := by decide +kernel
theorem dX3_reasonTold_11 : decode cX3_reasonTold 11 = .ok (.ifCond .ne 5, 3) := by decide +kernel
theorem dX3_reasonTold_14 : decode cX3_reasonTold 14 = .ok (.iconst 1, 1) := by decide +kernel
theorem dX3_reasonTold_15 : decode cX3_reasonTold 15 = .ok (.ireturn, 1) := by decide +kernel
theorem dX3_reasonTold_16 : decode cX3_reasonTold 16 = .ok (.aload_n 0, 1) := by decide +kernel
theorem dX3_reasonTold_17 : decode cX3_reasonTold 17 = .ok (.getfield 40, 3) := by decide +kernel
theorem dX3_reasonTold_20 : decode cX3_reasonTold 20 = .ok (.getfield 193, 3) := by decide +kernel
theorem dX3_reasonTold_23 : decode cX3_reasonTold 23 = .ok (.iload_n 1, 1) := by decide +kernel
theorem dX3_reasonTold_24 : decode cX3_reasonTold 24 = .ok (.iaload, 1) := by decide +kernel
theorem dX3_reasonTold_25 : decode cX3_reasonTold 25 = .ok (.iload_n 2, 1) := by decide +kernel
theorem dX3_reasonTold_26 : decode cX3_reasonTold 26 = .ok (.invokestatic 84, 3) := by decide +kernel
theorem dX3_reasonTold_29 : decode cX3_reasonTold 29 = .ok (.ifCond .ne 5, 3) := by decide +kernel
theorem dX3_reasonTold_32 : decode cX3_reasonTold 32 = .ok (.iconst 2, 1) := by decide +kernel
theorem dX3_reasonTold_33 : decode cX3_reasonTold 33 = .ok (.ireturn, 1) := by decide +kernel
theorem dX3_reasonTold_34 : decode cX3_reasonTold 34 = .ok (.aload_n 0, 1) := by decide +kernel
theorem dX3_reasonTold_35 : decode cX3_reasonTold 35 = .ok (.getfield 40, 3) := by decide +kernel
theorem dX3_reasonTold_38 : decode cX3_reasonTold 38 = .ok (.getfield 205, 3) := by decide +kernel
theorem dX3_reasonTold_41 : decode cX3_reasonTold 41 = .ok (.aload_n 0, 1) := by decide +kernel
theorem dX3_reasonTold_42 : decode cX3_reasonTold 42 = .ok (.getfield 10, 3) := by decide +kernel
theorem dX3_reasonTold_45 : decode cX3_reasonTold 45 = .ok (.iload_n 1, 1) := by decide +kernel
theorem dX3_reasonTold_46 : decode cX3_reasonTold 46 = .ok (.invokevirtual 237, 3) := by decide +kernel
theorem dX3_reasonTold_49 : decode cX3_reasonTold 49 = .ok (.iaload, 1) := by decide +kernel
theorem dX3_reasonTold_50 : decode cX3_reasonTold 50 = .ok (.aload_n 0, 1) := by decide +kernel
theorem dX3_reasonTold_51 : decode cX3_reasonTold 51 = .ok (.getfield 10, 3) := by decide +kernel
theorem dX3_reasonTold_54 : decode cX3_reasonTold 54 = .ok (.getfield 70, 3) := by decide +kernel
theorem dX3_reasonTold_57 : decode cX3_reasonTold 57 = .ok (.iload_n 1, 1) := by decide +kernel
theorem dX3_reasonTold_58 : decode cX3_reasonTold 58 = .ok (.iaload, 1) := by decide +kernel
theorem dX3_reasonTold_59 : decode cX3_reasonTold 59 = .ok (.if_icmp .ge 5, 3) := by decide +kernel
theorem dX3_reasonTold_62 : decode cX3_reasonTold 62 = .ok (.iconst 3, 1) := by decide +kernel
theorem dX3_reasonTold_63 : decode cX3_reasonTold 63 = .ok (.ireturn, 1) := by decide +kernel
theorem dX3_reasonTold_64 : decode cX3_reasonTold 64 = .ok (.aload_n 0, 1) := by decide +kernel
theorem dX3_reasonTold_65 : decode cX3_reasonTold 65 = .ok (.getfield 40, 3) := by decide +kernel
theorem dX3_reasonTold_68 : decode cX3_reasonTold 68 = .ok (.aload_n 0, 1) := by decide +kernel
theorem dX3_reasonTold_69 : decode cX3_reasonTold 69 = .ok (.getfield 10, 3) := by decide +kernel
theorem dX3_reasonTold_72 : decode cX3_reasonTold 72 = .ok (.iload_n 1, 1) := by decide +kernel
theorem dX3_reasonTold_73 : decode cX3_reasonTold 73 = .ok (.iload_n 2, 1) := by decide +kernel
theorem dX3_reasonTold_74 : decode cX3_reasonTold 74 = .ok (.invokevirtual 224, 3) := by decide +kernel
theorem dX3_reasonTold_77 : decode cX3_reasonTold 77 = .ok (.istore_n 3, 1) := by decide +kernel
theorem dX3_reasonTold_78 : decode cX3_reasonTold 78 = .ok (.aload_n 0, 1) := by decide +kernel
theorem dX3_reasonTold_79 : decode cX3_reasonTold 79 = .ok (.getfield 40, 3) := by decide +kernel
theorem dX3_reasonTold_82 : decode cX3_reasonTold 82 = .ok (.getfield 228, 3) := by decide +kernel
theorem dX3_reasonTold_85 : decode cX3_reasonTold 85 = .ok (.iload_n 1, 1) := by decide +kernel
theorem dX3_reasonTold_86 : decode cX3_reasonTold 86 = .ok (.iload_n 2, 1) := by decide +kernel
theorem dX3_reasonTold_87 : decode cX3_reasonTold 87 = .ok (.invokestatic 76, 3) := by decide +kernel
theorem dX3_reasonTold_90 : decode cX3_reasonTold 90 = .ok (.iaload, 1) := by decide +kernel
theorem dX3_reasonTold_91 : decode cX3_reasonTold 91 = .ok (.iload_n 3, 1) := by decide +kernel
theorem dX3_reasonTold_92 : decode cX3_reasonTold 92 = .ok (.if_icmp .ge 5, 3) := by decide +kernel
theorem dX3_reasonTold_95 : decode cX3_reasonTold 95 = .ok (.iconst 4, 1) := by decide +kernel
theorem dX3_reasonTold_96 : decode cX3_reasonTold 96 = .ok (.ireturn, 1) := by decide +kernel
theorem dX3_reasonTold_97 : decode cX3_reasonTold 97 = .ok (.iload_n 3, 1) := by decide +kernel
theorem dX3_reasonTold_98 : decode cX3_reasonTold 98 = .ok (.ifCond .ne 7, 3) := by decide +kernel
theorem dX3_reasonTold_101 : decode cX3_reasonTold 101 = .ok (.iconst 5, 1) := by decide +kernel
theorem dX3_reasonTold_102 : decode cX3_reasonTold 102 = .ok (.goto 4, 3) := by decide +kernel
theorem dX3_reasonTold_105 : decode cX3_reasonTold 105 = .ok (.iconst 0, 1) := by decide +kernel
theorem dX3_reasonTold_106 : decode cX3_reasonTold 106 = .ok (.ireturn, 1) := by decide +kernel
theorem dX3_tune_0 : decode cX3_tune 0 = .ok (.iload_n 1, 1) := by decide +kernel
theorem dX3_tune_1 : decode cX3_tune 1 = .ok (.invokestatic 47, 3) := by decide +kernel
theorem dX3_tune_4 : decode cX3_tune 4 = .ok (.ifCond .eq 10, 3) := by decide +kernel
theorem dX3_tune_7 : decode cX3_tune 7 = .ok (.iload_n 2, 1) := by decide +kernel
theorem dX3_tune_8 : decode cX3_tune 8 = .ok (.invokestatic 100, 3) := by decide +kernel
theorem dX3_tune_11 : decode cX3_tune 11 = .ok (.ifCond .ne 6, 3) := by decide +kernel
theorem dX3_tune_14 : decode cX3_tune 14 = .ok (.ldc 51, 2) := by decide +kernel
theorem dX3_tune_16 : decode cX3_tune 16 = .ok (.ireturn, 1) := by decide +kernel
theorem dX3_tune_17 : decode cX3_tune 17 = .ok (.aload_n 0, 1) := by decide +kernel
theorem dX3_tune_18 : decode cX3_tune 18 = .ok (.invokevirtual 172, 3) := by decide +kernel
theorem dX3_tune_21 : decode cX3_tune 21 = .ok (.aload_n 0, 1) := by decide +kernel
theorem dX3_tune_22 : decode cX3_tune 22 = .ok (.iload_n 1, 1) := by decide +kernel
theorem dX3_tune_23 : decode cX3_tune 23 = .ok (.invokevirtual 240, 3) := by decide +kernel
theorem dX3_tune_26 : decode cX3_tune 26 = .ok (.ineg, 1) := by decide +kernel
theorem dX3_tune_27 : decode cX3_tune 27 = .ok (.istore_n 3, 1) := by decide +kernel
theorem dX3_tune_28 : decode cX3_tune 28 = .ok (.aload_n 0, 1) := by decide +kernel
theorem dX3_tune_29 : decode cX3_tune 29 = .ok (.getfield 40, 3) := by decide +kernel
theorem dX3_tune_32 : decode cX3_tune 32 = .ok (.getfield 196, 3) := by decide +kernel
theorem dX3_tune_35 : decode cX3_tune 35 = .ok (.iload_n 1, 1) := by decide +kernel
theorem dX3_tune_36 : decode cX3_tune 36 = .ok (.iaload, 1) := by decide +kernel
theorem dX3_tune_37 : decode cX3_tune 37 = .ok (.iload_n 2, 1) := by decide +kernel
theorem dX3_tune_38 : decode cX3_tune 38 = .ok (.invokestatic 84, 3) := by decide +kernel
theorem dX3_tune_41 : decode cX3_tune 41 = .ok (.ifCond .eq 16, 3) := by decide +kernel
theorem dX3_tune_44 : decode cX3_tune 44 = .ok (.iload_n 3, 1) := by decide +kernel
theorem dX3_tune_45 : decode cX3_tune 45 = .ok (.sipush (-200), 3) := by decide +kernel
theorem dX3_tune_48 : decode cX3_tune 48 = .ok (.sipush 200, 3) := by decide +kernel
theorem dX3_tune_51 : decode cX3_tune 51 = .ok (.invokestatic 55, 3) := by decide +kernel
theorem dX3_tune_54 : decode cX3_tune 54 = .ok (.ifCond .ne 6, 3) := by decide +kernel
theorem dX3_tune_57 : decode cX3_tune 57 = .ok (.ldc 149, 2) := by decide +kernel
theorem dX3_tune_59 : decode cX3_tune 59 = .ok (.ireturn, 1) := by decide +kernel
theorem dX3_tune_60 : decode cX3_tune 60 = .ok (.aload_n 0, 1) := by decide +kernel
theorem dX3_tune_61 : decode cX3_tune 61 = .ok (.invokevirtual 60, 3) := by decide +kernel
theorem dX3_tune_64 : decode cX3_tune 64 = .ok (.aload_n 0, 1) := by decide +kernel
theorem dX3_tune_65 : decode cX3_tune 65 = .ok (.getfield 10, 3) := by decide +kernel
theorem dX3_tune_68 : decode cX3_tune 68 = .ok (.getfield 73, 3) := by decide +kernel
theorem dX3_tune_71 : decode cX3_tune 71 = .ok (.iload_n 1, 1) := by decide +kernel
theorem dX3_tune_72 : decode cX3_tune 72 = .ok (.iload_n 2, 1) := by decide +kernel
theorem dX3_tune_73 : decode cX3_tune 73 = .ok (.invokestatic 76, 3) := by decide +kernel
theorem dX3_tune_76 : decode cX3_tune 76 = .ok (.iaload, 1) := by decide +kernel
theorem dX3_tune_77 : decode cX3_tune 77 = .ok (.istore 4, 2) := by decide +kernel
theorem dX3_tune_79 : decode cX3_tune 79 = .ok (.aload_n 0, 1) := by decide +kernel
theorem dX3_tune_80 : decode cX3_tune 80 = .ok (.getfield 10, 3) := by decide +kernel
theorem dX3_tune_83 : decode cX3_tune 83 = .ok (.getfield 73, 3) := by decide +kernel
theorem dX3_tune_86 : decode cX3_tune 86 = .ok (.iload_n 1, 1) := by decide +kernel
theorem dX3_tune_87 : decode cX3_tune 87 = .ok (.iload_n 2, 1) := by decide +kernel
theorem dX3_tune_88 : decode cX3_tune 88 = .ok (.invokestatic 76, 3) := by decide +kernel
theorem dX3_tune_91 : decode cX3_tune 91 = .ok (.iload_n 3, 1) := by decide +kernel
theorem dX3_tune_92 : decode cX3_tune 92 = .ok (.iastore, 1) := by decide +kernel
theorem dX3_tune_93 : decode cX3_tune 93 = .ok (.iload 4, 2) := by decide +kernel
theorem dX3_tune_95 : decode cX3_tune 95 = .ok (.ireturn, 1) := by decide +kernel
theorem dX3_mistuned_0 : decode cX3_mistuned 0 = .ok (.aload_n 0, 1) := by decide +kernel
theorem dX3_mistuned_1 : decode cX3_mistuned 1 = .ok (.invokevirtual 172, 3) := by decide +kernel
theorem dX3_mistuned_4 : decode cX3_mistuned 4 = .ok (.aload_n 0, 1) := by decide +kernel
theorem dX3_mistuned_5 : decode cX3_mistuned 5 = .ok (.invokevirtual 243, 3) := by decide +kernel
theorem dX3_mistuned_8 : decode cX3_mistuned 8 = .ok (.ireturn, 1) := by decide +kernel
theorem dX3_greatestDifference_0 : decode cX3_greatestDifference 0 = .ok (.ldc 246, 2) := by decide +kernel
theorem dX3_greatestDifference_2 : decode cX3_greatestDifference 2 = .ok (.istore_n 1, 1) := by decide +kernel
theorem dX3_greatestDifference_3 : decode cX3_greatestDifference 3 = .ok (.ldc 247, 2) := by decide +kernel
theorem dX3_greatestDifference_5 : decode cX3_greatestDifference 5 = .ok (.istore_n 2, 1) := by decide +kernel
theorem dX3_greatestDifference_6 : decode cX3_greatestDifference 6 = .ok (.iconst 0, 1) := by decide +kernel
theorem dX3_greatestDifference_7 : decode cX3_greatestDifference 7 = .ok (.istore_n 3, 1) := by decide +kernel
theorem dX3_greatestDifference_8 : decode cX3_greatestDifference 8 = .ok (.iload_n 3, 1) := by decide +kernel
theorem dX3_greatestDifference_9 : decode cX3_greatestDifference 9 = .ok (.bipush 8, 2) := by decide +kernel
theorem dX3_greatestDifference_11 : decode cX3_greatestDifference 11 = .ok (.if_icmp .ge 65, 3) := by decide +kernel
theorem dX3_greatestDifference_14 : decode cX3_greatestDifference 14 = .ok (.iconst 0, 1) := by decide +kernel
theorem dX3_greatestDifference_15 : decode cX3_greatestDifference 15 = .ok (.istore 4, 2) := by decide +kernel
theorem dX3_greatestDifference_17 : decode cX3_greatestDifference 17 = .ok (.iload 4, 2) := by decide +kernel
theorem dX3_greatestDifference_19 : decode cX3_greatestDifference 19 = .ok (.bipush 24, 2) := by decide +kernel
theorem dX3_greatestDifference_21 : decode cX3_greatestDifference 21 = .ok (.if_icmp .ge 49, 3) := by decide +kernel
theorem dX3_greatestDifference_24 : decode cX3_greatestDifference 24 = .ok (.aload_n 0, 1) := by decide +kernel
theorem dX3_greatestDifference_25 : decode cX3_greatestDifference 25 = .ok (.getfield 40, 3) := by decide +kernel
theorem dX3_greatestDifference_28 : decode cX3_greatestDifference 28 = .ok (.getfield 196, 3) := by decide +kernel
theorem dX3_greatestDifference_31 : decode cX3_greatestDifference 31 = .ok (.iload_n 3, 1) := by decide +kernel
theorem dX3_greatestDifference_32 : decode cX3_greatestDifference 32 = .ok (.iaload, 1) := by decide +kernel
theorem dX3_greatestDifference_33 : decode cX3_greatestDifference 33 = .ok (.iload 4, 2) := by decide +kernel
theorem dX3_greatestDifference_35 : decode cX3_greatestDifference 35 = .ok (.invokestatic 84, 3) := by decide +kernel
theorem dX3_greatestDifference_38 : decode cX3_greatestDifference 38 = .ok (.ifCond .eq 26, 3) := by decide +kernel
theorem dX3_greatestDifference_41 : decode cX3_greatestDifference 41 = .ok (.aload_n 0, 1) := by decide +kernel
theorem dX3_greatestDifference_42 : decode cX3_greatestDifference 42 = .ok (.iload_n 3, 1) := by decide +kernel
theorem dX3_greatestDifference_43 : decode cX3_greatestDifference 43 = .ok (.iload 4, 2) := by decide +kernel
theorem dX3_greatestDifference_45 : decode cX3_greatestDifference 45 = .ok (.invokevirtual 231, 3) := by decide +kernel
theorem dX3_greatestDifference_48 : decode cX3_greatestDifference 48 = .ok (.istore 5, 2) := by decide +kernel
theorem dX3_greatestDifference_50 : decode cX3_greatestDifference 50 = .ok (.iload_n 1, 1) := by decide +kernel
theorem dX3_greatestDifference_51 : decode cX3_greatestDifference 51 = .ok (.iload 5, 2) := by decide +kernel
theorem dX3_greatestDifference_53 : decode cX3_greatestDifference 53 = .ok (.invokestatic 248, 3) := by decide +kernel
theorem dX3_greatestDifference_56 : decode cX3_greatestDifference 56 = .ok (.istore_n 1, 1) := by decide +kernel
theorem dX3_greatestDifference_57 : decode cX3_greatestDifference 57 = .ok (.iload_n 2, 1) := by decide +kernel
theorem dX3_greatestDifference_58 : decode cX3_greatestDifference 58 = .ok (.iload 5, 2) := by decide +kernel
theorem dX3_greatestDifference_60 : decode cX3_greatestDifference 60 = .ok (.invokestatic 253, 3) := by decide +kernel
theorem dX3_greatestDifference_63 : decode cX3_greatestDifference 63 = .ok (.istore_n 2, 1) := by decide +kernel
theorem dX3_greatestDifference_64 : decode cX3_greatestDifference 64 = .ok (.iinc 4 1, 3) := by decide +kernel
theorem dX3_greatestDifference_67 : decode cX3_greatestDifference 67 = .ok (.goto (-50), 3) := by decide +kernel
theorem dX3_greatestDifference_70 : decode cX3_greatestDifference 70 = .ok (.iinc 3 1, 3) := by decide +kernel
theorem dX3_greatestDifference_73 : decode cX3_greatestDifference 73 = .ok (.goto (-65), 3) := by decide +kernel
theorem dX3_greatestDifference_76 : decode cX3_greatestDifference 76 = .ok (.iload_n 1, 1) := by decide +kernel
theorem dX3_greatestDifference_77 : decode cX3_greatestDifference 77 = .ok (.iload_n 2, 1) := by decide +kernel
theorem dX3_greatestDifference_78 : decode cX3_greatestDifference 78 = .ok (.if_icmp .le 8, 3) := by decide +kernel
theorem dX3_greatestDifference_81 : decode cX3_greatestDifference 81 = .ok (.ldc 148, 2) := by decide +kernel
theorem dX3_greatestDifference_83 : decode cX3_greatestDifference 83 = .ok (.goto 6, 3) := by decide +kernel
theorem dX3_greatestDifference_86 : decode cX3_greatestDifference 86 = .ok (.iload_n 2, 1) := by decide +kernel
theorem dX3_greatestDifference_87 : decode cX3_greatestDifference 87 = .ok (.iload_n 1, 1) := by decide +kernel
theorem dX3_greatestDifference_88 : decode cX3_greatestDifference 88 = .ok (.isub, 1) := by decide +kernel
theorem dX3_greatestDifference_89 : decode cX3_greatestDifference 89 = .ok (.ireturn, 1) := by decide +kernel
theorem dX3_search_0 : decode cX3_search 0 = .ok (.iload_n 1, 1) := by decide +kernel
theorem dX3_search_1 : decode cX3_search 1 = .ok (.tableswitch 46 0 2 #[27, 32, 37], 27) := by decide +kernel
theorem dX3_search_28 : decode cX3_search 28 = .ok (.aload_n 0, 1) := by decide +kernel
theorem dX3_search_29 : decode cX3_search 29 = .ok (.invokevirtual 256, 3) := by decide +kernel
theorem dX3_search_32 : decode cX3_search 32 = .ok (.ireturn, 1) := by decide +kernel
theorem dX3_search_33 : decode cX3_search 33 = .ok (.aload_n 0, 1) := by decide +kernel
theorem dX3_search_34 : decode cX3_search 34 = .ok (.invokevirtual 259, 3) := by decide +kernel
theorem dX3_search_37 : decode cX3_search 37 = .ok (.ireturn, 1) := by decide +kernel
theorem dX3_search_38 : decode cX3_search 38 = .ok (.aload_n 0, 1) := by decide +kernel
theorem dX3_search_39 : decode cX3_search 39 = .ok (.aload_n 0, 1) := by decide +kernel
theorem dX3_search_40 : decode cX3_search 40 = .ok (.invokevirtual 256, 3) := by decide +kernel
theorem dX3_search_43 : decode cX3_search 43 = .ok (.invokevirtual 262, 3) := by decide +kernel
theorem dX3_search_46 : decode cX3_search 46 = .ok (.ireturn, 1) := by decide +kernel
theorem dX3_search_47 : decode cX3_search 47 = .ok (.ldc 51, 2) := by decide +kernel
theorem dX3_search_49 : decode cX3_search 49 = .ok (.ireturn, 1) := by decide +kernel
theorem dX3_cipheringStop_0 : decode cX3_cipheringStop 0 = .ok (.aload_n 0, 1) := by decide +kernel
theorem dX3_cipheringStop_1 : decode cX3_cipheringStop 1 = .ok (.sipush 255, 3) := by decide +kernel
theorem dX3_cipheringStop_4 : decode cX3_cipheringStop 4 = .ok (.invokevirtual 265, 3) := by decide +kernel
theorem dX3_cipheringStop_7 : decode cX3_cipheringStop 7 = .ok (.ifCond .ne 6, 3) := by decide +kernel
theorem dX3_cipheringStop_10 : decode cX3_cipheringStop 10 = .ok (.ldc 148, 2) := by decide +kernel
theorem dX3_cipheringStop_12 : decode cX3_cipheringStop 12 = .ok (.ireturn, 1) := by decide +kernel
theorem dX3_cipheringStop_13 : decode cX3_cipheringStop 13 = .ok (.iconst 0, 1) := by decide +kernel
theorem dX3_cipheringStop_14 : decode cX3_cipheringStop 14 = .ok (.istore_n 1, 1) := by decide +kernel
theorem dX3_cipheringStop_15 : decode cX3_cipheringStop 15 = .ok (.iconst 4, 1) := by decide +kernel
theorem dX3_cipheringStop_16 : decode cX3_cipheringStop 16 = .ok (.istore_n 2, 1) := by decide +kernel
theorem dX3_cipheringStop_17 : decode cX3_cipheringStop 17 = .ok (.iload_n 2, 1) := by decide +kernel
theorem dX3_cipheringStop_18 : decode cX3_cipheringStop 18 = .ok (.ifCond .le 26, 3) := by decide +kernel
theorem dX3_cipheringStop_21 : decode cX3_cipheringStop 21 = .ok (.aload_n 0, 1) := by decide +kernel
theorem dX3_cipheringStop_22 : decode cX3_cipheringStop 22 = .ok (.iload_n 1, 1) := by decide +kernel
theorem dX3_cipheringStop_23 : decode cX3_cipheringStop 23 = .ok (.iload_n 2, 1) := by decide +kernel
theorem dX3_cipheringStop_24 : decode cX3_cipheringStop 24 = .ok (.invokestatic 268, 3) := by decide +kernel
theorem dX3_cipheringStop_27 : decode cX3_cipheringStop 27 = .ok (.invokevirtual 265, 3) := by decide +kernel
theorem dX3_cipheringStop_30 : decode cX3_cipheringStop 30 = .ok (.ifCond .ne 7, 3) := by decide +kernel
theorem dX3_cipheringStop_33 : decode cX3_cipheringStop 33 = .ok (.iload_n 1, 1) := by decide +kernel
theorem dX3_cipheringStop_34 : decode cX3_cipheringStop 34 = .ok (.iload_n 2, 1) := by decide +kernel
theorem dX3_cipheringStop_35 : decode cX3_cipheringStop 35 = .ok (.iadd, 1) := by decide +kernel
theorem dX3_cipheringStop_36 : decode cX3_cipheringStop 36 = .ok (.istore_n 1, 1) := by decide +kernel
theorem dX3_cipheringStop_37 : decode cX3_cipheringStop 37 = .ok (.iload_n 2, 1) := by decide +kernel
theorem dX3_cipheringStop_38 : decode cX3_cipheringStop 38 = .ok (.iconst 2, 1) := by decide +kernel
theorem dX3_cipheringStop_39 : decode cX3_cipheringStop 39 = .ok (.idiv, 1) := by decide +kernel
theorem dX3_cipheringStop_40 : decode cX3_cipheringStop 40 = .ok (.istore_n 2, 1) := by decide +kernel
theorem dX3_cipheringStop_41 : decode cX3_cipheringStop 41 = .ok (.goto (-24), 3) := by decide +kernel
theorem dX3_cipheringStop_44 : decode cX3_cipheringStop 44 = .ok (.iload_n 1, 1) := by decide +kernel
theorem dX3_cipheringStop_45 : decode cX3_cipheringStop 45 = .ok (.ireturn, 1) := by decide +kernel
theorem dX3_testsOfSearch_0 : decode cX3_testsOfSearch 0 = .ok (.iconst 1, 1) := by decide +kernel
theorem dX3_testsOfSearch_1 : decode cX3_testsOfSearch 1 = .ok (.istore_n 1, 1) := by decide +kernel
theorem dX3_testsOfSearch_2 : decode cX3_testsOfSearch 2 = .ok (.aload_n 0, 1) := by decide +kernel
theorem dX3_testsOfSearch_3 : decode cX3_testsOfSearch 3 = .ok (.sipush 255, 3) := by decide +kernel
theorem dX3_testsOfSearch_6 : decode cX3_testsOfSearch 6 = .ok (.invokevirtual 265, 3) := by decide +kernel
theorem dX3_testsOfSearch_9 : decode cX3_testsOfSearch 9 = .ok (.ifCond .eq 19, 3) := by decide +kernel
theorem dX3_testsOfSearch_12 : decode cX3_testsOfSearch 12 = .ok (.iconst 4, 1) := by decide +kernel
theorem dX3_testsOfSearch_13 : decode cX3_testsOfSearch 13 = .ok (.istore_n 2, 1) := by decide +kernel
theorem dX3_testsOfSearch_14 : decode cX3_testsOfSearch 14 = .ok (.iload_n 2, 1) := by decide +kernel
theorem dX3_testsOfSearch_15 : decode cX3_testsOfSearch 15 = .ok (.ifCond .le 13, 3) := by decide +kernel
theorem dX3_testsOfSearch_18 : decode cX3_testsOfSearch 18 = .ok (.iinc 1 1, 3) := by decide +kernel
theorem dX3_testsOfSearch_21 : decode cX3_testsOfSearch 21 = .ok (.iload_n 2, 1) := by decide +kernel
theorem dX3_testsOfSearch_22 : decode cX3_testsOfSearch 22 = .ok (.iconst 2, 1) := by decide +kernel
theorem dX3_testsOfSearch_23 : decode cX3_testsOfSearch 23 = .ok (.idiv, 1) := by decide +kernel
theorem dX3_testsOfSearch_24 : decode cX3_testsOfSearch 24 = .ok (.istore_n 2, 1) := by decide +kernel
theorem dX3_testsOfSearch_25 : decode cX3_testsOfSearch 25 = .ok (.goto (-11), 3) := by decide +kernel
theorem dX3_testsOfSearch_28 : decode cX3_testsOfSearch 28 = .ok (.iload_n 1, 1) := by decide +kernel
theorem dX3_testsOfSearch_29 : decode cX3_testsOfSearch 29 = .ok (.ireturn, 1) := by decide +kernel
theorem dX3_lowestCipher_0 : decode cX3_lowestCipher 0 = .ok (.iconst 0, 1) := by decide +kernel
theorem dX3_lowestCipher_1 : decode cX3_lowestCipher 1 = .ok (.istore_n 2, 1) := by decide +kernel
theorem dX3_lowestCipher_2 : decode cX3_lowestCipher 2 = .ok (.iload_n 2, 1) := by decide +kernel
theorem dX3_lowestCipher_3 : decode cX3_lowestCipher 3 = .ok (.bipush 24, 2) := by decide +kernel
theorem dX3_lowestCipher_5 : decode cX3_lowestCipher 5 = .ok (.if_icmp .ge 34, 3) := by decide +kernel
theorem dX3_lowestCipher_8 : decode cX3_lowestCipher 8 = .ok (.iload_n 1, 1) := by decide +kernel
theorem dX3_lowestCipher_9 : decode cX3_lowestCipher 9 = .ok (.invokestatic 47, 3) := by decide +kernel
theorem dX3_lowestCipher_12 : decode cX3_lowestCipher 12 = .ok (.ifCond .eq 27, 3) := by decide +kernel
theorem dX3_lowestCipher_15 : decode cX3_lowestCipher 15 = .ok (.aload_n 0, 1) := by decide +kernel
theorem dX3_lowestCipher_16 : decode cX3_lowestCipher 16 = .ok (.getfield 10, 3) := by decide +kernel
theorem dX3_lowestCipher_19 : decode cX3_lowestCipher 19 = .ok (.getfield 103, 3) := by decide +kernel
theorem dX3_lowestCipher_22 : decode cX3_lowestCipher 22 = .ok (.iload_n 1, 1) := by decide +kernel
theorem dX3_lowestCipher_23 : decode cX3_lowestCipher 23 = .ok (.iaload, 1) := by decide +kernel
theorem dX3_lowestCipher_24 : decode cX3_lowestCipher 24 = .ok (.iload_n 2, 1) := by decide +kernel
theorem dX3_lowestCipher_25 : decode cX3_lowestCipher 25 = .ok (.invokestatic 84, 3) := by decide +kernel
theorem dX3_lowestCipher_28 : decode cX3_lowestCipher 28 = .ok (.ifCond .eq 5, 3) := by decide +kernel
theorem dX3_lowestCipher_31 : decode cX3_lowestCipher 31 = .ok (.iload_n 2, 1) := by decide +kernel
theorem dX3_lowestCipher_32 : decode cX3_lowestCipher 32 = .ok (.ireturn, 1) := by decide +kernel
theorem dX3_lowestCipher_33 : decode cX3_lowestCipher 33 = .ok (.iinc 2 1, 3) := by decide +kernel
theorem dX3_lowestCipher_36 : decode cX3_lowestCipher 36 = .ok (.goto (-34), 3) := by decide +kernel
theorem dX3_lowestCipher_39 : decode cX3_lowestCipher 39 = .ok (.ldc 148, 2) := by decide +kernel
theorem dX3_lowestCipher_41 : decode cX3_lowestCipher 41 = .ok (.ireturn, 1) := by decide +kernel
theorem dX3_isHeard_0 : decode cX3_isHeard 0 = .ok (.aload_n 0, 1) := by decide +kernel
theorem dX3_isHeard_1 : decode cX3_isHeard 1 = .ok (.getfield 44, 3) := by decide +kernel
theorem dX3_isHeard_4 : decode cX3_isHeard 4 = .ok (.aload_n 0, 1) := by decide +kernel
theorem dX3_isHeard_5 : decode cX3_isHeard 5 = .ok (.getfield 10, 3) := by decide +kernel
theorem dX3_isHeard_8 : decode cX3_isHeard 8 = .ok (.iload_n 1, 1) := by decide +kernel
theorem dX3_isHeard_9 : decode cX3_isHeard 9 = .ok (.iconst 0, 1) := by decide +kernel
theorem dX3_isHeard_10 : decode cX3_isHeard 10 = .ok (.invokevirtual 271, 3) := by decide +kernel
theorem dX3_isHeard_13 : decode cX3_isHeard 13 = .ok (.aload_n 0, 1) := by decide +kernel
theorem dX3_isHeard_14 : decode cX3_isHeard 14 = .ok (.getfield 44, 3) := by decide +kernel
theorem dX3_isHeard_17 : decode cX3_isHeard 17 = .ok (.getfield 196, 3) := by decide +kernel
theorem dX3_isHeard_20 : decode cX3_isHeard 20 = .ok (.invokestatic 106, 3) := by decide +kernel
theorem dX3_isHeard_23 : decode cX3_isHeard 23 = .ok (.ifCond .le 7, 3) := by decide +kernel
theorem dX3_isHeard_26 : decode cX3_isHeard 26 = .ok (.iconst 1, 1) := by decide +kernel
theorem dX3_isHeard_27 : decode cX3_isHeard 27 = .ok (.goto 4, 3) := by decide +kernel
theorem dX3_isHeard_30 : decode cX3_isHeard 30 = .ok (.iconst 0, 1) := by decide +kernel
theorem dX3_isHeard_31 : decode cX3_isHeard 31 = .ok (.ireturn, 1) := by decide +kernel
theorem dX3_robbed_0 : decode cX3_robbed 0 = .ok (.iload_n 1, 1) := by decide +kernel
theorem dX3_robbed_1 : decode cX3_robbed 1 = .ok (.invokestatic 47, 3) := by decide +kernel
theorem dX3_robbed_4 : decode cX3_robbed 4 = .ok (.ifCond .ne 6, 3) := by decide +kernel
theorem dX3_robbed_7 : decode cX3_robbed 7 = .ok (.ldc 51, 2) := by decide +kernel
theorem dX3_robbed_9 : decode cX3_robbed 9 = .ok (.ireturn, 1) := by decide +kernel
theorem dX3_robbed_10 : decode cX3_robbed 10 = .ok (.aload_n 0, 1) := by decide +kernel
theorem dX3_robbed_11 : decode cX3_robbed 11 = .ok (.getfield 10, 3) := by decide +kernel
theorem dX3_robbed_14 : decode cX3_robbed 14 = .ok (.getfield 80, 3) := by decide +kernel
theorem dX3_robbed_17 : decode cX3_robbed 17 = .ok (.iload_n 1, 1) := by decide +kernel
theorem dX3_robbed_18 : decode cX3_robbed 18 = .ok (.invokestatic 84, 3) := by decide +kernel
theorem dX3_robbed_21 : decode cX3_robbed 21 = .ok (.ifCond .eq 6, 3) := by decide +kernel
theorem dX3_robbed_24 : decode cX3_robbed 24 = .ok (.ldc 149, 2) := by decide +kernel
theorem dX3_robbed_26 : decode cX3_robbed 26 = .ok (.ireturn, 1) := by decide +kernel
theorem dX3_robbed_27 : decode cX3_robbed 27 = .ok (.aload_n 0, 1) := by decide +kernel
theorem dX3_robbed_28 : decode cX3_robbed 28 = .ok (.invokevirtual 172, 3) := by decide +kernel
theorem dX3_robbed_31 : decode cX3_robbed 31 = .ok (.aload_n 0, 1) := by decide +kernel
theorem dX3_robbed_32 : decode cX3_robbed 32 = .ok (.getfield 44, 3) := by decide +kernel
theorem dX3_robbed_35 : decode cX3_robbed 35 = .ok (.aload_n 0, 1) := by decide +kernel
theorem dX3_robbed_36 : decode cX3_robbed 36 = .ok (.getfield 10, 3) := by decide +kernel
theorem dX3_robbed_39 : decode cX3_robbed 39 = .ok (.aload_n 0, 1) := by decide +kernel
theorem dX3_robbed_40 : decode cX3_robbed 40 = .ok (.getfield 10, 3) := by decide +kernel
theorem dX3_robbed_43 : decode cX3_robbed 43 = .ok (.getfield 80, 3) := by decide +kernel
theorem dX3_robbed_46 : decode cX3_robbed 46 = .ok (.iload_n 1, 1) := by decide +kernel
theorem dX3_robbed_47 : decode cX3_robbed 47 = .ok (.iconst 1, 1) := by decide +kernel
theorem dX3_robbed_48 : decode cX3_robbed 48 = .ok (.invokestatic 111, 3) := by decide +kernel
theorem dX3_robbed_51 : decode cX3_robbed 51 = .ok (.iconst 1, 1) := by decide +kernel
theorem dX3_robbed_52 : decode cX3_robbed 52 = .ok (.invokevirtual 271, 3) := by decide +kernel
theorem dX3_robbed_55 : decode cX3_robbed 55 = .ok (.iconst 0, 1) := by decide +kernel
theorem dX3_robbed_56 : decode cX3_robbed 56 = .ok (.istore_n 2, 1) := by decide +kernel
theorem dX3_robbed_57 : decode cX3_robbed 57 = .ok (.iconst 0, 1) := by decide +kernel
theorem dX3_robbed_58 : decode cX3_robbed 58 = .ok (.istore_n 3, 1) := by decide +kernel
theorem dX3_robbed_59 : decode cX3_robbed 59 = .ok (.iload_n 3, 1) := by decide +kernel
theorem dX3_robbed_60 : decode cX3_robbed 60 = .ok (.bipush 8, 2) := by decide +kernel
theorem dX3_robbed_62 : decode cX3_robbed 62 = .ok (.if_icmp .ge 36, 3) := by decide +kernel
theorem dX3_robbed_65 : decode cX3_robbed 65 = .ok (.iload_n 2, 1) := by decide +kernel
theorem dX3_robbed_66 : decode cX3_robbed 66 = .ok (.aload_n 0, 1) := by decide +kernel
theorem dX3_robbed_67 : decode cX3_robbed 67 = .ok (.getfield 40, 3) := by decide +kernel
theorem dX3_robbed_70 : decode cX3_robbed 70 = .ok (.getfield 196, 3) := by decide +kernel
theorem dX3_robbed_73 : decode cX3_robbed 73 = .ok (.iload_n 3, 1) := by decide +kernel
theorem dX3_robbed_74 : decode cX3_robbed 74 = .ok (.iaload, 1) := by decide +kernel
theorem dX3_robbed_75 : decode cX3_robbed 75 = .ok (.aload_n 0, 1) := by decide +kernel
theorem dX3_robbed_76 : decode cX3_robbed 76 = .ok (.getfield 44, 3) := by decide +kernel
theorem dX3_robbed_79 : decode cX3_robbed 79 = .ok (.getfield 196, 3) := by decide +kernel
theorem dX3_robbed_82 : decode cX3_robbed 82 = .ok (.iload_n 3, 1) := by decide +kernel
theorem dX3_robbed_83 : decode cX3_robbed 83 = .ok (.iaload, 1) := by decide +kernel
theorem dX3_robbed_84 : decode cX3_robbed 84 = .ok (.iconst (-1), 1) := by decide +kernel
theorem dX3_robbed_85 : decode cX3_robbed 85 = .ok (.ixor, 1) := by decide +kernel
theorem dX3_robbed_86 : decode cX3_robbed 86 = .ok (.iand, 1) := by decide +kernel
theorem dX3_robbed_87 : decode cX3_robbed 87 = .ok (.invokestatic 115, 3) := by decide +kernel
theorem dX3_robbed_90 : decode cX3_robbed 90 = .ok (.iadd, 1) := by decide +kernel
theorem dX3_robbed_91 : decode cX3_robbed 91 = .ok (.istore_n 2, 1) := by decide +kernel
theorem dX3_robbed_92 : decode cX3_robbed 92 = .ok (.iinc 3 1, 3) := by decide +kernel
theorem dX3_robbed_95 : decode cX3_robbed 95 = .ok (.goto (-36), 3) := by decide +kernel
theorem dX3_robbed_98 : decode cX3_robbed 98 = .ok (.iload_n 2, 1) := by decide +kernel
theorem dX3_robbed_99 : decode cX3_robbed 99 = .ok (.ireturn, 1) := by decide +kernel
theorem dX3_lowest_0 : decode cX3_lowest 0 = .ok (.iload_n 1, 1) := by decide +kernel
theorem dX3_lowest_1 : decode cX3_lowest 1 = .ok (.iconst 1, 1) := by decide +kernel
theorem dX3_lowest_2 : decode cX3_lowest 2 = .ok (.sipush 1000, 3) := by decide +kernel
theorem dX3_lowest_5 : decode cX3_lowest 5 = .ok (.invokestatic 55, 3) := by decide +kernel
theorem dX3_lowest_8 : decode cX3_lowest 8 = .ok (.ifCond .ne 6, 3) := by decide +kernel
theorem dX3_lowest_11 : decode cX3_lowest 11 = .ok (.ldc 59, 2) := by decide +kernel
theorem dX3_lowest_13 : decode cX3_lowest 13 = .ok (.ireturn, 1) := by decide +kernel
theorem dX3_lowest_14 : decode cX3_lowest 14 = .ok (.aload_n 0, 1) := by decide +kernel
theorem dX3_lowest_15 : decode cX3_lowest 15 = .ok (.getfield 10, 3) := by decide +kernel
theorem dX3_lowest_18 : decode cX3_lowest 18 = .ok (.aload_n 0, 1) := by decide +kernel
theorem dX3_lowest_19 : decode cX3_lowest 19 = .ok (.getfield 16, 3) := by decide +kernel
theorem dX3_lowest_22 : decode cX3_lowest 22 = .ok (.invokestatic 275, 3) := by decide +kernel
theorem dX3_lowest_25 : decode cX3_lowest 25 = .ok (.aload_n 0, 1) := by decide +kernel
theorem dX3_lowest_26 : decode cX3_lowest 26 = .ok (.aload_n 0, 1) := by decide +kernel
theorem dX3_lowest_27 : decode cX3_lowest 27 = .ok (.getfield 16, 3) := by decide +kernel
theorem dX3_lowest_30 : decode cX3_lowest 30 = .ok (.iload_n 1, 1) := by decide +kernel
theorem dX3_lowest_31 : decode cX3_lowest 31 = .ok (.invokevirtual 131, 3) := by decide +kernel
theorem dX3_lowest_34 : decode cX3_lowest 34 = .ok (.ireturn, 1) := by decide +kernel
theorem dX3_undo_0 : decode cX3_undo 0 = .ok (.aload_n 0, 1) := by decide +kernel
theorem dX3_undo_1 : decode cX3_undo 1 = .ok (.getfield 279, 3) := by decide +kernel
theorem dX3_undo_4 : decode cX3_undo 4 = .ok (.iconst 1, 1) := by decide +kernel
theorem dX3_undo_5 : decode cX3_undo 5 = .ok (.iconst 5, 1) := by decide +kernel
theorem dX3_undo_6 : decode cX3_undo 6 = .ok (.invokestatic 55, 3) := by decide +kernel
theorem dX3_undo_9 : decode cX3_undo 9 = .ok (.ifCond .ne 6, 3) := by decide +kernel
theorem dX3_undo_12 : decode cX3_undo 12 = .ok (.ldc 149, 2) := by decide +kernel
theorem dX3_undo_14 : decode cX3_undo 14 = .ok (.ireturn, 1) := by decide +kernel
theorem dX3_undo_15 : decode cX3_undo 15 = .ok (.aload_n 0, 1) := by decide +kernel
theorem dX3_undo_16 : decode cX3_undo 16 = .ok (.dup, 1) := by decide +kernel
theorem dX3_undo_17 : decode cX3_undo 17 = .ok (.getfield 279, 3) := by decide +kernel
theorem dX3_undo_20 : decode cX3_undo 20 = .ok (.iconst 1, 1) := by decide +kernel
theorem dX3_undo_21 : decode cX3_undo 21 = .ok (.isub, 1) := by decide +kernel
theorem dX3_undo_22 : decode cX3_undo 22 = .ok (.putfield 279, 3) := by decide +kernel
theorem dX3_undo_25 : decode cX3_undo 25 = .ok (.aload_n 0, 1) := by decide +kernel
theorem dX3_undo_26 : decode cX3_undo 26 = .ok (.getfield 19, 3) := by decide +kernel
theorem dX3_undo_29 : decode cX3_undo 29 = .ok (.aload_n 0, 1) := by decide +kernel
theorem dX3_undo_30 : decode cX3_undo 30 = .ok (.getfield 279, 3) := by decide +kernel
theorem dX3_undo_33 : decode cX3_undo 33 = .ok (.aaload, 1) := by decide +kernel
theorem dX3_undo_34 : decode cX3_undo 34 = .ok (.aload_n 0, 1) := by decide +kernel
theorem dX3_undo_35 : decode cX3_undo 35 = .ok (.getfield 10, 3) := by decide +kernel
theorem dX3_undo_38 : decode cX3_undo 38 = .ok (.invokestatic 275, 3) := by decide +kernel
theorem dX3_undo_41 : decode cX3_undo 41 = .ok (.aload_n 0, 1) := by decide +kernel
theorem dX3_undo_42 : decode cX3_undo 42 = .ok (.getfield 279, 3) := by decide +kernel
theorem dX3_undo_45 : decode cX3_undo 45 = .ok (.ireturn, 1) := by decide +kernel
theorem dX3_save_0 : decode cX3_save 0 = .ok (.iload_n 1, 1) := by decide +kernel
theorem dX3_save_1 : decode cX3_save 1 = .ok (.invokestatic 282, 3) := by decide +kernel
theorem dX3_save_4 : decode cX3_save 4 = .ok (.ifCond .ne 6, 3) := by decide +kernel
theorem dX3_save_7 : decode cX3_save 7 = .ok (.ldc 51, 2) := by decide +kernel
theorem dX3_save_9 : decode cX3_save 9 = .ok (.ireturn, 1) := by decide +kernel
theorem dX3_save_10 : decode cX3_save 10 = .ok (.aload_n 0, 1) := by decide +kernel
theorem dX3_save_11 : decode cX3_save 11 = .ok (.getfield 10, 3) := by decide +kernel
theorem dX3_save_14 : decode cX3_save 14 = .ok (.aload_n 0, 1) := by decide +kernel
theorem dX3_save_15 : decode cX3_save 15 = .ok (.getfield 23, 3) := by decide +kernel
theorem dX3_save_18 : decode cX3_save 18 = .ok (.iload_n 1, 1) := by decide +kernel
theorem dX3_save_19 : decode cX3_save 19 = .ok (.aaload, 1) := by decide +kernel
theorem dX3_save_20 : decode cX3_save 20 = .ok (.invokestatic 275, 3) := by decide +kernel
theorem dX3_save_23 : decode cX3_save 23 = .ok (.aload_n 0, 1) := by decide +kernel
theorem dX3_save_24 : decode cX3_save 24 = .ok (.getfield 26, 3) := by decide +kernel
theorem dX3_save_27 : decode cX3_save 27 = .ok (.iload_n 1, 1) := by decide +kernel
theorem dX3_save_28 : decode cX3_save 28 = .ok (.iconst 1, 1) := by decide +kernel
theorem dX3_save_29 : decode cX3_save 29 = .ok (.bastore, 1) := by decide +kernel
theorem dX3_save_30 : decode cX3_save 30 = .ok (.aload_n 0, 1) := by decide +kernel
theorem dX3_save_31 : decode cX3_save 31 = .ok (.getfield 10, 3) := by decide +kernel
theorem dX3_save_34 : decode cX3_save 34 = .ok (.getfield 181, 3) := by decide +kernel
theorem dX3_save_37 : decode cX3_save 37 = .ok (.ireturn, 1) := by decide +kernel
theorem dX3_restore_0 : decode cX3_restore 0 = .ok (.iload_n 1, 1) := by decide +kernel
theorem dX3_restore_1 : decode cX3_restore 1 = .ok (.invokestatic 282, 3) := by decide +kernel
theorem dX3_restore_4 : decode cX3_restore 4 = .ok (.ifCond .ne 6, 3) := by decide +kernel
theorem dX3_restore_7 : decode cX3_restore 7 = .ok (.ldc 51, 2) := by decide +kernel
theorem dX3_restore_9 : decode cX3_restore 9 = .ok (.ireturn, 1) := by decide +kernel
theorem dX3_restore_10 : decode cX3_restore 10 = .ok (.aload_n 0, 1) := by decide +kernel
theorem dX3_restore_11 : decode cX3_restore 11 = .ok (.getfield 26, 3) := by decide +kernel
theorem dX3_restore_14 : decode cX3_restore 14 = .ok (.iload_n 1, 1) := by decide +kernel
theorem dX3_restore_15 : decode cX3_restore 15 = .ok (.baload, 1) := by decide +kernel
theorem dX3_restore_16 : decode cX3_restore 16 = .ok (.ifCond .ne 6, 3) := by decide +kernel
theorem dX3_restore_19 : decode cX3_restore 19 = .ok (.ldc 149, 2) := by decide +kernel
theorem dX3_restore_21 : decode cX3_restore 21 = .ok (.ireturn, 1) := by decide +kernel
theorem dX3_restore_22 : decode cX3_restore 22 = .ok (.aload_n 0, 1) := by decide +kernel
theorem dX3_restore_23 : decode cX3_restore 23 = .ok (.invokevirtual 60, 3) := by decide +kernel
theorem dX3_restore_26 : decode cX3_restore 26 = .ok (.aload_n 0, 1) := by decide +kernel
theorem dX3_restore_27 : decode cX3_restore 27 = .ok (.getfield 23, 3) := by decide +kernel
theorem dX3_restore_30 : decode cX3_restore 30 = .ok (.iload_n 1, 1) := by decide +kernel
theorem dX3_restore_31 : decode cX3_restore 31 = .ok (.aaload, 1) := by decide +kernel
theorem dX3_restore_32 : decode cX3_restore 32 = .ok (.aload_n 0, 1) := by decide +kernel
theorem dX3_restore_33 : decode cX3_restore 33 = .ok (.getfield 10, 3) := by decide +kernel
theorem dX3_restore_36 : decode cX3_restore 36 = .ok (.invokestatic 275, 3) := by decide +kernel
theorem dX3_restore_39 : decode cX3_restore 39 = .ok (.aload_n 0, 1) := by decide +kernel
theorem dX3_restore_40 : decode cX3_restore 40 = .ok (.getfield 10, 3) := by decide +kernel
theorem dX3_restore_43 : decode cX3_restore 43 = .ok (.getfield 181, 3) := by decide +kernel
theorem dX3_restore_46 : decode cX3_restore 46 = .ok (.ireturn, 1) := by decide +kernel
theorem dX3_checksum_0 : decode cX3_checksum 0 = .ok (.aload_n 0, 1) := by decide +kernel
theorem dX3_checksum_1 : decode cX3_checksum 1 = .ok (.invokevirtual 172, 3) := by decide +kernel
theorem dX3_checksum_4 : decode cX3_checksum 4 = .ok (.ldc2_w 285, 3) := by decide +kernel
theorem dX3_checksum_7 : decode cX3_checksum 7 = .ok (.lstore_n 1, 1) := by decide +kernel
theorem dX3_checksum_8 : decode cX3_checksum 8 = .ok (.iconst 0, 1) := by decide +kernel
theorem dX3_checksum_9 : decode cX3_checksum 9 = .ok (.istore_n 3, 1) := by decide +kernel
theorem dX3_checksum_10 : decode cX3_checksum 10 = .ok (.iload_n 3, 1) := by decide +kernel
theorem dX3_checksum_11 : decode cX3_checksum 11 = .ok (.bipush 8, 2) := by decide +kernel
theorem dX3_checksum_13 : decode cX3_checksum 13 = .ok (.if_icmp .ge 36, 3) := by decide +kernel
theorem dX3_checksum_16 : decode cX3_checksum 16 = .ok (.iconst 0, 1) := by decide +kernel
theorem dX3_checksum_17 : decode cX3_checksum 17 = .ok (.istore 4, 2) := by decide +kernel
theorem dX3_checksum_19 : decode cX3_checksum 19 = .ok (.iload 4, 2) := by decide +kernel
theorem dX3_checksum_21 : decode cX3_checksum 21 = .ok (.iconst 5, 1) := by decide +kernel
theorem dX3_checksum_22 : decode cX3_checksum 22 = .ok (.if_icmp .ge 21, 3) := by decide +kernel
theorem dX3_checksum_25 : decode cX3_checksum 25 = .ok (.lload_n 1, 1) := by decide +kernel
theorem dX3_checksum_26 : decode cX3_checksum 26 = .ok (.aload_n 0, 1) := by decide +kernel
theorem dX3_checksum_27 : decode cX3_checksum 27 = .ok (.iload_n 3, 1) := by decide +kernel
theorem dX3_checksum_28 : decode cX3_checksum 28 = .ok (.iload 4, 2) := by decide +kernel
theorem dX3_checksum_30 : decode cX3_checksum 30 = .ok (.invokevirtual 287, 3) := by decide +kernel
theorem dX3_checksum_33 : decode cX3_checksum 33 = .ok (.invokestatic 290, 3) := by decide +kernel
theorem dX3_checksum_36 : decode cX3_checksum 36 = .ok (.lstore_n 1, 1) := by decide +kernel
theorem dX3_checksum_37 : decode cX3_checksum 37 = .ok (.iinc 4 1, 3) := by decide +kernel
theorem dX3_checksum_40 : decode cX3_checksum 40 = .ok (.goto (-21), 3) := by decide +kernel
theorem dX3_checksum_43 : decode cX3_checksum 43 = .ok (.iinc 3 1, 3) := by decide +kernel
theorem dX3_checksum_46 : decode cX3_checksum 46 = .ok (.goto (-36), 3) := by decide +kernel
theorem dX3_checksum_49 : decode cX3_checksum 49 = .ok (.iconst 0, 1) := by decide +kernel
theorem dX3_checksum_50 : decode cX3_checksum 50 = .ok (.istore_n 3, 1) := by decide +kernel
theorem dX3_checksum_51 : decode cX3_checksum 51 = .ok (.iload_n 3, 1) := by decide +kernel
theorem dX3_checksum_52 : decode cX3_checksum 52 = .ok (.bipush 9, 2) := by decide +kernel
theorem dX3_checksum_54 : decode cX3_checksum 54 = .ok (.if_icmp .ge 23, 3) := by decide +kernel
theorem dX3_checksum_57 : decode cX3_checksum 57 = .ok (.lload_n 1, 1) := by decide +kernel
theorem dX3_checksum_58 : decode cX3_checksum 58 = .ok (.aload_n 0, 1) := by decide +kernel
theorem dX3_checksum_59 : decode cX3_checksum 59 = .ok (.getfield 10, 3) := by decide +kernel
theorem dX3_checksum_62 : decode cX3_checksum 62 = .ok (.getfield 97, 3) := by decide +kernel
theorem dX3_checksum_65 : decode cX3_checksum 65 = .ok (.iload_n 3, 1) := by decide +kernel
theorem dX3_checksum_66 : decode cX3_checksum 66 = .ok (.iaload, 1) := by decide +kernel
theorem dX3_checksum_67 : decode cX3_checksum 67 = .ok (.invokestatic 290, 3) := by decide +kernel
theorem dX3_checksum_70 : decode cX3_checksum 70 = .ok (.lstore_n 1, 1) := by decide +kernel
theorem dX3_checksum_71 : decode cX3_checksum 71 = .ok (.iinc 3 1, 3) := by decide +kernel
theorem dX3_checksum_74 : decode cX3_checksum 74 = .ok (.goto (-23), 3) := by decide +kernel
theorem dX3_checksum_77 : decode cX3_checksum 77 = .ok (.iconst 0, 1) := by decide +kernel
theorem dX3_checksum_78 : decode cX3_checksum 78 = .ok (.istore_n 3, 1) := by decide +kernel
theorem dX3_checksum_79 : decode cX3_checksum 79 = .ok (.iload_n 3, 1) := by decide +kernel
theorem dX3_checksum_80 : decode cX3_checksum 80 = .ok (.bipush 10, 2) := by decide +kernel
theorem dX3_checksum_82 : decode cX3_checksum 82 = .ok (.if_icmp .ge 19, 3) := by decide +kernel
theorem dX3_checksum_85 : decode cX3_checksum 85 = .ok (.lload_n 1, 1) := by decide +kernel
theorem dX3_checksum_86 : decode cX3_checksum 86 = .ok (.aload_n 0, 1) := by decide +kernel
theorem dX3_checksum_87 : decode cX3_checksum 87 = .ok (.iload_n 3, 1) := by decide +kernel
theorem dX3_checksum_88 : decode cX3_checksum 88 = .ok (.invokevirtual 175, 3) := by decide +kernel
theorem dX3_checksum_91 : decode cX3_checksum 91 = .ok (.invokestatic 290, 3) := by decide +kernel
theorem dX3_checksum_94 : decode cX3_checksum 94 = .ok (.lstore_n 1, 1) := by decide +kernel
theorem dX3_checksum_95 : decode cX3_checksum 95 = .ok (.iinc 3 1, 3) := by decide +kernel
theorem dX3_checksum_98 : decode cX3_checksum 98 = .ok (.goto (-19), 3) := by decide +kernel
theorem dX3_checksum_101 : decode cX3_checksum 101 = .ok (.iconst 0, 1) := by decide +kernel
theorem dX3_checksum_102 : decode cX3_checksum 102 = .ok (.istore_n 3, 1) := by decide +kernel
theorem dX3_checksum_103 : decode cX3_checksum 103 = .ok (.iload_n 3, 1) := by decide +kernel
theorem dX3_checksum_104 : decode cX3_checksum 104 = .ok (.iconst 2, 1) := by decide +kernel
theorem dX3_checksum_105 : decode cX3_checksum 105 = .ok (.if_icmp .ge 36, 3) := by decide +kernel
theorem dX3_checksum_108 : decode cX3_checksum 108 = .ok (.iconst 0, 1) := by decide +kernel
theorem dX3_checksum_109 : decode cX3_checksum 109 = .ok (.istore 4, 2) := by decide +kernel
theorem dX3_checksum_111 : decode cX3_checksum 111 = .ok (.iload 4, 2) := by decide +kernel
theorem dX3_checksum_113 : decode cX3_checksum 113 = .ok (.iconst 3, 1) := by decide +kernel
theorem dX3_checksum_114 : decode cX3_checksum 114 = .ok (.if_icmp .ge 21, 3) := by decide +kernel
theorem dX3_checksum_117 : decode cX3_checksum 117 = .ok (.lload_n 1, 1) := by decide +kernel
theorem dX3_checksum_118 : decode cX3_checksum 118 = .ok (.aload_n 0, 1) := by decide +kernel
theorem dX3_checksum_119 : decode cX3_checksum 119 = .ok (.iload_n 3, 1) := by decide +kernel
theorem dX3_checksum_120 : decode cX3_checksum 120 = .ok (.iload 4, 2) := by decide +kernel
theorem dX3_checksum_122 : decode cX3_checksum 122 = .ok (.invokevirtual 202, 3) := by decide +kernel
theorem dX3_checksum_125 : decode cX3_checksum 125 = .ok (.invokestatic 290, 3) := by decide +kernel
theorem dX3_checksum_128 : decode cX3_checksum 128 = .ok (.lstore_n 1, 1) := by decide +kernel
theorem dX3_checksum_129 : decode cX3_checksum 129 = .ok (.iinc 4 1, 3) := by decide +kernel
theorem dX3_checksum_132 : decode cX3_checksum 132 = .ok (.goto (-21), 3) := by decide +kernel
theorem dX3_checksum_135 : decode cX3_checksum 135 = .ok (.iinc 3 1, 3) := by decide +kernel
theorem dX3_checksum_138 : decode cX3_checksum 138 = .ok (.goto (-35), 3) := by decide +kernel
theorem dX3_checksum_141 : decode cX3_checksum 141 = .ok (.iconst 0, 1) := by decide +kernel
theorem dX3_checksum_142 : decode cX3_checksum 142 = .ok (.istore_n 3, 1) := by decide +kernel
theorem dX3_checksum_143 : decode cX3_checksum 143 = .ok (.iload_n 3, 1) := by decide +kernel
theorem dX3_checksum_144 : decode cX3_checksum 144 = .ok (.iconst 2, 1) := by decide +kernel
theorem dX3_checksum_145 : decode cX3_checksum 145 = .ok (.if_icmp .ge 23, 3) := by decide +kernel
theorem dX3_checksum_148 : decode cX3_checksum 148 = .ok (.lload_n 1, 1) := by decide +kernel
theorem dX3_checksum_149 : decode cX3_checksum 149 = .ok (.aload_n 0, 1) := by decide +kernel
theorem dX3_checksum_150 : decode cX3_checksum 150 = .ok (.getfield 10, 3) := by decide +kernel
theorem dX3_checksum_153 : decode cX3_checksum 153 = .ok (.getfield 214, 3) := by decide +kernel
theorem dX3_checksum_156 : decode cX3_checksum 156 = .ok (.iload_n 3, 1) := by decide +kernel
theorem dX3_checksum_157 : decode cX3_checksum 157 = .ok (.iaload, 1) := by decide +kernel
theorem dX3_checksum_158 : decode cX3_checksum 158 = .ok (.invokestatic 290, 3) := by decide +kernel
theorem dX3_checksum_161 : decode cX3_checksum 161 = .ok (.lstore_n 1, 1) := by decide +kernel
theorem dX3_checksum_162 : decode cX3_checksum 162 = .ok (.iinc 3 1, 3) := by decide +kernel
theorem dX3_checksum_165 : decode cX3_checksum 165 = .ok (.goto (-22), 3) := by decide +kernel
theorem dX3_checksum_168 : decode cX3_checksum 168 = .ok (.aload_n 0, 1) := by decide +kernel
theorem dX3_checksum_169 : decode cX3_checksum 169 = .ok (.lload_n 1, 1) := by decide +kernel
theorem dX3_checksum_170 : decode cX3_checksum 170 = .ok (.invokevirtual 294, 3) := by decide +kernel
theorem dX3_checksum_173 : decode cX3_checksum 173 = .ok (.lstore_n 1, 1) := by decide +kernel
theorem dX3_checksum_174 : decode cX3_checksum 174 = .ok (.lload_n 1, 1) := by decide +kernel
theorem dX3_checksum_175 : decode cX3_checksum 175 = .ok (.aload_n 0, 1) := by decide +kernel
theorem dX3_checksum_176 : decode cX3_checksum 176 = .ok (.invokevirtual 243, 3) := by decide +kernel
theorem dX3_checksum_179 : decode cX3_checksum 179 = .ok (.invokestatic 290, 3) := by decide +kernel
theorem dX3_checksum_182 : decode cX3_checksum 182 = .ok (.lstore_n 1, 1) := by decide +kernel
theorem dX3_checksum_183 : decode cX3_checksum 183 = .ok (.lload_n 1, 1) := by decide +kernel
theorem dX3_checksum_184 : decode cX3_checksum 184 = .ok (.aload_n 0, 1) := by decide +kernel
theorem dX3_checksum_185 : decode cX3_checksum 185 = .ok (.invokevirtual 256, 3) := by decide +kernel
theorem dX3_checksum_188 : decode cX3_checksum 188 = .ok (.invokestatic 290, 3) := by decide +kernel
theorem dX3_checksum_191 : decode cX3_checksum 191 = .ok (.lstore_n 1, 1) := by decide +kernel
theorem dX3_checksum_192 : decode cX3_checksum 192 = .ok (.lload_n 1, 1) := by decide +kernel
theorem dX3_checksum_193 : decode cX3_checksum 193 = .ok (.aload_n 0, 1) := by decide +kernel
theorem dX3_checksum_194 : decode cX3_checksum 194 = .ok (.invokevirtual 259, 3) := by decide +kernel
theorem dX3_checksum_197 : decode cX3_checksum 197 = .ok (.invokestatic 290, 3) := by decide +kernel
theorem dX3_checksum_200 : decode cX3_checksum 200 = .ok (.lreturn, 1) := by decide +kernel
theorem dX3_mixOpenPipes_0 : decode cX3_mixOpenPipes 0 = .ok (.lload_n 1, 1) := by decide +kernel
theorem dX3_mixOpenPipes_1 : decode cX3_mixOpenPipes 1 = .ok (.lstore_n 3, 1) := by decide +kernel
theorem dX3_mixOpenPipes_2 : decode cX3_mixOpenPipes 2 = .ok (.iconst 0, 1) := by decide +kernel
theorem dX3_mixOpenPipes_3 : decode cX3_mixOpenPipes 3 = .ok (.istore 5, 2) := by decide +kernel
theorem dX3_mixOpenPipes_5 : decode cX3_mixOpenPipes 5 = .ok (.iload 5, 2) := by decide +kernel
theorem dX3_mixOpenPipes_7 : decode cX3_mixOpenPipes 7 = .ok (.bipush 8, 2) := by decide +kernel
theorem dX3_mixOpenPipes_9 : decode cX3_mixOpenPipes 9 = .ok (.if_icmp .ge 99, 3) := by decide +kernel
theorem dX3_mixOpenPipes_12 : decode cX3_mixOpenPipes 12 = .ok (.iconst 0, 1) := by decide +kernel
theorem dX3_mixOpenPipes_13 : decode cX3_mixOpenPipes 13 = .ok (.istore 6, 2) := by decide +kernel
theorem dX3_mixOpenPipes_15 : decode cX3_mixOpenPipes 15 = .ok (.iload 6, 2) := by decide +kernel
theorem dX3_mixOpenPipes_17 : decode cX3_mixOpenPipes 17 = .ok (.bipush 24, 2) := by decide +kernel
theorem dX3_mixOpenPipes_19 : decode cX3_mixOpenPipes 19 = .ok (.if_icmp .ge 83, 3) := by decide +kernel
theorem dX3_mixOpenPipes_22 : decode cX3_mixOpenPipes 22 = .ok (.aload_n 0, 1) := by decide +kernel
theorem dX3_mixOpenPipes_23 : decode cX3_mixOpenPipes 23 = .ok (.getfield 40, 3) := by decide +kernel
theorem dX3_mixOpenPipes_26 : decode cX3_mixOpenPipes 26 = .ok (.getfield 193, 3) := by decide +kernel
theorem dX3_mixOpenPipes_29 : decode cX3_mixOpenPipes 29 = .ok (.iload 5, 2) := by decide +kernel
theorem dX3_mixOpenPipes_31 : decode cX3_mixOpenPipes 31 = .ok (.iaload, 1) := by decide +kernel
theorem dX3_mixOpenPipes_32 : decode cX3_mixOpenPipes 32 = .ok (.iload 6, 2) := by decide +kernel
theorem dX3_mixOpenPipes_34 : decode cX3_mixOpenPipes 34 = .ok (.invokestatic 84, 3) := by decide +kernel
theorem dX3_mixOpenPipes_37 : decode cX3_mixOpenPipes 37 = .ok (.ifCond .eq 59, 3) := by decide +kernel
theorem dX3_mixOpenPipes_40 : decode cX3_mixOpenPipes 40 = .ok (.lload_n 3, 1) := by decide +kernel
theorem dX3_mixOpenPipes_41 : decode cX3_mixOpenPipes 41 = .ok (.bipush 100, 2) := by decide +kernel
theorem dX3_mixOpenPipes_43 : decode cX3_mixOpenPipes 43 = .ok (.iload 5, 2) := by decide +kernel
theorem dX3_mixOpenPipes_45 : decode cX3_mixOpenPipes 45 = .ok (.imul, 1) := by decide +kernel
theorem dX3_mixOpenPipes_46 : decode cX3_mixOpenPipes 46 = .ok (.iload 6, 2) := by decide +kernel
theorem dX3_mixOpenPipes_48 : decode cX3_mixOpenPipes 48 = .ok (.iadd, 1) := by decide +kernel
theorem dX3_mixOpenPipes_49 : decode cX3_mixOpenPipes 49 = .ok (.invokestatic 290, 3) := by decide +kernel
theorem dX3_mixOpenPipes_52 : decode cX3_mixOpenPipes 52 = .ok (.lstore_n 3, 1) := by decide +kernel
theorem dX3_mixOpenPipes_53 : decode cX3_mixOpenPipes 53 = .ok (.iconst 0, 1) := by decide +kernel
theorem dX3_mixOpenPipes_54 : decode cX3_mixOpenPipes 54 = .ok (.istore 7, 2) := by decide +kernel
theorem dX3_mixOpenPipes_56 : decode cX3_mixOpenPipes 56 = .ok (.iload 7, 2) := by decide +kernel
theorem dX3_mixOpenPipes_58 : decode cX3_mixOpenPipes 58 = .ok (.iconst 5, 1) := by decide +kernel
theorem dX3_mixOpenPipes_59 : decode cX3_mixOpenPipes 59 = .ok (.if_icmp .ge 24, 3) := by decide +kernel
theorem dX3_mixOpenPipes_62 : decode cX3_mixOpenPipes 62 = .ok (.lload_n 3, 1) := by decide +kernel
theorem dX3_mixOpenPipes_63 : decode cX3_mixOpenPipes 63 = .ok (.aload_n 0, 1) := by decide +kernel
theorem dX3_mixOpenPipes_64 : decode cX3_mixOpenPipes 64 = .ok (.iload 5, 2) := by decide +kernel
theorem dX3_mixOpenPipes_66 : decode cX3_mixOpenPipes 66 = .ok (.iload 6, 2) := by decide +kernel
theorem dX3_mixOpenPipes_68 : decode cX3_mixOpenPipes 68 = .ok (.iload 7, 2) := by decide +kernel
theorem dX3_mixOpenPipes_70 : decode cX3_mixOpenPipes 70 = .ok (.invokevirtual 217, 3) := by decide +kernel
theorem dX3_mixOpenPipes_73 : decode cX3_mixOpenPipes 73 = .ok (.invokestatic 290, 3) := by decide +kernel
theorem dX3_mixOpenPipes_76 : decode cX3_mixOpenPipes 76 = .ok (.lstore_n 3, 1) := by decide +kernel
theorem dX3_mixOpenPipes_77 : decode cX3_mixOpenPipes 77 = .ok (.iinc 7 1, 3) := by decide +kernel
theorem dX3_mixOpenPipes_80 : decode cX3_mixOpenPipes 80 = .ok (.goto (-24), 3) := by decide +kernel
theorem dX3_mixOpenPipes_83 : decode cX3_mixOpenPipes 83 = .ok (.lload_n 3, 1) := by decide +kernel
theorem dX3_mixOpenPipes_84 : decode cX3_mixOpenPipes 84 = .ok (.aload_n 0, 1) := by decide +kernel
theorem dX3_mixOpenPipes_85 : decode cX3_mixOpenPipes 85 = .ok (.iload 5, 2) := by decide +kernel
theorem dX3_mixOpenPipes_87 : decode cX3_mixOpenPipes 87 = .ok (.iload 6, 2) := by decide +kernel
theorem dX3_mixOpenPipes_89 : decode cX3_mixOpenPipes 89 = .ok (.invokevirtual 234, 3) := by decide +kernel
theorem dX3_mixOpenPipes_92 : decode cX3_mixOpenPipes 92 = .ok (.invokestatic 290, 3) := by decide +kernel
theorem dX3_mixOpenPipes_95 : decode cX3_mixOpenPipes 95 = .ok (.lstore_n 3, 1) := by decide +kernel
theorem dX3_mixOpenPipes_96 : decode cX3_mixOpenPipes 96 = .ok (.iinc 6 1, 3) := by decide +kernel
theorem dX3_mixOpenPipes_99 : decode cX3_mixOpenPipes 99 = .ok (.goto (-84), 3) := by decide +kernel
theorem dX3_mixOpenPipes_102 : decode cX3_mixOpenPipes 102 = .ok (.iinc 5 1, 3) := by decide +kernel
theorem dX3_mixOpenPipes_105 : decode cX3_mixOpenPipes 105 = .ok (.goto (-100), 3) := by decide +kernel
theorem dX3_mixOpenPipes_108 : decode cX3_mixOpenPipes 108 = .ok (.lload_n 3, 1) := by decide +kernel
theorem dX3_mixOpenPipes_109 : decode cX3_mixOpenPipes 109 = .ok (.lreturn, 1) := by decide +kernel
theorem dX3_mix_0 : decode cX3_mix 0 = .ok (.ldc2_w 298, 3) := by decide +kernel
theorem dX3_mix_3 : decode cX3_mix 3 = .ok (.lload_n 0, 1) := by decide +kernel
theorem dX3_mix_4 : decode cX3_mix 4 = .ok (.lmul, 1) := by decide +kernel
theorem dX3_mix_5 : decode cX3_mix 5 = .ok (.iload_n 2, 1) := by decide +kernel
theorem dX3_mix_6 : decode cX3_mix 6 = .ok (.i2l, 1) := by decide +kernel
theorem dX3_mix_7 : decode cX3_mix 7 = .ok (.ladd, 1) := by decide +kernel
theorem dX3_mix_8 : decode cX3_mix 8 = .ok (.lreturn, 1) := by decide +kernel
theorem dX3_readWind_0 : decode cX3_readWind 0 = .ok (.aload_n 0, 1) := by decide +kernel
theorem dX3_readWind_1 : decode cX3_readWind 1 = .ok (.getfield 40, 3) := by decide +kernel
theorem dX3_readWind_4 : decode cX3_readWind 4 = .ok (.aload_n 0, 1) := by decide +kernel
theorem dX3_readWind_5 : decode cX3_readWind 5 = .ok (.getfield 10, 3) := by decide +kernel
theorem dX3_readWind_8 : decode cX3_readWind 8 = .ok (.aload_n 0, 1) := by decide +kernel
theorem dX3_readWind_9 : decode cX3_readWind 9 = .ok (.getfield 10, 3) := by decide +kernel
theorem dX3_readWind_12 : decode cX3_readWind 12 = .ok (.getfield 80, 3) := by decide +kernel
theorem dX3_readWind_15 : decode cX3_readWind 15 = .ok (.iconst 1, 1) := by decide +kernel
theorem dX3_readWind_16 : decode cX3_readWind 16 = .ok (.invokevirtual 271, 3) := by decide +kernel
theorem dX3_readWind_19 : decode cX3_readWind 19 = .ok (.return_, 1) := by decide +kernel
theorem dX3_letPass_0 : decode cX3_letPass 0 = .ok (.aload_n 0, 1) := by decide +kernel
theorem dX3_letPass_1 : decode cX3_letPass 1 = .ok (.getfield 44, 3) := by decide +kernel
theorem dX3_letPass_4 : decode cX3_letPass 4 = .ok (.aload_n 1, 1) := by decide +kernel
theorem dX3_letPass_5 : decode cX3_letPass 5 = .ok (.aload_n 1, 1) := by decide +kernel
theorem dX3_letPass_6 : decode cX3_letPass 6 = .ok (.getfield 80, 3) := by decide +kernel
theorem dX3_letPass_9 : decode cX3_letPass 9 = .ok (.iconst 1, 1) := by decide +kernel
theorem dX3_letPass_10 : decode cX3_letPass 10 = .ok (.invokevirtual 300, 3) := by decide +kernel
theorem dX3_letPass_13 : decode cX3_letPass 13 = .ok (.ldc 148, 2) := by decide +kernel
theorem dX3_letPass_15 : decode cX3_letPass 15 = .ok (.istore_n 3, 1) := by decide +kernel
theorem dX3_letPass_16 : decode cX3_letPass 16 = .ok (.ldc 246, 2) := by decide +kernel
theorem dX3_letPass_18 : decode cX3_letPass 18 = .ok (.istore 4, 2) := by decide +kernel
theorem dX3_letPass_20 : decode cX3_letPass 20 = .ok (.iconst 0, 1) := by decide +kernel
theorem dX3_letPass_21 : decode cX3_letPass 21 = .ok (.istore 5, 2) := by decide +kernel
theorem dX3_letPass_23 : decode cX3_letPass 23 = .ok (.iload 5, 2) := by decide +kernel
theorem dX3_letPass_25 : decode cX3_letPass 25 = .ok (.iload_n 2, 1) := by decide +kernel
theorem dX3_letPass_26 : decode cX3_letPass 26 = .ok (.if_icmp .ge 73, 3) := by decide +kernel
theorem dX3_letPass_29 : decode cX3_letPass 29 = .ok (.aload_n 1, 1) := by decide +kernel
theorem dX3_letPass_30 : decode cX3_letPass 30 = .ok (.invokevirtual 303, 3) := by decide +kernel
theorem dX3_letPass_33 : decode cX3_letPass 33 = .ok (.aload_n 1, 1) := by decide +kernel
theorem dX3_letPass_34 : decode cX3_letPass 34 = .ok (.invokevirtual 178, 3) := by decide +kernel
theorem dX3_letPass_37 : decode cX3_letPass 37 = .ok (.istore 6, 2) := by decide +kernel
theorem dX3_letPass_39 : decode cX3_letPass 39 = .ok (.iload 6, 2) := by decide +kernel
theorem dX3_letPass_41 : decode cX3_letPass 41 = .ok (.iload_n 3, 1) := by decide +kernel
theorem dX3_letPass_42 : decode cX3_letPass 42 = .ok (.if_icmp .eq 22, 3) := by decide +kernel
theorem dX3_letPass_45 : decode cX3_letPass 45 = .ok (.aload_n 0, 1) := by decide +kernel
theorem dX3_letPass_46 : decode cX3_letPass 46 = .ok (.getfield 44, 3) := by decide +kernel
theorem dX3_letPass_49 : decode cX3_letPass 49 = .ok (.aload_n 1, 1) := by decide +kernel
theorem dX3_letPass_50 : decode cX3_letPass 50 = .ok (.invokevirtual 306, 3) := by decide +kernel
theorem dX3_letPass_53 : decode cX3_letPass 53 = .ok (.aload_n 0, 1) := by decide +kernel
theorem dX3_letPass_54 : decode cX3_letPass 54 = .ok (.getfield 44, 3) := by decide +kernel
theorem dX3_letPass_57 : decode cX3_letPass 57 = .ok (.aload_n 1, 1) := by decide +kernel
theorem dX3_letPass_58 : decode cX3_letPass 58 = .ok (.invokevirtual 310, 3) := by decide +kernel
theorem dX3_letPass_61 : decode cX3_letPass 61 = .ok (.iload 6, 2) := by decide +kernel
theorem dX3_letPass_63 : decode cX3_letPass 63 = .ok (.istore_n 3, 1) := by decide +kernel
theorem dX3_letPass_64 : decode cX3_letPass 64 = .ok (.aload_n 0, 1) := by decide +kernel
theorem dX3_letPass_65 : decode cX3_letPass 65 = .ok (.getfield 44, 3) := by decide +kernel
theorem dX3_letPass_68 : decode cX3_letPass 68 = .ok (.aload_n 1, 1) := by decide +kernel
theorem dX3_letPass_69 : decode cX3_letPass 69 = .ok (.invokevirtual 313, 3) := by decide +kernel
theorem dX3_letPass_72 : decode cX3_letPass 72 = .ok (.aload_n 1, 1) := by decide +kernel
theorem dX3_letPass_73 : decode cX3_letPass 73 = .ok (.dup, 1) := by decide +kernel
theorem dX3_letPass_74 : decode cX3_letPass 74 = .ok (.getfield 181, 3) := by decide +kernel
theorem dX3_letPass_77 : decode cX3_letPass 77 = .ok (.iconst 1, 1) := by decide +kernel
theorem dX3_letPass_78 : decode cX3_letPass 78 = .ok (.iadd, 1) := by decide +kernel
theorem dX3_letPass_79 : decode cX3_letPass 79 = .ok (.putfield 181, 3) := by decide +kernel
theorem dX3_letPass_82 : decode cX3_letPass 82 = .ok (.iload 4, 2) := by decide +kernel
theorem dX3_letPass_84 : decode cX3_letPass 84 = .ok (.aload_n 1, 1) := by decide +kernel
theorem dX3_letPass_85 : decode cX3_letPass 85 = .ok (.getfield 135, 3) := by decide +kernel
theorem dX3_letPass_88 : decode cX3_letPass 88 = .ok (.invokestatic 248, 3) := by decide +kernel
theorem dX3_letPass_91 : decode cX3_letPass 91 = .ok (.istore 4, 2) := by decide +kernel
theorem dX3_letPass_93 : decode cX3_letPass 93 = .ok (.iinc 5 1, 3) := by decide +kernel
theorem dX3_letPass_96 : decode cX3_letPass 96 = .ok (.goto (-73), 3) := by decide +kernel
theorem dX3_letPass_99 : decode cX3_letPass 99 = .ok (.iload 4, 2) := by decide +kernel
theorem dX3_letPass_101 : decode cX3_letPass 101 = .ok (.ireturn, 1) := by decide +kernel
theorem dX3_detuning_0 : decode cX3_detuning 0 = .ok (.aload_n 0, 1) := by decide +kernel
theorem dX3_detuning_1 : decode cX3_detuning 1 = .ok (.getfield 40, 3) := by decide +kernel
theorem dX3_detuning_4 : decode cX3_detuning 4 = .ok (.getfield 205, 3) := by decide +kernel
theorem dX3_detuning_7 : decode cX3_detuning 7 = .ok (.aload_n 0, 1) := by decide +kernel
theorem dX3_detuning_8 : decode cX3_detuning 8 = .ok (.getfield 10, 3) := by decide +kernel
theorem dX3_detuning_11 : decode cX3_detuning 11 = .ok (.iload_n 1, 1) := by decide +kernel
theorem dX3_detuning_12 : decode cX3_detuning 12 = .ok (.invokevirtual 237, 3) := by decide +kernel
theorem dX3_detuning_15 : decode cX3_detuning 15 = .ok (.iaload, 1) := by decide +kernel
theorem dX3_detuning_16 : decode cX3_detuning 16 = .ok (.aload_n 0, 1) := by decide +kernel
theorem dX3_detuning_17 : decode cX3_detuning 17 = .ok (.getfield 10, 3) := by decide +kernel
theorem dX3_detuning_20 : decode cX3_detuning 20 = .ok (.getfield 97, 3) := by decide +kernel
theorem dX3_detuning_23 : decode cX3_detuning 23 = .ok (.iconst 0, 1) := by decide +kernel
theorem dX3_detuning_24 : decode cX3_detuning 24 = .ok (.iaload, 1) := by decide +kernel
theorem dX3_detuning_25 : decode cX3_detuning 25 = .ok (.isub, 1) := by decide +kernel
theorem dX3_detuning_26 : decode cX3_detuning 26 = .ok (.istore_n 2, 1) := by decide +kernel
theorem dX3_detuning_27 : decode cX3_detuning 27 = .ok (.iload_n 2, 1) := by decide +kernel
theorem dX3_detuning_28 : decode cX3_detuning 28 = .ok (.aload_n 0, 1) := by decide +kernel
theorem dX3_detuning_29 : decode cX3_detuning 29 = .ok (.getfield 10, 3) := by decide +kernel
theorem dX3_detuning_32 : decode cX3_detuning 32 = .ok (.getfield 97, 3) := by decide +kernel
theorem dX3_detuning_35 : decode cX3_detuning 35 = .ok (.bipush 8, 2) := by decide +kernel
theorem dX3_detuning_37 : decode cX3_detuning 37 = .ok (.iaload, 1) := by decide +kernel
theorem dX3_detuning_38 : decode cX3_detuning 38 = .ok (.imul, 1) := by decide +kernel
theorem dX3_detuning_39 : decode cX3_detuning 39 = .ok (.bipush 16, 2) := by decide +kernel
theorem dX3_detuning_41 : decode cX3_detuning 41 = .ok (.invokestatic 316, 3) := by decide +kernel
theorem dX3_detuning_44 : decode cX3_detuning 44 = .ok (.ireturn, 1) := by decide +kernel
theorem dX3_pitch_0 : decode cX3_pitch 0 = .ok (.aload_n 0, 1) := by decide +kernel
theorem dX3_pitch_1 : decode cX3_pitch 1 = .ok (.getfield 10, 3) := by decide +kernel
theorem dX3_pitch_4 : decode cX3_pitch 4 = .ok (.getfield 73, 3) := by decide +kernel
theorem dX3_pitch_7 : decode cX3_pitch 7 = .ok (.iload_n 1, 1) := by decide +kernel
theorem dX3_pitch_8 : decode cX3_pitch 8 = .ok (.iload_n 2, 1) := by decide +kernel
theorem dX3_pitch_9 : decode cX3_pitch 9 = .ok (.invokestatic 76, 3) := by decide +kernel
theorem dX3_pitch_12 : decode cX3_pitch 12 = .ok (.iaload, 1) := by decide +kernel
theorem dX3_pitch_13 : decode cX3_pitch 13 = .ok (.aload_n 0, 1) := by decide +kernel
theorem dX3_pitch_14 : decode cX3_pitch 14 = .ok (.iload_n 1, 1) := by decide +kernel
theorem dX3_pitch_15 : decode cX3_pitch 15 = .ok (.invokevirtual 240, 3) := by decide +kernel
theorem dX3_pitch_18 : decode cX3_pitch 18 = .ok (.iadd, 1) := by decide +kernel
theorem dX3_pitch_19 : decode cX3_pitch 19 = .ok (.ireturn, 1) := by decide +kernel
theorem dX3_remember_0 : decode cX3_remember 0 = .ok (.aload_n 0, 1) := by decide +kernel
theorem dX3_remember_1 : decode cX3_remember 1 = .ok (.getfield 279, 3) := by decide +kernel
theorem dX3_remember_4 : decode cX3_remember 4 = .ok (.iconst 5, 1) := by decide +kernel
theorem dX3_remember_5 : decode cX3_remember 5 = .ok (.if_icmp .lt 49, 3) := by decide +kernel
theorem dX3_remember_8 : decode cX3_remember 8 = .ok (.aload_n 0, 1) := by decide +kernel
theorem dX3_remember_9 : decode cX3_remember 9 = .ok (.getfield 19, 3) := by decide +kernel
theorem dX3_remember_12 : decode cX3_remember 12 = .ok (.iconst 0, 1) := by decide +kernel
theorem dX3_remember_13 : decode cX3_remember 13 = .ok (.aaload, 1) := by decide +kernel
theorem dX3_remember_14 : decode cX3_remember 14 = .ok (.astore_n 1, 1) := by decide +kernel
theorem dX3_remember_15 : decode cX3_remember 15 = .ok (.iconst 1, 1) := by decide +kernel
theorem dX3_remember_16 : decode cX3_remember 16 = .ok (.istore_n 2, 1) := by decide +kernel
theorem dX3_remember_17 : decode cX3_remember 17 = .ok (.iload_n 2, 1) := by decide +kernel
theorem dX3_remember_18 : decode cX3_remember 18 = .ok (.iconst 5, 1) := by decide +kernel
theorem dX3_remember_19 : decode cX3_remember 19 = .ok (.if_icmp .ge 23, 3) := by decide +kernel
theorem dX3_remember_22 : decode cX3_remember 22 = .ok (.aload_n 0, 1) := by decide +kernel
theorem dX3_remember_23 : decode cX3_remember 23 = .ok (.getfield 19, 3) := by decide +kernel
theorem dX3_remember_26 : decode cX3_remember 26 = .ok (.iload_n 2, 1) := by decide +kernel
theorem dX3_remember_27 : decode cX3_remember 27 = .ok (.iconst 1, 1) := by decide +kernel
theorem dX3_remember_28 : decode cX3_remember 28 = .ok (.isub, 1) := by decide +kernel
theorem dX3_remember_29 : decode cX3_remember 29 = .ok (.aload_n 0, 1) := by decide +kernel
theorem dX3_remember_30 : decode cX3_remember 30 = .ok (.getfield 19, 3) := by decide +kernel
theorem dX3_remember_33 : decode cX3_remember 33 = .ok (.iload_n 2, 1) := by decide +kernel
theorem dX3_remember_34 : decode cX3_remember 34 = .ok (.aaload, 1) := by decide +kernel
theorem dX3_remember_35 : decode cX3_remember 35 = .ok (.aastore, 1) := by decide +kernel
theorem dX3_remember_36 : decode cX3_remember 36 = .ok (.iinc 2 1, 3) := by decide +kernel
theorem dX3_remember_39 : decode cX3_remember 39 = .ok (.goto (-22), 3) := by decide +kernel
theorem dX3_remember_42 : decode cX3_remember 42 = .ok (.aload_n 0, 1) := by decide +kernel
theorem dX3_remember_43 : decode cX3_remember 43 = .ok (.getfield 19, 3) := by decide +kernel
theorem dX3_remember_46 : decode cX3_remember 46 = .ok (.iconst 4, 1) := by decide +kernel
theorem dX3_remember_47 : decode cX3_remember 47 = .ok (.aload_n 1, 1) := by decide +kernel
theorem dX3_remember_48 : decode cX3_remember 48 = .ok (.aastore, 1) := by decide +kernel
theorem dX3_remember_49 : decode cX3_remember 49 = .ok (.aload_n 0, 1) := by decide +kernel
theorem dX3_remember_50 : decode cX3_remember 50 = .ok (.iconst 4, 1) := by decide +kernel
theorem dX3_remember_51 : decode cX3_remember 51 = .ok (.putfield 279, 3) := by decide +kernel
theorem dX3_remember_54 : decode cX3_remember 54 = .ok (.aload_n 0, 1) := by decide +kernel
theorem dX3_remember_55 : decode cX3_remember 55 = .ok (.getfield 279, 3) := by decide +kernel
theorem dX3_remember_58 : decode cX3_remember 58 = .ok (.ifCond .lt 29, 3) := by decide +kernel
theorem dX3_remember_61 : decode cX3_remember 61 = .ok (.aload_n 0, 1) := by decide +kernel
theorem dX3_remember_62 : decode cX3_remember 62 = .ok (.getfield 10, 3) := by decide +kernel
theorem dX3_remember_65 : decode cX3_remember 65 = .ok (.aload_n 0, 1) := by decide +kernel
theorem dX3_remember_66 : decode cX3_remember 66 = .ok (.getfield 19, 3) := by decide +kernel
theorem dX3_remember_69 : decode cX3_remember 69 = .ok (.aload_n 0, 1) := by decide +kernel
theorem dX3_remember_70 : decode cX3_remember 70 = .ok (.getfield 279, 3) := by decide +kernel
theorem dX3_remember_73 : decode cX3_remember 73 = .ok (.aaload, 1) := by decide +kernel
theorem dX3_remember_74 : decode cX3_remember 74 = .ok (.invokestatic 275, 3) := by decide +kernel
theorem dX3_remember_77 : decode cX3_remember 77 = .ok (.aload_n 0, 1) := by decide +kernel
theorem dX3_remember_78 : decode cX3_remember 78 = .ok (.dup, 1) := by decide +kernel
theorem dX3_remember_79 : decode cX3_remember 79 = .ok (.getfield 279, 3) := by decide +kernel
theorem dX3_remember_82 : decode cX3_remember 82 = .ok (.iconst 1, 1) := by decide +kernel
theorem dX3_remember_83 : decode cX3_remember 83 = .ok (.iadd, 1) := by decide +kernel
theorem dX3_remember_84 : decode cX3_remember 84 = .ok (.putfield 279, 3) := by decide +kernel
theorem dX3_remember_87 : decode cX3_remember 87 = .ok (.return_, 1) := by decide +kernel
theorem dX3_copyState_0 : decode cX3_copyState 0 = .ok (.aload_n 0, 1) := by decide +kernel
theorem dX3_copyState_1 : decode cX3_copyState 1 = .ok (.ifnull 17, 3) := by decide +kernel
theorem dX3_copyState_4 : decode cX3_copyState 4 = .ok (.aload_n 1, 1) := by decide +kernel
theorem dX3_copyState_5 : decode cX3_copyState 5 = .ok (.ifnull 13, 3) := by decide +kernel
theorem dX3_copyState_8 : decode cX3_copyState 8 = .ok (.aload_n 1, 1) := by decide +kernel
theorem dX3_copyState_9 : decode cX3_copyState 9 = .ok (.aload_n 0, 1) := by decide +kernel
theorem dX3_copyState_10 : decode cX3_copyState 10 = .ok (.invokevirtual 319, 3) := by decide +kernel
theorem dX3_copyState_13 : decode cX3_copyState 13 = .ok (.aload_n 1, 1) := by decide +kernel
theorem dX3_copyState_14 : decode cX3_copyState 14 = .ok (.aload_n 0, 1) := by decide +kernel
theorem dX3_copyState_15 : decode cX3_copyState 15 = .ok (.invokevirtual 322, 3) := by decide +kernel
theorem dX3_copyState_18 : decode cX3_copyState 18 = .ok (.return_, 1) := by decide +kernel
theorem dX3_isStop_0 : decode cX3_isStop 0 = .ok (.iload_n 0, 1) := by decide +kernel
theorem dX3_isStop_1 : decode cX3_isStop 1 = .ok (.iconst 0, 1) := by decide +kernel
theorem dX3_isStop_2 : decode cX3_isStop 2 = .ok (.bipush 7, 2) := by decide +kernel
theorem dX3_isStop_4 : decode cX3_isStop 4 = .ok (.invokestatic 55, 3) := by decide +kernel
theorem dX3_isStop_7 : decode cX3_isStop 7 = .ok (.ireturn, 1) := by decide +kernel
theorem dX3_isManual_0 : decode cX3_isManual 0 = .ok (.iload_n 0, 1) := by decide +kernel
theorem dX3_isManual_1 : decode cX3_isManual 1 = .ok (.iconst 0, 1) := by decide +kernel
theorem dX3_isManual_2 : decode cX3_isManual 2 = .ok (.iconst 1, 1) := by decide +kernel
theorem dX3_isManual_3 : decode cX3_isManual 3 = .ok (.invokestatic 55, 3) := by decide +kernel
theorem dX3_isManual_6 : decode cX3_isManual 6 = .ok (.ireturn, 1) := by decide +kernel
theorem dX3_isKey_0 : decode cX3_isKey 0 = .ok (.iload_n 0, 1) := by decide +kernel
theorem dX3_isKey_1 : decode cX3_isKey 1 = .ok (.iconst 0, 1) := by decide +kernel
theorem dX3_isKey_2 : decode cX3_isKey 2 = .ok (.bipush 23, 2) := by decide +kernel
theorem dX3_isKey_4 : decode cX3_isKey 4 = .ok (.invokestatic 55, 3) := by decide +kernel
theorem dX3_isKey_7 : decode cX3_isKey 7 = .ok (.ireturn, 1) := by decide +kernel
theorem dX3_isSlot_0 : decode cX3_isSlot 0 = .ok (.iload_n 0, 1) := by decide +kernel
theorem dX3_isSlot_1 : decode cX3_isSlot 1 = .ok (.iconst 0, 1) := by decide +kernel
theorem dX3_isSlot_2 : decode cX3_isSlot 2 = .ok (.iconst 1, 1) := by decide +kernel
theorem dX3_isSlot_3 : decode cX3_isSlot 3 = .ok (.invokestatic 55, 3) := by decide +kernel
theorem dX3_isSlot_6 : decode cX3_isSlot 6 = .ok (.ireturn, 1) := by decide +kernel
theorem dX3_isWithin_0 : decode cX3_isWithin 0 = .ok (.iload_n 0, 1) := by decide +kernel
theorem dX3_isWithin_1 : decode cX3_isWithin 1 = .ok (.iload_n 1, 1) := by decide +kernel
theorem dX3_isWithin_2 : decode cX3_isWithin 2 = .ok (.if_icmp .lt 12, 3) := by decide +kernel
theorem dX3_isWithin_5 : decode cX3_isWithin 5 = .ok (.iload_n 0, 1) := by decide +kernel
theorem dX3_isWithin_6 : decode cX3_isWithin 6 = .ok (.iload_n 2, 1) := by decide +kernel
theorem dX3_isWithin_7 : decode cX3_isWithin 7 = .ok (.if_icmp .gt 7, 3) := by decide +kernel
theorem dX3_isWithin_10 : decode cX3_isWithin 10 = .ok (.iconst 1, 1) := by decide +kernel
theorem dX3_isWithin_11 : decode cX3_isWithin 11 = .ok (.goto 4, 3) := by decide +kernel
theorem dX3_isWithin_14 : decode cX3_isWithin 14 = .ok (.iconst 0, 1) := by decide +kernel
theorem dX3_isWithin_15 : decode cX3_isWithin 15 = .ok (.ireturn, 1) := by decide +kernel
theorem dX3_pipeIndex_0 : decode cX3_pipeIndex 0 = .ok (.iload_n 0, 1) := by decide +kernel
theorem dX3_pipeIndex_1 : decode cX3_pipeIndex 1 = .ok (.bipush 24, 2) := by decide +kernel
theorem dX3_pipeIndex_3 : decode cX3_pipeIndex 3 = .ok (.imul, 1) := by decide +kernel
theorem dX3_pipeIndex_4 : decode cX3_pipeIndex 4 = .ok (.iload_n 1, 1) := by decide +kernel
theorem dX3_pipeIndex_5 : decode cX3_pipeIndex 5 = .ok (.iadd, 1) := by decide +kernel
theorem dX3_pipeIndex_6 : decode cX3_pipeIndex 6 = .ok (.ireturn, 1) := by decide +kernel
theorem dX3_divide_0 : decode cX3_divide 0 = .ok (.iload_n 1, 1) := by decide +kernel
theorem dX3_divide_1 : decode cX3_divide 1 = .ok (.ifCond .ne 7, 3) := by decide +kernel
theorem dX3_divide_4 : decode cX3_divide 4 = .ok (.iconst 0, 1) := by decide +kernel
theorem dX3_divide_5 : decode cX3_divide 5 = .ok (.goto 8, 3) := by decide +kernel
theorem dX3_divide_8 : decode cX3_divide 8 = .ok (.iload_n 0, 1) := by decide +kernel
theorem dX3_divide_9 : decode cX3_divide 9 = .ok (.iload_n 1, 1) := by decide +kernel
theorem dX3_divide_10 : decode cX3_divide 10 = .ok (.invokestatic 325, 3) := by decide +kernel
theorem dX3_divide_13 : decode cX3_divide 13 = .ok (.ireturn, 1) := by decide +kernel
theorem dX3_isIn_0 : decode cX3_isIn 0 = .ok (.iload_n 0, 1) := by decide +kernel
theorem dX3_isIn_1 : decode cX3_isIn 1 = .ok (.iload_n 1, 1) := by decide +kernel
theorem dX3_isIn_2 : decode cX3_isIn 2 = .ok (.ishr, 1) := by decide +kernel
theorem dX3_isIn_3 : decode cX3_isIn 3 = .ok (.iconst 1, 1) := by decide +kernel
theorem dX3_isIn_4 : decode cX3_isIn 4 = .ok (.iand, 1) := by decide +kernel
theorem dX3_isIn_5 : decode cX3_isIn 5 = .ok (.ifCond .eq 7, 3) := by decide +kernel
theorem dX3_isIn_8 : decode cX3_isIn 8 = .ok (.iconst 1, 1) := by decide +kernel
theorem dX3_isIn_9 : decode cX3_isIn 9 = .ok (.goto 4, 3) := by decide +kernel
theorem dX3_isIn_12 : decode cX3_isIn 12 = .ok (.iconst 0, 1) := by decide +kernel
theorem dX3_isIn_13 : decode cX3_isIn 13 = .ok (.ireturn, 1) := by decide +kernel
theorem dX3_with_0 : decode cX3_with 0 = .ok (.iload_n 2, 1) := by decide +kernel
theorem dX3_with_1 : decode cX3_with 1 = .ok (.ifCond .eq 11, 3) := by decide +kernel
theorem dX3_with_4 : decode cX3_with 4 = .ok (.iload_n 0, 1) := by decide +kernel
theorem dX3_with_5 : decode cX3_with 5 = .ok (.iconst 1, 1) := by decide +kernel
theorem dX3_with_6 : decode cX3_with 6 = .ok (.iload_n 1, 1) := by decide +kernel
theorem dX3_with_7 : decode cX3_with 7 = .ok (.ishl, 1) := by decide +kernel
theorem dX3_with_8 : decode cX3_with 8 = .ok (.ior, 1) := by decide +kernel
theorem dX3_with_9 : decode cX3_with 9 = .ok (.goto 10, 3) := by decide +kernel
theorem dX3_with_12 : decode cX3_with 12 = .ok (.iload_n 0, 1) := by decide +kernel
theorem dX3_with_13 : decode cX3_with 13 = .ok (.iconst 1, 1) := by decide +kernel
theorem dX3_with_14 : decode cX3_with 14 = .ok (.iload_n 1, 1) := by decide +kernel
theorem dX3_with_15 : decode cX3_with 15 = .ok (.ishl, 1) := by decide +kernel
theorem dX3_with_16 : decode cX3_with 16 = .ok (.iconst (-1), 1) := by decide +kernel
theorem dX3_with_17 : decode cX3_with 17 = .ok (.ixor, 1) := by decide +kernel
theorem dX3_with_18 : decode cX3_with 18 = .ok (.iand, 1) := by decide +kernel
theorem dX3_with_19 : decode cX3_with 19 = .ok (.ireturn, 1) := by decide +kernel
theorem dX3_rowOfStops_0 : decode cX3_rowOfStops 0 = .ok (.iconst 1, 1) := by decide +kernel
theorem dX3_rowOfStops_1 : decode cX3_rowOfStops 1 = .ok (.iload_n 1, 1) := by decide +kernel
theorem dX3_rowOfStops_2 : decode cX3_rowOfStops 2 = .ok (.ishl, 1) := by decide +kernel
theorem dX3_rowOfStops_3 : decode cX3_rowOfStops 3 = .ok (.iconst 1, 1) := by decide +kernel
theorem dX3_rowOfStops_4 : decode cX3_rowOfStops 4 = .ok (.isub, 1) := by decide +kernel
theorem dX3_rowOfStops_5 : decode cX3_rowOfStops 5 = .ok (.iload_n 0, 1) := by decide +kernel
theorem dX3_rowOfStops_6 : decode cX3_rowOfStops 6 = .ok (.ishl, 1) := by decide +kernel
theorem dX3_rowOfStops_7 : decode cX3_rowOfStops 7 = .ok (.ireturn, 1) := by decide +kernel
theorem dX3_countOfAll_0 : decode cX3_countOfAll 0 = .ok (.iconst 0, 1) := by decide +kernel
theorem dX3_countOfAll_1 : decode cX3_countOfAll 1 = .ok (.istore_n 1, 1) := by decide +kernel
theorem dX3_countOfAll_2 : decode cX3_countOfAll 2 = .ok (.aload_n 0, 1) := by decide +kernel
theorem dX3_countOfAll_3 : decode cX3_countOfAll 3 = .ok (.astore_n 2, 1) := by decide +kernel
theorem dX3_countOfAll_4 : decode cX3_countOfAll 4 = .ok (.aload_n 2, 1) := by decide +kernel
theorem dX3_countOfAll_5 : decode cX3_countOfAll 5 = .ok (.arraylength, 1) := by decide +kernel
theorem dX3_countOfAll_6 : decode cX3_countOfAll 6 = .ok (.istore_n 3, 1) := by decide +kernel
theorem dX3_countOfAll_7 : decode cX3_countOfAll 7 = .ok (.iconst 0, 1) := by decide +kernel
theorem dX3_countOfAll_8 : decode cX3_countOfAll 8 = .ok (.istore 4, 2) := by decide +kernel
theorem dX3_countOfAll_10 : decode cX3_countOfAll 10 = .ok (.iload 4, 2) := by decide +kernel
theorem dX3_countOfAll_12 : decode cX3_countOfAll 12 = .ok (.iload_n 3, 1) := by decide +kernel
theorem dX3_countOfAll_13 : decode cX3_countOfAll 13 = .ok (.if_icmp .ge 23, 3) := by decide +kernel
theorem dX3_countOfAll_16 : decode cX3_countOfAll 16 = .ok (.aload_n 2, 1) := by decide +kernel
theorem dX3_countOfAll_17 : decode cX3_countOfAll 17 = .ok (.iload 4, 2) := by decide +kernel
theorem dX3_countOfAll_19 : decode cX3_countOfAll 19 = .ok (.iaload, 1) := by decide +kernel
theorem dX3_countOfAll_20 : decode cX3_countOfAll 20 = .ok (.istore 5, 2) := by decide +kernel
theorem dX3_countOfAll_22 : decode cX3_countOfAll 22 = .ok (.iload_n 1, 1) := by decide +kernel
theorem dX3_countOfAll_23 : decode cX3_countOfAll 23 = .ok (.iload 5, 2) := by decide +kernel
theorem dX3_countOfAll_25 : decode cX3_countOfAll 25 = .ok (.invokestatic 115, 3) := by decide +kernel
theorem dX3_countOfAll_28 : decode cX3_countOfAll 28 = .ok (.iadd, 1) := by decide +kernel
theorem dX3_countOfAll_29 : decode cX3_countOfAll 29 = .ok (.istore_n 1, 1) := by decide +kernel
theorem dX3_countOfAll_30 : decode cX3_countOfAll 30 = .ok (.iinc 4 1, 3) := by decide +kernel
theorem dX3_countOfAll_33 : decode cX3_countOfAll 33 = .ok (.goto (-23), 3) := by decide +kernel
theorem dX3_countOfAll_36 : decode cX3_countOfAll 36 = .ok (.iload_n 1, 1) := by decide +kernel
theorem dX3_countOfAll_37 : decode cX3_countOfAll 37 = .ok (.ireturn, 1) := by decide +kernel
theorem dX3_sumOf_0 : decode cX3_sumOf 0 = .ok (.iconst 0, 1) := by decide +kernel
theorem dX3_sumOf_1 : decode cX3_sumOf 1 = .ok (.istore_n 1, 1) := by decide +kernel
theorem dX3_sumOf_2 : decode cX3_sumOf 2 = .ok (.aload_n 0, 1) := by decide +kernel
theorem dX3_sumOf_3 : decode cX3_sumOf 3 = .ok (.astore_n 2, 1) := by decide +kernel
theorem dX3_sumOf_4 : decode cX3_sumOf 4 = .ok (.aload_n 2, 1) := by decide +kernel
theorem dX3_sumOf_5 : decode cX3_sumOf 5 = .ok (.arraylength, 1) := by decide +kernel
theorem dX3_sumOf_6 : decode cX3_sumOf 6 = .ok (.istore_n 3, 1) := by decide +kernel
theorem dX3_sumOf_7 : decode cX3_sumOf 7 = .ok (.iconst 0, 1) := by decide +kernel
theorem dX3_sumOf_8 : decode cX3_sumOf 8 = .ok (.istore 4, 2) := by decide +kernel
theorem dX3_sumOf_10 : decode cX3_sumOf 10 = .ok (.iload 4, 2) := by decide +kernel
theorem dX3_sumOf_12 : decode cX3_sumOf 12 = .ok (.iload_n 3, 1) := by decide +kernel
theorem dX3_sumOf_13 : decode cX3_sumOf 13 = .ok (.if_icmp .ge 20, 3) := by decide +kernel
theorem dX3_sumOf_16 : decode cX3_sumOf 16 = .ok (.aload_n 2, 1) := by decide +kernel
theorem dX3_sumOf_17 : decode cX3_sumOf 17 = .ok (.iload 4, 2) := by decide +kernel
theorem dX3_sumOf_19 : decode cX3_sumOf 19 = .ok (.iaload, 1) := by decide +kernel
theorem dX3_sumOf_20 : decode cX3_sumOf 20 = .ok (.istore 5, 2) := by decide +kernel
theorem dX3_sumOf_22 : decode cX3_sumOf 22 = .ok (.iload_n 1, 1) := by decide +kernel
theorem dX3_sumOf_23 : decode cX3_sumOf 23 = .ok (.iload 5, 2) := by decide +kernel
theorem dX3_sumOf_25 : decode cX3_sumOf 25 = .ok (.iadd, 1) := by decide +kernel
theorem dX3_sumOf_26 : decode cX3_sumOf 26 = .ok (.istore_n 1, 1) := by decide +kernel
theorem dX3_sumOf_27 : decode cX3_sumOf 27 = .ok (.iinc 4 1, 3) := by decide +kernel
theorem dX3_sumOf_30 : decode cX3_sumOf 30 = .ok (.goto (-20), 3) := by decide +kernel
theorem dX3_sumOf_33 : decode cX3_sumOf 33 = .ok (.iload_n 1, 1) := by decide +kernel
theorem dX3_sumOf_34 : decode cX3_sumOf 34 = .ok (.ireturn, 1) := by decide +kernel
