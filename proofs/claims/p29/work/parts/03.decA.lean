theorem dX0_init_0 : decode cX0_init 0 = .ok (.aload_n 0, 1) := by decide +kernel
theorem dX0_init_1 : decode cX0_init 1 = .ok (.invokespecial 3, 3) := by decide +kernel
theorem dX0_init_4 : decode cX0_init 4 = .ok (.aload_n 0, 1) := by decide +kernel
theorem dX0_init_5 : decode cX0_init 5 = .ok (.bipush 8, 2) := by decide +kernel
theorem dX0_init_7 : decode cX0_init 7 = .ok (.newarray .int, 2) := by decide +kernel
theorem dX0_init_9 : decode cX0_init 9 = .ok (.putfield 9, 3) := by decide +kernel
theorem dX0_init_12 : decode cX0_init 12 = .ok (.aload_n 0, 1) := by decide +kernel
theorem dX0_init_13 : decode cX0_init 13 = .ok (.bipush 8, 2) := by decide +kernel
theorem dX0_init_15 : decode cX0_init 15 = .ok (.newarray .int, 2) := by decide +kernel
theorem dX0_init_17 : decode cX0_init 17 = .ok (.putfield 15, 3) := by decide +kernel
theorem dX0_init_20 : decode cX0_init 20 = .ok (.aload_n 0, 1) := by decide +kernel
theorem dX0_init_21 : decode cX0_init 21 = .ok (.bipush 8, 2) := by decide +kernel
theorem dX0_init_23 : decode cX0_init 23 = .ok (.newarray .int, 2) := by decide +kernel
theorem dX0_init_25 : decode cX0_init 25 = .ok (.putfield 18, 3) := by decide +kernel
theorem dX0_init_28 : decode cX0_init 28 = .ok (.aload_n 0, 1) := by decide +kernel
theorem dX0_init_29 : decode cX0_init 29 = .ok (.bipush 8, 2) := by decide +kernel
theorem dX0_init_31 : decode cX0_init 31 = .ok (.newarray .int, 2) := by decide +kernel
theorem dX0_init_33 : decode cX0_init 33 = .ok (.putfield 21, 3) := by decide +kernel
theorem dX0_init_36 : decode cX0_init 36 = .ok (.aload_n 0, 1) := by decide +kernel
theorem dX0_init_37 : decode cX0_init 37 = .ok (.bipush 8, 2) := by decide +kernel
theorem dX0_init_39 : decode cX0_init 39 = .ok (.newarray .int, 2) := by decide +kernel
theorem dX0_init_41 : decode cX0_init 41 = .ok (.putfield 24, 3) := by decide +kernel
theorem dX0_init_44 : decode cX0_init 44 = .ok (.aload_n 0, 1) := by decide +kernel
theorem dX0_init_45 : decode cX0_init 45 = .ok (.sipush 192, 3) := by decide +kernel
theorem dX0_init_48 : decode cX0_init 48 = .ok (.newarray .int, 2) := by decide +kernel
theorem dX0_init_50 : decode cX0_init 50 = .ok (.putfield 27, 3) := by decide +kernel
theorem dX0_init_53 : decode cX0_init 53 = .ok (.aload_n 0, 1) := by decide +kernel
theorem dX0_init_54 : decode cX0_init 54 = .ok (.bipush 9, 2) := by decide +kernel
theorem dX0_init_56 : decode cX0_init 56 = .ok (.newarray .int, 2) := by decide +kernel
theorem dX0_init_58 : decode cX0_init 58 = .ok (.putfield 30, 3) := by decide +kernel
theorem dX0_init_61 : decode cX0_init 61 = .ok (.aload_n 0, 1) := by decide +kernel
theorem dX0_init_62 : decode cX0_init 62 = .ok (.iconst 2, 1) := by decide +kernel
theorem dX0_init_63 : decode cX0_init 63 = .ok (.newarray .int, 2) := by decide +kernel
theorem dX0_init_65 : decode cX0_init 65 = .ok (.putfield 33, 3) := by decide +kernel
theorem dX0_init_68 : decode cX0_init 68 = .ok (.aload_n 0, 1) := by decide +kernel
theorem dX0_init_69 : decode cX0_init 69 = .ok (.iconst 2, 1) := by decide +kernel
theorem dX0_init_70 : decode cX0_init 70 = .ok (.newarray .int, 2) := by decide +kernel
theorem dX0_init_72 : decode cX0_init 72 = .ok (.putfield 36, 3) := by decide +kernel
theorem dX0_init_75 : decode cX0_init 75 = .ok (.aload_n 0, 1) := by decide +kernel
theorem dX0_init_76 : decode cX0_init 76 = .ok (.sipush 3000, 3) := by decide +kernel
theorem dX0_init_79 : decode cX0_init 79 = .ok (.putfield 39, 3) := by decide +kernel
theorem dX0_init_82 : decode cX0_init 82 = .ok (.aload_n 0, 1) := by decide +kernel
theorem dX0_init_83 : decode cX0_init 83 = .ok (.iconst 1, 1) := by decide +kernel
theorem dX0_init_84 : decode cX0_init 84 = .ok (.putfield 43, 3) := by decide +kernel
theorem dX0_init_87 : decode cX0_init 87 = .ok (.iconst 0, 1) := by decide +kernel
theorem dX0_init_88 : decode cX0_init 88 = .ok (.istore_n 1, 1) := by decide +kernel
theorem dX0_init_89 : decode cX0_init 89 = .ok (.iload_n 1, 1) := by decide +kernel
theorem dX0_init_90 : decode cX0_init 90 = .ok (.bipush 8, 2) := by decide +kernel
theorem dX0_init_92 : decode cX0_init 92 = .ok (.if_icmp .ge 41, 3) := by decide +kernel
theorem dX0_init_95 : decode cX0_init 95 = .ok (.aload_n 0, 1) := by decide +kernel
theorem dX0_init_96 : decode cX0_init 96 = .ok (.getfield 9, 3) := by decide +kernel
theorem dX0_init_99 : decode cX0_init 99 = .ok (.iload_n 1, 1) := by decide +kernel
theorem dX0_init_100 : decode cX0_init 100 = .ok (.iload_n 1, 1) := by decide +kernel
theorem dX0_init_101 : decode cX0_init 101 = .ok (.iconst 2, 1) := by decide +kernel
theorem dX0_init_102 : decode cX0_init 102 = .ok (.irem, 1) := by decide +kernel
theorem dX0_init_103 : decode cX0_init 103 = .ok (.iastore, 1) := by decide +kernel
theorem dX0_init_104 : decode cX0_init 104 = .ok (.aload_n 0, 1) := by decide +kernel
theorem dX0_init_105 : decode cX0_init 105 = .ok (.getfield 15, 3) := by decide +kernel
theorem dX0_init_108 : decode cX0_init 108 = .ok (.iload_n 1, 1) := by decide +kernel
theorem dX0_init_109 : decode cX0_init 109 = .ok (.iconst 4, 1) := by decide +kernel
theorem dX0_init_110 : decode cX0_init 110 = .ok (.iconst 2, 1) := by decide +kernel
theorem dX0_init_111 : decode cX0_init 111 = .ok (.iload_n 1, 1) := by decide +kernel
theorem dX0_init_112 : decode cX0_init 112 = .ok (.imul, 1) := by decide +kernel
theorem dX0_init_113 : decode cX0_init 113 = .ok (.iadd, 1) := by decide +kernel
theorem dX0_init_114 : decode cX0_init 114 = .ok (.iastore, 1) := by decide +kernel
theorem dX0_init_115 : decode cX0_init 115 = .ok (.aload_n 0, 1) := by decide +kernel
theorem dX0_init_116 : decode cX0_init 116 = .ok (.getfield 18, 3) := by decide +kernel
theorem dX0_init_119 : decode cX0_init 119 = .ok (.iload_n 1, 1) := by decide +kernel
theorem dX0_init_120 : decode cX0_init 120 = .ok (.bipush 20, 2) := by decide +kernel
theorem dX0_init_122 : decode cX0_init 122 = .ok (.iconst 5, 1) := by decide +kernel
theorem dX0_init_123 : decode cX0_init 123 = .ok (.iload_n 1, 1) := by decide +kernel
theorem dX0_init_124 : decode cX0_init 124 = .ok (.imul, 1) := by decide +kernel
theorem dX0_init_125 : decode cX0_init 125 = .ok (.iadd, 1) := by decide +kernel
theorem dX0_init_126 : decode cX0_init 126 = .ok (.iastore, 1) := by decide +kernel
theorem dX0_init_127 : decode cX0_init 127 = .ok (.iinc 1 1, 3) := by decide +kernel
theorem dX0_init_130 : decode cX0_init 130 = .ok (.goto (-41), 3) := by decide +kernel
theorem dX0_init_133 : decode cX0_init 133 = .ok (.getstatic 46, 3) := by decide +kernel
theorem dX0_init_136 : decode cX0_init 136 = .ok (.iconst 0, 1) := by decide +kernel
theorem dX0_init_137 : decode cX0_init 137 = .ok (.aload_n 0, 1) := by decide +kernel
theorem dX0_init_138 : decode cX0_init 138 = .ok (.getfield 30, 3) := by decide +kernel
theorem dX0_init_141 : decode cX0_init 141 = .ok (.iconst 0, 1) := by decide +kernel
theorem dX0_init_142 : decode cX0_init 142 = .ok (.bipush 9, 2) := by decide +kernel
theorem dX0_init_144 : decode cX0_init 144 = .ok (.invokestatic 49, 3) := by decide +kernel
theorem dX0_init_147 : decode cX0_init 147 = .ok (.return_, 1) := by decide +kernel
theorem dX0_takeStops_0 : decode cX0_takeStops 0 = .ok (.aload_n 1, 1) := by decide +kernel
theorem dX0_takeStops_1 : decode cX0_takeStops 1 = .ok (.getfield 9, 3) := by decide +kernel
theorem dX0_takeStops_4 : decode cX0_takeStops 4 = .ok (.iconst 0, 1) := by decide +kernel
theorem dX0_takeStops_5 : decode cX0_takeStops 5 = .ok (.aload_n 0, 1) := by decide +kernel
theorem dX0_takeStops_6 : decode cX0_takeStops 6 = .ok (.getfield 9, 3) := by decide +kernel
theorem dX0_takeStops_9 : decode cX0_takeStops 9 = .ok (.iconst 0, 1) := by decide +kernel
theorem dX0_takeStops_10 : decode cX0_takeStops 10 = .ok (.bipush 8, 2) := by decide +kernel
theorem dX0_takeStops_12 : decode cX0_takeStops 12 = .ok (.invokestatic 49, 3) := by decide +kernel
theorem dX0_takeStops_15 : decode cX0_takeStops 15 = .ok (.aload_n 1, 1) := by decide +kernel
theorem dX0_takeStops_16 : decode cX0_takeStops 16 = .ok (.getfield 15, 3) := by decide +kernel
theorem dX0_takeStops_19 : decode cX0_takeStops 19 = .ok (.iconst 0, 1) := by decide +kernel
theorem dX0_takeStops_20 : decode cX0_takeStops 20 = .ok (.aload_n 0, 1) := by decide +kernel
theorem dX0_takeStops_21 : decode cX0_takeStops 21 = .ok (.getfield 15, 3) := by decide +kernel
theorem dX0_takeStops_24 : decode cX0_takeStops 24 = .ok (.iconst 0, 1) := by decide +kernel
theorem dX0_takeStops_25 : decode cX0_takeStops 25 = .ok (.bipush 8, 2) := by decide +kernel
theorem dX0_takeStops_27 : decode cX0_takeStops 27 = .ok (.invokestatic 49, 3) := by decide +kernel
theorem dX0_takeStops_30 : decode cX0_takeStops 30 = .ok (.aload_n 1, 1) := by decide +kernel
theorem dX0_takeStops_31 : decode cX0_takeStops 31 = .ok (.getfield 18, 3) := by decide +kernel
theorem dX0_takeStops_34 : decode cX0_takeStops 34 = .ok (.iconst 0, 1) := by decide +kernel
theorem dX0_takeStops_35 : decode cX0_takeStops 35 = .ok (.aload_n 0, 1) := by decide +kernel
theorem dX0_takeStops_36 : decode cX0_takeStops 36 = .ok (.getfield 18, 3) := by decide +kernel
theorem dX0_takeStops_39 : decode cX0_takeStops 39 = .ok (.iconst 0, 1) := by decide +kernel
theorem dX0_takeStops_40 : decode cX0_takeStops 40 = .ok (.bipush 8, 2) := by decide +kernel
theorem dX0_takeStops_42 : decode cX0_takeStops 42 = .ok (.invokestatic 49, 3) := by decide +kernel
theorem dX0_takeStops_45 : decode cX0_takeStops 45 = .ok (.aload_n 1, 1) := by decide +kernel
theorem dX0_takeStops_46 : decode cX0_takeStops 46 = .ok (.getfield 21, 3) := by decide +kernel
theorem dX0_takeStops_49 : decode cX0_takeStops 49 = .ok (.iconst 0, 1) := by decide +kernel
theorem dX0_takeStops_50 : decode cX0_takeStops 50 = .ok (.aload_n 0, 1) := by decide +kernel
theorem dX0_takeStops_51 : decode cX0_takeStops 51 = .ok (.getfield 21, 3) := by decide +kernel
theorem dX0_takeStops_54 : decode cX0_takeStops 54 = .ok (.iconst 0, 1) := by decide +kernel
theorem dX0_takeStops_55 : decode cX0_takeStops 55 = .ok (.bipush 8, 2) := by decide +kernel
theorem dX0_takeStops_57 : decode cX0_takeStops 57 = .ok (.invokestatic 49, 3) := by decide +kernel
theorem dX0_takeStops_60 : decode cX0_takeStops 60 = .ok (.aload_n 1, 1) := by decide +kernel
theorem dX0_takeStops_61 : decode cX0_takeStops 61 = .ok (.getfield 24, 3) := by decide +kernel
theorem dX0_takeStops_64 : decode cX0_takeStops 64 = .ok (.iconst 0, 1) := by decide +kernel
theorem dX0_takeStops_65 : decode cX0_takeStops 65 = .ok (.aload_n 0, 1) := by decide +kernel
theorem dX0_takeStops_66 : decode cX0_takeStops 66 = .ok (.getfield 24, 3) := by decide +kernel
theorem dX0_takeStops_69 : decode cX0_takeStops 69 = .ok (.iconst 0, 1) := by decide +kernel
theorem dX0_takeStops_70 : decode cX0_takeStops 70 = .ok (.bipush 8, 2) := by decide +kernel
theorem dX0_takeStops_72 : decode cX0_takeStops 72 = .ok (.invokestatic 49, 3) := by decide +kernel
theorem dX0_takeStops_75 : decode cX0_takeStops 75 = .ok (.aload_n 1, 1) := by decide +kernel
theorem dX0_takeStops_76 : decode cX0_takeStops 76 = .ok (.getfield 27, 3) := by decide +kernel
theorem dX0_takeStops_79 : decode cX0_takeStops 79 = .ok (.iconst 0, 1) := by decide +kernel
theorem dX0_takeStops_80 : decode cX0_takeStops 80 = .ok (.aload_n 0, 1) := by decide +kernel
theorem dX0_takeStops_81 : decode cX0_takeStops 81 = .ok (.getfield 27, 3) := by decide +kernel
theorem dX0_takeStops_84 : decode cX0_takeStops 84 = .ok (.iconst 0, 1) := by decide +kernel
theorem dX0_takeStops_85 : decode cX0_takeStops 85 = .ok (.sipush 192, 3) := by decide +kernel
theorem dX0_takeStops_88 : decode cX0_takeStops 88 = .ok (.invokestatic 49, 3) := by decide +kernel
theorem dX0_takeStops_91 : decode cX0_takeStops 91 = .ok (.aload_n 1, 1) := by decide +kernel
theorem dX0_takeStops_92 : decode cX0_takeStops 92 = .ok (.getfield 33, 3) := by decide +kernel
theorem dX0_takeStops_95 : decode cX0_takeStops 95 = .ok (.iconst 0, 1) := by decide +kernel
theorem dX0_takeStops_96 : decode cX0_takeStops 96 = .ok (.aload_n 0, 1) := by decide +kernel
theorem dX0_takeStops_97 : decode cX0_takeStops 97 = .ok (.getfield 33, 3) := by decide +kernel
theorem dX0_takeStops_100 : decode cX0_takeStops 100 = .ok (.iconst 0, 1) := by decide +kernel
theorem dX0_takeStops_101 : decode cX0_takeStops 101 = .ok (.iconst 2, 1) := by decide +kernel
theorem dX0_takeStops_102 : decode cX0_takeStops 102 = .ok (.invokestatic 49, 3) := by decide +kernel
theorem dX0_takeStops_105 : decode cX0_takeStops 105 = .ok (.aload_n 0, 1) := by decide +kernel
theorem dX0_takeStops_106 : decode cX0_takeStops 106 = .ok (.aload_n 1, 1) := by decide +kernel
theorem dX0_takeStops_107 : decode cX0_takeStops 107 = .ok (.getfield 55, 3) := by decide +kernel
theorem dX0_takeStops_110 : decode cX0_takeStops 110 = .ok (.putfield 55, 3) := by decide +kernel
theorem dX0_takeStops_113 : decode cX0_takeStops 113 = .ok (.aload_n 0, 1) := by decide +kernel
theorem dX0_takeStops_114 : decode cX0_takeStops 114 = .ok (.aload_n 1, 1) := by decide +kernel
theorem dX0_takeStops_115 : decode cX0_takeStops 115 = .ok (.getfield 58, 3) := by decide +kernel
theorem dX0_takeStops_118 : decode cX0_takeStops 118 = .ok (.putfield 58, 3) := by decide +kernel
theorem dX0_takeStops_121 : decode cX0_takeStops 121 = .ok (.aload_n 0, 1) := by decide +kernel
theorem dX0_takeStops_122 : decode cX0_takeStops 122 = .ok (.aload_n 1, 1) := by decide +kernel
theorem dX0_takeStops_123 : decode cX0_takeStops 123 = .ok (.getfield 62, 3) := by decide +kernel
theorem dX0_takeStops_126 : decode cX0_takeStops 126 = .ok (.putfield 62, 3) := by decide +kernel
theorem dX0_takeStops_129 : decode cX0_takeStops 129 = .ok (.return_, 1) := by decide +kernel
theorem dX0_takeBellows_0 : decode cX0_takeBellows 0 = .ok (.aload_n 1, 1) := by decide +kernel
theorem dX0_takeBellows_1 : decode cX0_takeBellows 1 = .ok (.getfield 30, 3) := by decide +kernel
theorem dX0_takeBellows_4 : decode cX0_takeBellows 4 = .ok (.iconst 0, 1) := by decide +kernel
theorem dX0_takeBellows_5 : decode cX0_takeBellows 5 = .ok (.aload_n 0, 1) := by decide +kernel
theorem dX0_takeBellows_6 : decode cX0_takeBellows 6 = .ok (.getfield 30, 3) := by decide +kernel
theorem dX0_takeBellows_9 : decode cX0_takeBellows 9 = .ok (.iconst 0, 1) := by decide +kernel
theorem dX0_takeBellows_10 : decode cX0_takeBellows 10 = .ok (.bipush 9, 2) := by decide +kernel
theorem dX0_takeBellows_12 : decode cX0_takeBellows 12 = .ok (.invokestatic 49, 3) := by decide +kernel
theorem dX0_takeBellows_15 : decode cX0_takeBellows 15 = .ok (.aload_n 1, 1) := by decide +kernel
theorem dX0_takeBellows_16 : decode cX0_takeBellows 16 = .ok (.getfield 36, 3) := by decide +kernel
theorem dX0_takeBellows_19 : decode cX0_takeBellows 19 = .ok (.iconst 0, 1) := by decide +kernel
theorem dX0_takeBellows_20 : decode cX0_takeBellows 20 = .ok (.aload_n 0, 1) := by decide +kernel
theorem dX0_takeBellows_21 : decode cX0_takeBellows 21 = .ok (.getfield 36, 3) := by decide +kernel
theorem dX0_takeBellows_24 : decode cX0_takeBellows 24 = .ok (.iconst 0, 1) := by decide +kernel
theorem dX0_takeBellows_25 : decode cX0_takeBellows 25 = .ok (.iconst 2, 1) := by decide +kernel
theorem dX0_takeBellows_26 : decode cX0_takeBellows 26 = .ok (.invokestatic 49, 3) := by decide +kernel
theorem dX0_takeBellows_29 : decode cX0_takeBellows 29 = .ok (.aload_n 0, 1) := by decide +kernel
theorem dX0_takeBellows_30 : decode cX0_takeBellows 30 = .ok (.aload_n 1, 1) := by decide +kernel
theorem dX0_takeBellows_31 : decode cX0_takeBellows 31 = .ok (.getfield 39, 3) := by decide +kernel
theorem dX0_takeBellows_34 : decode cX0_takeBellows 34 = .ok (.putfield 39, 3) := by decide +kernel
theorem dX0_takeBellows_37 : decode cX0_takeBellows 37 = .ok (.aload_n 0, 1) := by decide +kernel
theorem dX0_takeBellows_38 : decode cX0_takeBellows 38 = .ok (.aload_n 1, 1) := by decide +kernel
theorem dX0_takeBellows_39 : decode cX0_takeBellows 39 = .ok (.getfield 65, 3) := by decide +kernel
theorem dX0_takeBellows_42 : decode cX0_takeBellows 42 = .ok (.putfield 65, 3) := by decide +kernel
theorem dX0_takeBellows_45 : decode cX0_takeBellows 45 = .ok (.aload_n 0, 1) := by decide +kernel
theorem dX0_takeBellows_46 : decode cX0_takeBellows 46 = .ok (.aload_n 1, 1) := by decide +kernel
theorem dX0_takeBellows_47 : decode cX0_takeBellows 47 = .ok (.getfield 68, 3) := by decide +kernel
theorem dX0_takeBellows_50 : decode cX0_takeBellows 50 = .ok (.putfield 68, 3) := by decide +kernel
theorem dX0_takeBellows_53 : decode cX0_takeBellows 53 = .ok (.aload_n 0, 1) := by decide +kernel
theorem dX0_takeBellows_54 : decode cX0_takeBellows 54 = .ok (.aload_n 1, 1) := by decide +kernel
theorem dX0_takeBellows_55 : decode cX0_takeBellows 55 = .ok (.getfield 71, 3) := by decide +kernel
theorem dX0_takeBellows_58 : decode cX0_takeBellows 58 = .ok (.putfield 71, 3) := by decide +kernel
theorem dX0_takeBellows_61 : decode cX0_takeBellows 61 = .ok (.aload_n 0, 1) := by decide +kernel
theorem dX0_takeBellows_62 : decode cX0_takeBellows 62 = .ok (.aload_n 1, 1) := by decide +kernel
theorem dX0_takeBellows_63 : decode cX0_takeBellows 63 = .ok (.getfield 43, 3) := by decide +kernel
theorem dX0_takeBellows_66 : decode cX0_takeBellows 66 = .ok (.putfield 43, 3) := by decide +kernel
theorem dX0_takeBellows_69 : decode cX0_takeBellows 69 = .ok (.aload_n 0, 1) := by decide +kernel
theorem dX0_takeBellows_70 : decode cX0_takeBellows 70 = .ok (.aload_n 1, 1) := by decide +kernel
theorem dX0_takeBellows_71 : decode cX0_takeBellows 71 = .ok (.getfield 74, 3) := by decide +kernel
theorem dX0_takeBellows_74 : decode cX0_takeBellows 74 = .ok (.putfield 74, 3) := by decide +kernel
theorem dX0_takeBellows_77 : decode cX0_takeBellows 77 = .ok (.aload_n 0, 1) := by decide +kernel
theorem dX0_takeBellows_78 : decode cX0_takeBellows 78 = .ok (.aload_n 1, 1) := by decide +kernel
theorem dX0_takeBellows_79 : decode cX0_takeBellows 79 = .ok (.getfield 77, 3) := by decide +kernel
theorem dX0_takeBellows_82 : decode cX0_takeBellows 82 = .ok (.putfield 77, 3) := by decide +kernel
theorem dX0_takeBellows_85 : decode cX0_takeBellows 85 = .ok (.aload_n 0, 1) := by decide +kernel
theorem dX0_takeBellows_86 : decode cX0_takeBellows 86 = .ok (.aload_n 1, 1) := by decide +kernel
theorem dX0_takeBellows_87 : decode cX0_takeBellows 87 = .ok (.getfield 80, 3) := by decide +kernel
theorem dX0_takeBellows_90 : decode cX0_takeBellows 90 = .ok (.putfield 80, 3) := by decide +kernel
theorem dX0_takeBellows_93 : decode cX0_takeBellows 93 = .ok (.return_, 1) := by decide +kernel
theorem dX0_manualOf_0 : decode cX0_manualOf 0 = .ok (.aload_n 0, 1) := by decide +kernel
theorem dX0_manualOf_1 : decode cX0_manualOf 1 = .ok (.getfield 9, 3) := by decide +kernel
theorem dX0_manualOf_4 : decode cX0_manualOf 4 = .ok (.iload_n 1, 1) := by decide +kernel
theorem dX0_manualOf_5 : decode cX0_manualOf 5 = .ok (.iaload, 1) := by decide +kernel
theorem dX0_manualOf_6 : decode cX0_manualOf 6 = .ok (.ifCond .ne 7, 3) := by decide +kernel
theorem dX0_manualOf_9 : decode cX0_manualOf 9 = .ok (.iconst 0, 1) := by decide +kernel
theorem dX0_manualOf_10 : decode cX0_manualOf 10 = .ok (.goto 4, 3) := by decide +kernel
theorem dX0_manualOf_13 : decode cX0_manualOf 13 = .ok (.iconst 1, 1) := by decide +kernel
theorem dX0_manualOf_14 : decode cX0_manualOf 14 = .ok (.ireturn, 1) := by decide +kernel
theorem dX0_need_0 : decode cX0_need 0 = .ok (.aload_n 0, 1) := by decide +kernel
theorem dX0_need_1 : decode cX0_need 1 = .ok (.getfield 15, 3) := by decide +kernel
theorem dX0_need_4 : decode cX0_need 4 = .ok (.iload_n 1, 1) := by decide +kernel
theorem dX0_need_5 : decode cX0_need 5 = .ok (.iaload, 1) := by decide +kernel
theorem dX0_need_6 : decode cX0_need 6 = .ok (.bipush 23, 2) := by decide +kernel
theorem dX0_need_8 : decode cX0_need 8 = .ok (.iload_n 2, 1) := by decide +kernel
theorem dX0_need_9 : decode cX0_need 9 = .ok (.isub, 1) := by decide +kernel
theorem dX0_need_10 : decode cX0_need 10 = .ok (.iconst 4, 1) := by decide +kernel
theorem dX0_need_11 : decode cX0_need 11 = .ok (.idiv, 1) := by decide +kernel
theorem dX0_need_12 : decode cX0_need 12 = .ok (.iadd, 1) := by decide +kernel
theorem dX0_need_13 : decode cX0_need 13 = .ok (.ireturn, 1) := by decide +kernel
theorem dX0_actingKeys_0 : decode cX0_actingKeys 0 = .ok (.aload_n 0, 1) := by decide +kernel
theorem dX0_actingKeys_1 : decode cX0_actingKeys 1 = .ok (.getfield 33, 3) := by decide +kernel
theorem dX0_actingKeys_4 : decode cX0_actingKeys 4 = .ok (.iconst 0, 1) := by decide +kernel
theorem dX0_actingKeys_5 : decode cX0_actingKeys 5 = .ok (.iaload, 1) := by decide +kernel
theorem dX0_actingKeys_6 : decode cX0_actingKeys 6 = .ok (.istore_n 2, 1) := by decide +kernel
theorem dX0_actingKeys_7 : decode cX0_actingKeys 7 = .ok (.aload_n 0, 1) := by decide +kernel
theorem dX0_actingKeys_8 : decode cX0_actingKeys 8 = .ok (.getfield 62, 3) := by decide +kernel
theorem dX0_actingKeys_11 : decode cX0_actingKeys 11 = .ok (.ifCond .eq 18, 3) := by decide +kernel
theorem dX0_actingKeys_14 : decode cX0_actingKeys 14 = .ok (.iload_n 2, 1) := by decide +kernel
theorem dX0_actingKeys_15 : decode cX0_actingKeys 15 = .ok (.aload_n 0, 1) := by decide +kernel
theorem dX0_actingKeys_16 : decode cX0_actingKeys 16 = .ok (.getfield 33, 3) := by decide +kernel
theorem dX0_actingKeys_19 : decode cX0_actingKeys 19 = .ok (.iconst 0, 1) := by decide +kernel
theorem dX0_actingKeys_20 : decode cX0_actingKeys 20 = .ok (.iaload, 1) := by decide +kernel
theorem dX0_actingKeys_21 : decode cX0_actingKeys 21 = .ok (.bipush 12, 2) := by decide +kernel
theorem dX0_actingKeys_23 : decode cX0_actingKeys 23 = .ok (.ishl, 1) := by decide +kernel
theorem dX0_actingKeys_24 : decode cX0_actingKeys 24 = .ok (.ldc 83, 2) := by decide +kernel
theorem dX0_actingKeys_26 : decode cX0_actingKeys 26 = .ok (.iand, 1) := by decide +kernel
theorem dX0_actingKeys_27 : decode cX0_actingKeys 27 = .ok (.ior, 1) := by decide +kernel
theorem dX0_actingKeys_28 : decode cX0_actingKeys 28 = .ok (.istore_n 2, 1) := by decide +kernel
theorem dX0_actingKeys_29 : decode cX0_actingKeys 29 = .ok (.iload_n 1, 1) := by decide +kernel
theorem dX0_actingKeys_30 : decode cX0_actingKeys 30 = .ok (.ifCond .ne 5, 3) := by decide +kernel
theorem dX0_actingKeys_33 : decode cX0_actingKeys 33 = .ok (.iload_n 2, 1) := by decide +kernel
theorem dX0_actingKeys_34 : decode cX0_actingKeys 34 = .ok (.ireturn, 1) := by decide +kernel
theorem dX0_actingKeys_35 : decode cX0_actingKeys 35 = .ok (.aload_n 0, 1) := by decide +kernel
theorem dX0_actingKeys_36 : decode cX0_actingKeys 36 = .ok (.getfield 58, 3) := by decide +kernel
theorem dX0_actingKeys_39 : decode cX0_actingKeys 39 = .ok (.ifCond .eq 14, 3) := by decide +kernel
theorem dX0_actingKeys_42 : decode cX0_actingKeys 42 = .ok (.aload_n 0, 1) := by decide +kernel
theorem dX0_actingKeys_43 : decode cX0_actingKeys 43 = .ok (.getfield 33, 3) := by decide +kernel
theorem dX0_actingKeys_46 : decode cX0_actingKeys 46 = .ok (.iconst 1, 1) := by decide +kernel
theorem dX0_actingKeys_47 : decode cX0_actingKeys 47 = .ok (.iaload, 1) := by decide +kernel
theorem dX0_actingKeys_48 : decode cX0_actingKeys 48 = .ok (.iload_n 2, 1) := by decide +kernel
theorem dX0_actingKeys_49 : decode cX0_actingKeys 49 = .ok (.ior, 1) := by decide +kernel
theorem dX0_actingKeys_50 : decode cX0_actingKeys 50 = .ok (.goto 9, 3) := by decide +kernel
theorem dX0_actingKeys_53 : decode cX0_actingKeys 53 = .ok (.aload_n 0, 1) := by decide +kernel
theorem dX0_actingKeys_54 : decode cX0_actingKeys 54 = .ok (.getfield 33, 3) := by decide +kernel
theorem dX0_actingKeys_57 : decode cX0_actingKeys 57 = .ok (.iconst 1, 1) := by decide +kernel
theorem dX0_actingKeys_58 : decode cX0_actingKeys 58 = .ok (.iaload, 1) := by decide +kernel
theorem dX0_actingKeys_59 : decode cX0_actingKeys 59 = .ok (.ireturn, 1) := by decide +kernel
theorem dX0_reservoirPressure_0 : decode cX0_reservoirPressure 0 = .ok (.aload_n 0, 1) := by decide +kernel
theorem dX0_reservoirPressure_1 : decode cX0_reservoirPressure 1 = .ok (.getfield 39, 3) := by decide +kernel
theorem dX0_reservoirPressure_4 : decode cX0_reservoirPressure 4 = .ok (.aload_n 0, 1) := by decide +kernel
theorem dX0_reservoirPressure_5 : decode cX0_reservoirPressure 5 = .ok (.getfield 30, 3) := by decide +kernel
theorem dX0_reservoirPressure_8 : decode cX0_reservoirPressure 8 = .ok (.iconst 3, 1) := by decide +kernel
theorem dX0_reservoirPressure_9 : decode cX0_reservoirPressure 9 = .ok (.iaload, 1) := by decide +kernel
theorem dX0_reservoirPressure_10 : decode cX0_reservoirPressure 10 = .ok (.if_icmp .lt 10, 3) := by decide +kernel
theorem dX0_reservoirPressure_13 : decode cX0_reservoirPressure 13 = .ok (.aload_n 0, 1) := by decide +kernel
theorem dX0_reservoirPressure_14 : decode cX0_reservoirPressure 14 = .ok (.getfield 30, 3) := by decide +kernel
theorem dX0_reservoirPressure_17 : decode cX0_reservoirPressure 17 = .ok (.iconst 0, 1) := by decide +kernel
theorem dX0_reservoirPressure_18 : decode cX0_reservoirPressure 18 = .ok (.iaload, 1) := by decide +kernel
theorem dX0_reservoirPressure_19 : decode cX0_reservoirPressure 19 = .ok (.ireturn, 1) := by decide +kernel
theorem dX0_reservoirPressure_20 : decode cX0_reservoirPressure 20 = .ok (.aload_n 0, 1) := by decide +kernel
theorem dX0_reservoirPressure_21 : decode cX0_reservoirPressure 21 = .ok (.getfield 30, 3) := by decide +kernel
theorem dX0_reservoirPressure_24 : decode cX0_reservoirPressure 24 = .ok (.iconst 0, 1) := by decide +kernel
theorem dX0_reservoirPressure_25 : decode cX0_reservoirPressure 25 = .ok (.iaload, 1) := by decide +kernel
theorem dX0_reservoirPressure_26 : decode cX0_reservoirPressure 26 = .ok (.aload_n 0, 1) := by decide +kernel
theorem dX0_reservoirPressure_27 : decode cX0_reservoirPressure 27 = .ok (.getfield 39, 3) := by decide +kernel
theorem dX0_reservoirPressure_30 : decode cX0_reservoirPressure 30 = .ok (.imul, 1) := by decide +kernel
theorem dX0_reservoirPressure_31 : decode cX0_reservoirPressure 31 = .ok (.aload_n 0, 1) := by decide +kernel
theorem dX0_reservoirPressure_32 : decode cX0_reservoirPressure 32 = .ok (.getfield 30, 3) := by decide +kernel
theorem dX0_reservoirPressure_35 : decode cX0_reservoirPressure 35 = .ok (.iconst 3, 1) := by decide +kernel
theorem dX0_reservoirPressure_36 : decode cX0_reservoirPressure 36 = .ok (.iaload, 1) := by decide +kernel
theorem dX0_reservoirPressure_37 : decode cX0_reservoirPressure 37 = .ok (.invokestatic 84, 3) := by decide +kernel
theorem dX0_reservoirPressure_40 : decode cX0_reservoirPressure 40 = .ok (.ireturn, 1) := by decide +kernel
theorem dX0_pump_0 : decode cX0_pump 0 = .ok (.aload_n 0, 1) := by decide +kernel
theorem dX0_pump_1 : decode cX0_pump 1 = .ok (.getfield 80, 3) := by decide +kernel
theorem dX0_pump_4 : decode cX0_pump 4 = .ok (.ifCond .ne 20, 3) := by decide +kernel
theorem dX0_pump_7 : decode cX0_pump 7 = .ok (.aload_n 0, 1) := by decide +kernel
theorem dX0_pump_8 : decode cX0_pump 8 = .ok (.getfield 39, 3) := by decide +kernel
theorem dX0_pump_11 : decode cX0_pump 11 = .ok (.aload_n 0, 1) := by decide +kernel
theorem dX0_pump_12 : decode cX0_pump 12 = .ok (.getfield 30, 3) := by decide +kernel
theorem dX0_pump_15 : decode cX0_pump 15 = .ok (.iconst 5, 1) := by decide +kernel
theorem dX0_pump_16 : decode cX0_pump 16 = .ok (.iaload, 1) := by decide +kernel
theorem dX0_pump_17 : decode cX0_pump 17 = .ok (.if_icmp .ge 7, 3) := by decide +kernel
theorem dX0_pump_20 : decode cX0_pump 20 = .ok (.aload_n 0, 1) := by decide +kernel
theorem dX0_pump_21 : decode cX0_pump 21 = .ok (.invokevirtual 88, 3) := by decide +kernel
theorem dX0_pump_24 : decode cX0_pump 24 = .ok (.aload_n 0, 1) := by decide +kernel
theorem dX0_pump_25 : decode cX0_pump 25 = .ok (.getfield 80, 3) := by decide +kernel
theorem dX0_pump_28 : decode cX0_pump 28 = .ok (.ifCond .le 7, 3) := by decide +kernel
theorem dX0_pump_31 : decode cX0_pump 31 = .ok (.aload_n 0, 1) := by decide +kernel
theorem dX0_pump_32 : decode cX0_pump 32 = .ok (.invokevirtual 91, 3) := by decide +kernel
theorem dX0_pump_35 : decode cX0_pump 35 = .ok (.return_, 1) := by decide +kernel
theorem dX0_beginStroke_0 : decode cX0_beginStroke 0 = .ok (.aload_n 0, 1) := by decide +kernel
theorem dX0_beginStroke_1 : decode cX0_beginStroke 1 = .ok (.aload_n 0, 1) := by decide +kernel
theorem dX0_beginStroke_2 : decode cX0_beginStroke 2 = .ok (.getfield 43, 3) := by decide +kernel
theorem dX0_beginStroke_5 : decode cX0_beginStroke 5 = .ok (.ifCond .ne 7, 3) := by decide +kernel
theorem dX0_beginStroke_8 : decode cX0_beginStroke 8 = .ok (.iconst 1, 1) := by decide +kernel
theorem dX0_beginStroke_9 : decode cX0_beginStroke 9 = .ok (.goto 4, 3) := by decide +kernel
theorem dX0_beginStroke_12 : decode cX0_beginStroke 12 = .ok (.iconst 0, 1) := by decide +kernel
theorem dX0_beginStroke_13 : decode cX0_beginStroke 13 = .ok (.putfield 43, 3) := by decide +kernel
theorem dX0_beginStroke_16 : decode cX0_beginStroke 16 = .ok (.aload_n 0, 1) := by decide +kernel
theorem dX0_beginStroke_17 : decode cX0_beginStroke 17 = .ok (.getfield 36, 3) := by decide +kernel
theorem dX0_beginStroke_20 : decode cX0_beginStroke 20 = .ok (.aload_n 0, 1) := by decide +kernel
theorem dX0_beginStroke_21 : decode cX0_beginStroke 21 = .ok (.getfield 43, 3) := by decide +kernel
theorem dX0_beginStroke_24 : decode cX0_beginStroke 24 = .ok (.dup2, 1) := by decide +kernel
theorem dX0_beginStroke_25 : decode cX0_beginStroke 25 = .ok (.iaload, 1) := by decide +kernel
theorem dX0_beginStroke_26 : decode cX0_beginStroke 26 = .ok (.iconst 1, 1) := by decide +kernel
theorem dX0_beginStroke_27 : decode cX0_beginStroke 27 = .ok (.iadd, 1) := by decide +kernel
theorem dX0_beginStroke_28 : decode cX0_beginStroke 28 = .ok (.iastore, 1) := by decide +kernel
theorem dX0_beginStroke_29 : decode cX0_beginStroke 29 = .ok (.aload_n 0, 1) := by decide +kernel
theorem dX0_beginStroke_30 : decode cX0_beginStroke 30 = .ok (.aload_n 0, 1) := by decide +kernel
theorem dX0_beginStroke_31 : decode cX0_beginStroke 31 = .ok (.getfield 30, 3) := by decide +kernel
theorem dX0_beginStroke_34 : decode cX0_beginStroke 34 = .ok (.bipush 6, 2) := by decide +kernel
theorem dX0_beginStroke_36 : decode cX0_beginStroke 36 = .ok (.iaload, 1) := by decide +kernel
theorem dX0_beginStroke_37 : decode cX0_beginStroke 37 = .ok (.putfield 74, 3) := by decide +kernel
theorem dX0_beginStroke_40 : decode cX0_beginStroke 40 = .ok (.aload_n 0, 1) := by decide +kernel
theorem dX0_beginStroke_41 : decode cX0_beginStroke 41 = .ok (.aload_n 0, 1) := by decide +kernel
theorem dX0_beginStroke_42 : decode cX0_beginStroke 42 = .ok (.getfield 30, 3) := by decide +kernel
theorem dX0_beginStroke_45 : decode cX0_beginStroke 45 = .ok (.bipush 7, 2) := by decide +kernel
theorem dX0_beginStroke_47 : decode cX0_beginStroke 47 = .ok (.iaload, 1) := by decide +kernel
theorem dX0_beginStroke_48 : decode cX0_beginStroke 48 = .ok (.putfield 80, 3) := by decide +kernel
theorem dX0_beginStroke_51 : decode cX0_beginStroke 51 = .ok (.aload_n 0, 1) := by decide +kernel
theorem dX0_beginStroke_52 : decode cX0_beginStroke 52 = .ok (.aload_n 0, 1) := by decide +kernel
theorem dX0_beginStroke_53 : decode cX0_beginStroke 53 = .ok (.getfield 74, 3) := by decide +kernel
theorem dX0_beginStroke_56 : decode cX0_beginStroke 56 = .ok (.aload_n 0, 1) := by decide +kernel
theorem dX0_beginStroke_57 : decode cX0_beginStroke 57 = .ok (.getfield 80, 3) := by decide +kernel
theorem dX0_beginStroke_60 : decode cX0_beginStroke 60 = .ok (.invokestatic 84, 3) := by decide +kernel
theorem dX0_beginStroke_63 : decode cX0_beginStroke 63 = .ok (.putfield 77, 3) := by decide +kernel
theorem dX0_beginStroke_66 : decode cX0_beginStroke 66 = .ok (.return_, 1) := by decide +kernel
theorem dX0_makePart_0 : decode cX0_makePart 0 = .ok (.aload_n 0, 1) := by decide +kernel
theorem dX0_makePart_1 : decode cX0_makePart 1 = .ok (.getfield 80, 3) := by decide +kernel
theorem dX0_makePart_4 : decode cX0_makePart 4 = .ok (.iconst 1, 1) := by decide +kernel
theorem dX0_makePart_5 : decode cX0_makePart 5 = .ok (.if_icmp .ne 10, 3) := by decide +kernel
theorem dX0_makePart_8 : decode cX0_makePart 8 = .ok (.aload_n 0, 1) := by decide +kernel
theorem dX0_makePart_9 : decode cX0_makePart 9 = .ok (.getfield 74, 3) := by decide +kernel
theorem dX0_makePart_12 : decode cX0_makePart 12 = .ok (.goto 7, 3) := by decide +kernel
theorem dX0_makePart_15 : decode cX0_makePart 15 = .ok (.aload_n 0, 1) := by decide +kernel
theorem dX0_makePart_16 : decode cX0_makePart 16 = .ok (.getfield 77, 3) := by decide +kernel
theorem dX0_makePart_19 : decode cX0_makePart 19 = .ok (.istore_n 1, 1) := by decide +kernel
theorem dX0_makePart_20 : decode cX0_makePart 20 = .ok (.aload_n 0, 1) := by decide +kernel
theorem dX0_makePart_21 : decode cX0_makePart 21 = .ok (.dup, 1) := by decide +kernel
theorem dX0_makePart_22 : decode cX0_makePart 22 = .ok (.getfield 80, 3) := by decide +kernel
theorem dX0_makePart_25 : decode cX0_makePart 25 = .ok (.iconst 1, 1) := by decide +kernel
theorem dX0_makePart_26 : decode cX0_makePart 26 = .ok (.isub, 1) := by decide +kernel
theorem dX0_makePart_27 : decode cX0_makePart 27 = .ok (.putfield 80, 3) := by decide +kernel
theorem dX0_makePart_30 : decode cX0_makePart 30 = .ok (.aload_n 0, 1) := by decide +kernel
theorem dX0_makePart_31 : decode cX0_makePart 31 = .ok (.dup, 1) := by decide +kernel
theorem dX0_makePart_32 : decode cX0_makePart 32 = .ok (.getfield 74, 3) := by decide +kernel
theorem dX0_makePart_35 : decode cX0_makePart 35 = .ok (.iload_n 1, 1) := by decide +kernel
theorem dX0_makePart_36 : decode cX0_makePart 36 = .ok (.isub, 1) := by decide +kernel
theorem dX0_makePart_37 : decode cX0_makePart 37 = .ok (.putfield 74, 3) := by decide +kernel
theorem dX0_makePart_40 : decode cX0_makePart 40 = .ok (.aload_n 0, 1) := by decide +kernel
theorem dX0_makePart_41 : decode cX0_makePart 41 = .ok (.dup, 1) := by decide +kernel
theorem dX0_makePart_42 : decode cX0_makePart 42 = .ok (.getfield 68, 3) := by decide +kernel
theorem dX0_makePart_45 : decode cX0_makePart 45 = .ok (.iload_n 1, 1) := by decide +kernel
theorem dX0_makePart_46 : decode cX0_makePart 46 = .ok (.iadd, 1) := by decide +kernel
theorem dX0_makePart_47 : decode cX0_makePart 47 = .ok (.putfield 68, 3) := by decide +kernel
theorem dX0_makePart_50 : decode cX0_makePart 50 = .ok (.aload_n 0, 1) := by decide +kernel
theorem dX0_makePart_51 : decode cX0_makePart 51 = .ok (.dup, 1) := by decide +kernel
theorem dX0_makePart_52 : decode cX0_makePart 52 = .ok (.getfield 39, 3) := by decide +kernel
theorem dX0_makePart_55 : decode cX0_makePart 55 = .ok (.iload_n 1, 1) := by decide +kernel
theorem dX0_makePart_56 : decode cX0_makePart 56 = .ok (.iadd, 1) := by decide +kernel
theorem dX0_makePart_57 : decode cX0_makePart 57 = .ok (.putfield 39, 3) := by decide +kernel
theorem dX0_makePart_60 : decode cX0_makePart 60 = .ok (.aload_n 0, 1) := by decide +kernel
theorem dX0_makePart_61 : decode cX0_makePart 61 = .ok (.getfield 39, 3) := by decide +kernel
theorem dX0_makePart_64 : decode cX0_makePart 64 = .ok (.aload_n 0, 1) := by decide +kernel
theorem dX0_makePart_65 : decode cX0_makePart 65 = .ok (.getfield 30, 3) := by decide +kernel
theorem dX0_makePart_68 : decode cX0_makePart 68 = .ok (.iconst 4, 1) := by decide +kernel
theorem dX0_makePart_69 : decode cX0_makePart 69 = .ok (.iaload, 1) := by decide +kernel
theorem dX0_makePart_70 : decode cX0_makePart 70 = .ok (.if_icmp .le 33, 3) := by decide +kernel
theorem dX0_makePart_73 : decode cX0_makePart 73 = .ok (.aload_n 0, 1) := by decide +kernel
theorem dX0_makePart_74 : decode cX0_makePart 74 = .ok (.dup, 1) := by decide +kernel
theorem dX0_makePart_75 : decode cX0_makePart 75 = .ok (.getfield 71, 3) := by decide +kernel
theorem dX0_makePart_78 : decode cX0_makePart 78 = .ok (.aload_n 0, 1) := by decide +kernel
theorem dX0_makePart_79 : decode cX0_makePart 79 = .ok (.getfield 39, 3) := by decide +kernel
theorem dX0_makePart_82 : decode cX0_makePart 82 = .ok (.aload_n 0, 1) := by decide +kernel
theorem dX0_makePart_83 : decode cX0_makePart 83 = .ok (.getfield 30, 3) := by decide +kernel
theorem dX0_makePart_86 : decode cX0_makePart 86 = .ok (.iconst 4, 1) := by decide +kernel
theorem dX0_makePart_87 : decode cX0_makePart 87 = .ok (.iaload, 1) := by decide +kernel
theorem dX0_makePart_88 : decode cX0_makePart 88 = .ok (.isub, 1) := by decide +kernel
theorem dX0_makePart_89 : decode cX0_makePart 89 = .ok (.iadd, 1) := by decide +kernel
theorem dX0_makePart_90 : decode cX0_makePart 90 = .ok (.putfield 71, 3) := by decide +kernel
theorem dX0_makePart_93 : decode cX0_makePart 93 = .ok (.aload_n 0, 1) := by decide +kernel
theorem dX0_makePart_94 : decode cX0_makePart 94 = .ok (.aload_n 0, 1) := by decide +kernel
theorem dX0_makePart_95 : decode cX0_makePart 95 = .ok (.getfield 30, 3) := by decide +kernel
theorem dX0_makePart_98 : decode cX0_makePart 98 = .ok (.iconst 4, 1) := by decide +kernel
theorem dX0_makePart_99 : decode cX0_makePart 99 = .ok (.iaload, 1) := by decide +kernel
theorem dX0_makePart_100 : decode cX0_makePart 100 = .ok (.putfield 39, 3) := by decide +kernel
theorem dX0_makePart_103 : decode cX0_makePart 103 = .ok (.return_, 1) := by decide +kernel
theorem dX1_init_0 : decode cX1_init 0 = .ok (.aload_n 0, 1) := by decide +kernel
theorem dX1_init_1 : decode cX1_init 1 = .ok (.invokespecial 3, 3) := by decide +kernel
theorem dX1_init_4 : decode cX1_init 4 = .ok (.aload_n 0, 1) := by decide +kernel
theorem dX1_init_5 : decode cX1_init 5 = .ok (.bipush 80, 2) := by decide +kernel
theorem dX1_init_7 : decode cX1_init 7 = .ok (.newarray .int, 2) := by decide +kernel
theorem dX1_init_9 : decode cX1_init 9 = .ok (.putfield 9, 3) := by decide +kernel
theorem dX1_init_12 : decode cX1_init 12 = .ok (.return_, 1) := by decide +kernel
theorem dX1_add_0 : decode cX1_add 0 = .ok (.aload_n 0, 1) := by decide +kernel
theorem dX1_add_1 : decode cX1_add 1 = .ok (.getfield 15, 3) := by decide +kernel
theorem dX1_add_4 : decode cX1_add 4 = .ok (.iconst 0, 1) := by decide +kernel
theorem dX1_add_5 : decode cX1_add 5 = .ok (.bipush 79, 2) := by decide +kernel
theorem dX1_add_7 : decode cX1_add 7 = .ok (.invokestatic 19, 3) := by decide +kernel
theorem dX1_add_10 : decode cX1_add 10 = .ok (.ifCond .ne 5, 3) := by decide +kernel
theorem dX1_add_13 : decode cX1_add 13 = .ok (.iconst 0, 1) := by decide +kernel
theorem dX1_add_14 : decode cX1_add 14 = .ok (.ireturn, 1) := by decide +kernel
theorem dX1_add_15 : decode cX1_add 15 = .ok (.aload_n 0, 1) := by decide +kernel
theorem dX1_add_16 : decode cX1_add 16 = .ok (.getfield 9, 3) := by decide +kernel
theorem dX1_add_19 : decode cX1_add 19 = .ok (.aload_n 0, 1) := by decide +kernel
theorem dX1_add_20 : decode cX1_add 20 = .ok (.getfield 15, 3) := by decide +kernel
theorem dX1_add_23 : decode cX1_add 23 = .ok (.iload_n 1, 1) := by decide +kernel
theorem dX1_add_24 : decode cX1_add 24 = .ok (.iastore, 1) := by decide +kernel
theorem dX1_add_25 : decode cX1_add 25 = .ok (.aload_n 0, 1) := by decide +kernel
theorem dX1_add_26 : decode cX1_add 26 = .ok (.dup, 1) := by decide +kernel
theorem dX1_add_27 : decode cX1_add 27 = .ok (.getfield 15, 3) := by decide +kernel
theorem dX1_add_30 : decode cX1_add 30 = .ok (.iconst 1, 1) := by decide +kernel
theorem dX1_add_31 : decode cX1_add 31 = .ok (.iadd, 1) := by decide +kernel
theorem dX1_add_32 : decode cX1_add 32 = .ok (.putfield 15, 3) := by decide +kernel
theorem dX1_add_35 : decode cX1_add 35 = .ok (.iconst 1, 1) := by decide +kernel
theorem dX1_add_36 : decode cX1_add 36 = .ok (.ireturn, 1) := by decide +kernel
theorem dX1_begin_0 : decode cX1_begin 0 = .ok (.aload_n 0, 1) := by decide +kernel
theorem dX1_begin_1 : decode cX1_begin 1 = .ok (.iconst 0, 1) := by decide +kernel
theorem dX1_begin_2 : decode cX1_begin 2 = .ok (.putfield 23, 3) := by decide +kernel
theorem dX1_begin_5 : decode cX1_begin 5 = .ok (.aload_n 0, 1) := by decide +kernel
theorem dX1_begin_6 : decode cX1_begin 6 = .ok (.ldc 26, 2) := by decide +kernel
theorem dX1_begin_8 : decode cX1_begin 8 = .ok (.putfield 27, 3) := by decide +kernel
theorem dX1_begin_11 : decode cX1_begin 11 = .ok (.return_, 1) := by decide +kernel
theorem dX1_hasMore_0 : decode cX1_hasMore 0 = .ok (.aload_n 0, 1) := by decide +kernel
theorem dX1_hasMore_1 : decode cX1_hasMore 1 = .ok (.getfield 23, 3) := by decide +kernel
theorem dX1_hasMore_4 : decode cX1_hasMore 4 = .ok (.aload_n 0, 1) := by decide +kernel
theorem dX1_hasMore_5 : decode cX1_hasMore 5 = .ok (.getfield 15, 3) := by decide +kernel
theorem dX1_hasMore_8 : decode cX1_hasMore 8 = .ok (.if_icmp .ge 7, 3) := by decide +kernel
theorem dX1_hasMore_11 : decode cX1_hasMore 11 = .ok (.iconst 1, 1) := by decide +kernel
theorem dX1_hasMore_12 : decode cX1_hasMore 12 = .ok (.goto 4, 3) := by decide +kernel
theorem dX1_hasMore_15 : decode cX1_hasMore 15 = .ok (.iconst 0, 1) := by decide +kernel
theorem dX1_hasMore_16 : decode cX1_hasMore 16 = .ok (.ireturn, 1) := by decide +kernel
theorem dX1_findFault_0 : decode cX1_findFault 0 = .ok (.aload_n 0, 1) := by decide +kernel
theorem dX1_findFault_1 : decode cX1_findFault 1 = .ok (.invokevirtual 30, 3) := by decide +kernel
theorem dX1_findFault_4 : decode cX1_findFault 4 = .ok (.iconst 0, 1) := by decide +kernel
theorem dX1_findFault_5 : decode cX1_findFault 5 = .ok (.istore_n 1, 1) := by decide +kernel
theorem dX1_findFault_6 : decode cX1_findFault 6 = .ok (.iload_n 1, 1) := by decide +kernel
theorem dX1_findFault_7 : decode cX1_findFault 7 = .ok (.bipush 80, 2) := by decide +kernel
theorem dX1_findFault_9 : decode cX1_findFault 9 = .ok (.if_icmp .ge 29, 3) := by decide +kernel
theorem dX1_findFault_12 : decode cX1_findFault 12 = .ok (.aload_n 0, 1) := by decide +kernel
theorem dX1_findFault_13 : decode cX1_findFault 13 = .ok (.invokevirtual 33, 3) := by decide +kernel
theorem dX1_findFault_16 : decode cX1_findFault 16 = .ok (.ifCond .eq 22, 3) := by decide +kernel
theorem dX1_findFault_19 : decode cX1_findFault 19 = .ok (.aload_n 0, 1) := by decide +kernel
theorem dX1_findFault_20 : decode cX1_findFault 20 = .ok (.getfield 27, 3) := by decide +kernel
theorem dX1_findFault_23 : decode cX1_findFault 23 = .ok (.ldc 26, 2) := by decide +kernel
theorem dX1_findFault_25 : decode cX1_findFault 25 = .ok (.if_icmp .ne 13, 3) := by decide +kernel
theorem dX1_findFault_28 : decode cX1_findFault 28 = .ok (.aload_n 0, 1) := by decide +kernel
theorem dX1_findFault_29 : decode cX1_findFault 29 = .ok (.invokevirtual 37, 3) := by decide +kernel
theorem dX1_findFault_32 : decode cX1_findFault 32 = .ok (.iinc 1 1, 3) := by decide +kernel
theorem dX1_findFault_35 : decode cX1_findFault 35 = .ok (.goto (-29), 3) := by decide +kernel
theorem dX1_findFault_38 : decode cX1_findFault 38 = .ok (.aload_n 0, 1) := by decide +kernel
theorem dX1_findFault_39 : decode cX1_findFault 39 = .ok (.getfield 27, 3) := by decide +kernel
theorem dX1_findFault_42 : decode cX1_findFault 42 = .ok (.ireturn, 1) := by decide +kernel
theorem dX1_readAct_0 : decode cX1_readAct 0 = .ok (.aload_n 0, 1) := by decide +kernel
theorem dX1_readAct_1 : decode cX1_readAct 1 = .ok (.aload_n 0, 1) := by decide +kernel
theorem dX1_readAct_2 : decode cX1_readAct 2 = .ok (.invokevirtual 40, 3) := by decide +kernel
theorem dX1_readAct_5 : decode cX1_readAct 5 = .ok (.putfield 44, 3) := by decide +kernel
theorem dX1_readAct_8 : decode cX1_readAct 8 = .ok (.aload_n 0, 1) := by decide +kernel
theorem dX1_readAct_9 : decode cX1_readAct 9 = .ok (.getfield 44, 3) := by decide +kernel
theorem dX1_readAct_12 : decode cX1_readAct 12 = .ok (.lookupswitch 133 #[(100, 52), (108, 75), (112, 75), (114, 52), (116, 108)], 52) := by decide +kernel
theorem dX1_readAct_64 : decode cX1_readAct 64 = .ok (.aload_n 0, 1) := by decide +kernel
theorem dX1_readAct_65 : decode cX1_readAct 65 = .ok (.dup, 1) := by decide +kernel
theorem dX1_readAct_66 : decode cX1_readAct 66 = .ok (.getfield 23, 3) := by decide +kernel
theorem dX1_readAct_69 : decode cX1_readAct 69 = .ok (.iconst 1, 1) := by decide +kernel
theorem dX1_readAct_70 : decode cX1_readAct 70 = .ok (.iadd, 1) := by decide +kernel
theorem dX1_readAct_71 : decode cX1_readAct 71 = .ok (.putfield 23, 3) := by decide +kernel
theorem dX1_readAct_74 : decode cX1_readAct 74 = .ok (.aload_n 0, 1) := by decide +kernel
theorem dX1_readAct_75 : decode cX1_readAct 75 = .ok (.aload_n 0, 1) := by decide +kernel
theorem dX1_readAct_76 : decode cX1_readAct 76 = .ok (.bipush 7, 2) := by decide +kernel
theorem dX1_readAct_78 : decode cX1_readAct 78 = .ok (.invokevirtual 47, 3) := by decide +kernel
theorem dX1_readAct_81 : decode cX1_readAct 81 = .ok (.putfield 51, 3) := by decide +kernel
theorem dX1_readAct_84 : decode cX1_readAct 84 = .ok (.goto 69, 3) := by decide +kernel
theorem dX1_readAct_87 : decode cX1_readAct 87 = .ok (.aload_n 0, 1) := by decide +kernel
theorem dX1_readAct_88 : decode cX1_readAct 88 = .ok (.dup, 1) := by decide +kernel
theorem dX1_readAct_89 : decode cX1_readAct 89 = .ok (.getfield 23, 3) := by decide +kernel
theorem dX1_readAct_92 : decode cX1_readAct 92 = .ok (.iconst 1, 1) := by decide +kernel
theorem dX1_readAct_93 : decode cX1_readAct 93 = .ok (.iadd, 1) := by decide +kernel
theorem dX1_readAct_94 : decode cX1_readAct 94 = .ok (.putfield 23, 3) := by decide +kernel
theorem dX1_readAct_97 : decode cX1_readAct 97 = .ok (.aload_n 0, 1) := by decide +kernel
theorem dX1_readAct_98 : decode cX1_readAct 98 = .ok (.aload_n 0, 1) := by decide +kernel
theorem dX1_readAct_99 : decode cX1_readAct 99 = .ok (.iconst 1, 1) := by decide +kernel
theorem dX1_readAct_100 : decode cX1_readAct 100 = .ok (.invokevirtual 47, 3) := by decide +kernel
theorem dX1_readAct_103 : decode cX1_readAct 103 = .ok (.putfield 51, 3) := by decide +kernel
theorem dX1_readAct_106 : decode cX1_readAct 106 = .ok (.aload_n 0, 1) := by decide +kernel
theorem dX1_readAct_107 : decode cX1_readAct 107 = .ok (.aload_n 0, 1) := by decide +kernel
theorem dX1_readAct_108 : decode cX1_readAct 108 = .ok (.iconst 0, 1) := by decide +kernel
theorem dX1_readAct_109 : decode cX1_readAct 109 = .ok (.bipush 23, 2) := by decide +kernel
theorem dX1_readAct_111 : decode cX1_readAct 111 = .ok (.invokevirtual 54, 3) := by decide +kernel
theorem dX1_readAct_114 : decode cX1_readAct 114 = .ok (.putfield 58, 3) := by decide +kernel
theorem dX1_readAct_117 : decode cX1_readAct 117 = .ok (.goto 36, 3) := by decide +kernel
theorem dX1_readAct_120 : decode cX1_readAct 120 = .ok (.aload_n 0, 1) := by decide +kernel
theorem dX1_readAct_121 : decode cX1_readAct 121 = .ok (.dup, 1) := by decide +kernel
theorem dX1_readAct_122 : decode cX1_readAct 122 = .ok (.getfield 23, 3) := by decide +kernel
theorem dX1_readAct_125 : decode cX1_readAct 125 = .ok (.iconst 1, 1) := by decide +kernel
theorem dX1_readAct_126 : decode cX1_readAct 126 = .ok (.iadd, 1) := by decide +kernel
theorem dX1_readAct_127 : decode cX1_readAct 127 = .ok (.putfield 23, 3) := by decide +kernel
theorem dX1_readAct_130 : decode cX1_readAct 130 = .ok (.aload_n 0, 1) := by decide +kernel
theorem dX1_readAct_131 : decode cX1_readAct 131 = .ok (.aload_n 0, 1) := by decide +kernel
theorem dX1_readAct_132 : decode cX1_readAct 132 = .ok (.iconst 1, 1) := by decide +kernel
theorem dX1_readAct_133 : decode cX1_readAct 133 = .ok (.sipush 200, 3) := by decide +kernel
theorem dX1_readAct_136 : decode cX1_readAct 136 = .ok (.invokevirtual 54, 3) := by decide +kernel
theorem dX1_readAct_139 : decode cX1_readAct 139 = .ok (.putfield 58, 3) := by decide +kernel
theorem dX1_readAct_142 : decode cX1_readAct 142 = .ok (.goto 11, 3) := by decide +kernel
theorem dX1_readAct_145 : decode cX1_readAct 145 = .ok (.aload_n 0, 1) := by decide +kernel
theorem dX1_readAct_146 : decode cX1_readAct 146 = .ok (.aload_n 0, 1) := by decide +kernel
theorem dX1_readAct_147 : decode cX1_readAct 147 = .ok (.getfield 23, 3) := by decide +kernel
theorem dX1_readAct_150 : decode cX1_readAct 150 = .ok (.putfield 27, 3) := by decide +kernel
theorem dX1_readAct_153 : decode cX1_readAct 153 = .ok (.return_, 1) := by decide +kernel
theorem dX1_readDigit_0 : decode cX1_readDigit 0 = .ok (.aload_n 0, 1) := by decide +kernel
theorem dX1_readDigit_1 : decode cX1_readDigit 1 = .ok (.invokevirtual 40, 3) := by decide +kernel
theorem dX1_readDigit_4 : decode cX1_readDigit 4 = .ok (.bipush 48, 2) := by decide +kernel
theorem dX1_readDigit_6 : decode cX1_readDigit 6 = .ok (.isub, 1) := by decide +kernel
theorem dX1_readDigit_7 : decode cX1_readDigit 7 = .ok (.istore_n 2, 1) := by decide +kernel
theorem dX1_readDigit_8 : decode cX1_readDigit 8 = .ok (.iload_n 2, 1) := by decide +kernel
theorem dX1_readDigit_9 : decode cX1_readDigit 9 = .ok (.iconst 0, 1) := by decide +kernel
theorem dX1_readDigit_10 : decode cX1_readDigit 10 = .ok (.iload_n 1, 1) := by decide +kernel
theorem dX1_readDigit_11 : decode cX1_readDigit 11 = .ok (.invokestatic 19, 3) := by decide +kernel
theorem dX1_readDigit_14 : decode cX1_readDigit 14 = .ok (.ifCond .ne 13, 3) := by decide +kernel
theorem dX1_readDigit_17 : decode cX1_readDigit 17 = .ok (.aload_n 0, 1) := by decide +kernel
theorem dX1_readDigit_18 : decode cX1_readDigit 18 = .ok (.aload_n 0, 1) := by decide +kernel
theorem dX1_readDigit_19 : decode cX1_readDigit 19 = .ok (.getfield 23, 3) := by decide +kernel
theorem dX1_readDigit_22 : decode cX1_readDigit 22 = .ok (.putfield 27, 3) := by decide +kernel
theorem dX1_readDigit_25 : decode cX1_readDigit 25 = .ok (.iconst 0, 1) := by decide +kernel
theorem dX1_readDigit_26 : decode cX1_readDigit 26 = .ok (.ireturn, 1) := by decide +kernel
theorem dX1_readDigit_27 : decode cX1_readDigit 27 = .ok (.aload_n 0, 1) := by decide +kernel
theorem dX1_readDigit_28 : decode cX1_readDigit 28 = .ok (.dup, 1) := by decide +kernel
theorem dX1_readDigit_29 : decode cX1_readDigit 29 = .ok (.getfield 23, 3) := by decide +kernel
theorem dX1_readDigit_32 : decode cX1_readDigit 32 = .ok (.iconst 1, 1) := by decide +kernel
theorem dX1_readDigit_33 : decode cX1_readDigit 33 = .ok (.iadd, 1) := by decide +kernel
theorem dX1_readDigit_34 : decode cX1_readDigit 34 = .ok (.putfield 23, 3) := by decide +kernel
theorem dX1_readDigit_37 : decode cX1_readDigit 37 = .ok (.iload_n 2, 1) := by decide +kernel
theorem dX1_readDigit_38 : decode cX1_readDigit 38 = .ok (.ireturn, 1) := by decide +kernel
theorem dX1_readNumber_0 : decode cX1_readNumber 0 = .ok (.aload_n 0, 1) := by decide +kernel
theorem dX1_readNumber_1 : decode cX1_readNumber 1 = .ok (.getfield 27, 3) := by decide +kernel
theorem dX1_readNumber_4 : decode cX1_readNumber 4 = .ok (.ldc 26, 2) := by decide +kernel
theorem dX1_readNumber_6 : decode cX1_readNumber 6 = .ok (.if_icmp .eq 5, 3) := by decide +kernel
theorem dX1_readNumber_9 : decode cX1_readNumber 9 = .ok (.iconst 0, 1) := by decide +kernel
theorem dX1_readNumber_10 : decode cX1_readNumber 10 = .ok (.ireturn, 1) := by decide +kernel
theorem dX1_readNumber_11 : decode cX1_readNumber 11 = .ok (.aload_n 0, 1) := by decide +kernel
theorem dX1_readNumber_12 : decode cX1_readNumber 12 = .ok (.getfield 23, 3) := by decide +kernel
theorem dX1_readNumber_15 : decode cX1_readNumber 15 = .ok (.istore_n 3, 1) := by decide +kernel
theorem dX1_readNumber_16 : decode cX1_readNumber 16 = .ok (.aload_n 0, 1) := by decide +kernel
theorem dX1_readNumber_17 : decode cX1_readNumber 17 = .ok (.bipush 9, 2) := by decide +kernel
theorem dX1_readNumber_19 : decode cX1_readNumber 19 = .ok (.invokevirtual 47, 3) := by decide +kernel
theorem dX1_readNumber_22 : decode cX1_readNumber 22 = .ok (.istore 4, 2) := by decide +kernel
theorem dX1_readNumber_24 : decode cX1_readNumber 24 = .ok (.aload_n 0, 1) := by decide +kernel
theorem dX1_readNumber_25 : decode cX1_readNumber 25 = .ok (.getfield 27, 3) := by decide +kernel
theorem dX1_readNumber_28 : decode cX1_readNumber 28 = .ok (.ldc 26, 2) := by decide +kernel
theorem dX1_readNumber_30 : decode cX1_readNumber 30 = .ok (.if_icmp .eq 5, 3) := by decide +kernel
theorem dX1_readNumber_33 : decode cX1_readNumber 33 = .ok (.iconst 0, 1) := by decide +kernel
theorem dX1_readNumber_34 : decode cX1_readNumber 34 = .ok (.ireturn, 1) := by decide +kernel
theorem dX1_readNumber_35 : decode cX1_readNumber 35 = .ok (.iconst 1, 1) := by decide +kernel
theorem dX1_readNumber_36 : decode cX1_readNumber 36 = .ok (.istore 5, 2) := by decide +kernel
theorem dX1_readNumber_38 : decode cX1_readNumber 38 = .ok (.iload 5, 2) := by decide +kernel
theorem dX1_readNumber_40 : decode cX1_readNumber 40 = .ok (.iconst 3, 1) := by decide +kernel
theorem dX1_readNumber_41 : decode cX1_readNumber 41 = .ok (.if_icmp .ge 35, 3) := by decide +kernel
theorem dX1_readNumber_44 : decode cX1_readNumber 44 = .ok (.iload 4, 2) := by decide +kernel
theorem dX1_readNumber_46 : decode cX1_readNumber 46 = .ok (.ifCond .eq 30, 3) := by decide +kernel
theorem dX1_readNumber_49 : decode cX1_readNumber 49 = .ok (.aload_n 0, 1) := by decide +kernel
theorem dX1_readNumber_50 : decode cX1_readNumber 50 = .ok (.invokevirtual 61, 3) := by decide +kernel
theorem dX1_readNumber_53 : decode cX1_readNumber 53 = .ok (.ifCond .eq 23, 3) := by decide +kernel
theorem dX1_readNumber_56 : decode cX1_readNumber 56 = .ok (.bipush 10, 2) := by decide +kernel
theorem dX1_readNumber_58 : decode cX1_readNumber 58 = .ok (.iload 4, 2) := by decide +kernel
theorem dX1_readNumber_60 : decode cX1_readNumber 60 = .ok (.imul, 1) := by decide +kernel
theorem dX1_readNumber_61 : decode cX1_readNumber 61 = .ok (.aload_n 0, 1) := by decide +kernel
theorem dX1_readNumber_62 : decode cX1_readNumber 62 = .ok (.bipush 9, 2) := by decide +kernel
theorem dX1_readNumber_64 : decode cX1_readNumber 64 = .ok (.invokevirtual 47, 3) := by decide +kernel
theorem dX1_readNumber_67 : decode cX1_readNumber 67 = .ok (.iadd, 1) := by decide +kernel
theorem dX1_readNumber_68 : decode cX1_readNumber 68 = .ok (.istore 4, 2) := by decide +kernel
theorem dX1_readNumber_70 : decode cX1_readNumber 70 = .ok (.iinc 5 1, 3) := by decide +kernel
theorem dX1_readNumber_73 : decode cX1_readNumber 73 = .ok (.goto (-35), 3) := by decide +kernel
theorem dX1_readNumber_76 : decode cX1_readNumber 76 = .ok (.iload 4, 2) := by decide +kernel
theorem dX1_readNumber_78 : decode cX1_readNumber 78 = .ok (.iload_n 1, 1) := by decide +kernel
theorem dX1_readNumber_79 : decode cX1_readNumber 79 = .ok (.iload_n 2, 1) := by decide +kernel
theorem dX1_readNumber_80 : decode cX1_readNumber 80 = .ok (.invokestatic 19, 3) := by decide +kernel
theorem dX1_readNumber_83 : decode cX1_readNumber 83 = .ok (.ifCond .ne 11, 3) := by decide +kernel
theorem dX1_readNumber_86 : decode cX1_readNumber 86 = .ok (.aload_n 0, 1) := by decide +kernel
theorem dX1_readNumber_87 : decode cX1_readNumber 87 = .ok (.iload_n 3, 1) := by decide +kernel
theorem dX1_readNumber_88 : decode cX1_readNumber 88 = .ok (.putfield 27, 3) := by decide +kernel
theorem dX1_readNumber_91 : decode cX1_readNumber 91 = .ok (.goto 33, 3) := by decide +kernel
theorem dX1_readNumber_94 : decode cX1_readNumber 94 = .ok (.aload_n 0, 1) := by decide +kernel
theorem dX1_readNumber_95 : decode cX1_readNumber 95 = .ok (.invokevirtual 40, 3) := by decide +kernel
theorem dX1_readNumber_98 : decode cX1_readNumber 98 = .ok (.bipush 59, 2) := by decide +kernel
theorem dX1_readNumber_100 : decode cX1_readNumber 100 = .ok (.if_icmp .eq 14, 3) := by decide +kernel
theorem dX1_readNumber_103 : decode cX1_readNumber 103 = .ok (.aload_n 0, 1) := by decide +kernel
theorem dX1_readNumber_104 : decode cX1_readNumber 104 = .ok (.aload_n 0, 1) := by decide +kernel
theorem dX1_readNumber_105 : decode cX1_readNumber 105 = .ok (.getfield 23, 3) := by decide +kernel
theorem dX1_readNumber_108 : decode cX1_readNumber 108 = .ok (.putfield 27, 3) := by decide +kernel
theorem dX1_readNumber_111 : decode cX1_readNumber 111 = .ok (.goto 13, 3) := by decide +kernel
theorem dX1_readNumber_114 : decode cX1_readNumber 114 = .ok (.aload_n 0, 1) := by decide +kernel
theorem dX1_readNumber_115 : decode cX1_readNumber 115 = .ok (.dup, 1) := by decide +kernel
theorem dX1_readNumber_116 : decode cX1_readNumber 116 = .ok (.getfield 23, 3) := by decide +kernel
theorem dX1_readNumber_119 : decode cX1_readNumber 119 = .ok (.iconst 1, 1) := by decide +kernel
theorem dX1_readNumber_120 : decode cX1_readNumber 120 = .ok (.iadd, 1) := by decide +kernel
theorem dX1_readNumber_121 : decode cX1_readNumber 121 = .ok (.putfield 23, 3) := by decide +kernel
theorem dX1_readNumber_124 : decode cX1_readNumber 124 = .ok (.iload 4, 2) := by decide +kernel
theorem dX1_readNumber_126 : decode cX1_readNumber 126 = .ok (.ireturn, 1) := by decide +kernel
theorem dX1_isDigitHere_0 : decode cX1_isDigitHere 0 = .ok (.aload_n 0, 1) := by decide +kernel
theorem dX1_isDigitHere_1 : decode cX1_isDigitHere 1 = .ok (.invokevirtual 40, 3) := by decide +kernel
theorem dX1_isDigitHere_4 : decode cX1_isDigitHere 4 = .ok (.bipush 48, 2) := by decide +kernel
theorem dX1_isDigitHere_6 : decode cX1_isDigitHere 6 = .ok (.bipush 57, 2) := by decide +kernel
theorem dX1_isDigitHere_8 : decode cX1_isDigitHere 8 = .ok (.invokestatic 19, 3) := by decide +kernel
theorem dX1_isDigitHere_11 : decode cX1_isDigitHere 11 = .ok (.ireturn, 1) := by decide +kernel
theorem dX1_letterHere_0 : decode cX1_letterHere 0 = .ok (.aload_n 0, 1) := by decide +kernel
theorem dX1_letterHere_1 : decode cX1_letterHere 1 = .ok (.getfield 23, 3) := by decide +kernel
theorem dX1_letterHere_4 : decode cX1_letterHere 4 = .ok (.iconst 0, 1) := by decide +kernel
theorem dX1_letterHere_5 : decode cX1_letterHere 5 = .ok (.bipush 79, 2) := by decide +kernel
theorem dX1_letterHere_7 : decode cX1_letterHere 7 = .ok (.invokestatic 19, 3) := by decide +kernel
theorem dX1_letterHere_10 : decode cX1_letterHere 10 = .ok (.ifCond .eq 26, 3) := by decide +kernel
theorem dX1_letterHere_13 : decode cX1_letterHere 13 = .ok (.aload_n 0, 1) := by decide +kernel
theorem dX1_letterHere_14 : decode cX1_letterHere 14 = .ok (.getfield 23, 3) := by decide +kernel
theorem dX1_letterHere_17 : decode cX1_letterHere 17 = .ok (.aload_n 0, 1) := by decide +kernel
theorem dX1_letterHere_18 : decode cX1_letterHere 18 = .ok (.getfield 15, 3) := by decide +kernel
theorem dX1_letterHere_21 : decode cX1_letterHere 21 = .ok (.if_icmp .ge 15, 3) := by decide +kernel
theorem dX1_letterHere_24 : decode cX1_letterHere 24 = .ok (.aload_n 0, 1) := by decide +kernel
theorem dX1_letterHere_25 : decode cX1_letterHere 25 = .ok (.getfield 9, 3) := by decide +kernel
theorem dX1_letterHere_28 : decode cX1_letterHere 28 = .ok (.aload_n 0, 1) := by decide +kernel
theorem dX1_letterHere_29 : decode cX1_letterHere 29 = .ok (.getfield 23, 3) := by decide +kernel
theorem dX1_letterHere_32 : decode cX1_letterHere 32 = .ok (.iaload, 1) := by decide +kernel
theorem dX1_letterHere_33 : decode cX1_letterHere 33 = .ok (.goto 4, 3) := by decide +kernel
theorem dX1_letterHere_36 : decode cX1_letterHere 36 = .ok (.iconst (-1), 1) := by decide +kernel
theorem dX1_letterHere_37 : decode cX1_letterHere 37 = .ok (.ireturn, 1) := by decide +kernel
theorem dX2_init_0 : decode cX2_init 0 = .ok (.aload_n 0, 1) := by decide +kernel
theorem dX2_init_1 : decode cX2_init 1 = .ok (.invokespecial 3, 3) := by decide +kernel
theorem dX2_init_4 : decode cX2_init 4 = .ok (.aload_n 0, 1) := by decide +kernel
theorem dX2_init_5 : decode cX2_init 5 = .ok (.bipush 8, 2) := by decide +kernel
theorem dX2_init_7 : decode cX2_init 7 = .ok (.newarray .int, 2) := by decide +kernel
theorem dX2_init_9 : decode cX2_init 9 = .ok (.putfield 9, 3) := by decide +kernel
theorem dX2_init_12 : decode cX2_init 12 = .ok (.aload_n 0, 1) := by decide +kernel
theorem dX2_init_13 : decode cX2_init 13 = .ok (.iconst 2, 1) := by decide +kernel
theorem dX2_init_14 : decode cX2_init 14 = .ok (.newarray .int, 2) := by decide +kernel
theorem dX2_init_16 : decode cX2_init 16 = .ok (.putfield 15, 3) := by decide +kernel
theorem dX2_init_19 : decode cX2_init 19 = .ok (.aload_n 0, 1) := by decide +kernel
theorem dX2_init_20 : decode cX2_init 20 = .ok (.iconst 2, 1) := by decide +kernel
theorem dX2_init_21 : decode cX2_init 21 = .ok (.newarray .int, 2) := by decide +kernel
theorem dX2_init_23 : decode cX2_init 23 = .ok (.putfield 18, 3) := by decide +kernel
theorem dX2_init_26 : decode cX2_init 26 = .ok (.aload_n 0, 1) := by decide +kernel
theorem dX2_init_27 : decode cX2_init 27 = .ok (.bipush 8, 2) := by decide +kernel
theorem dX2_init_29 : decode cX2_init 29 = .ok (.newarray .int, 2) := by decide +kernel
theorem dX2_init_31 : decode cX2_init 31 = .ok (.putfield 21, 3) := by decide +kernel
theorem dX2_init_34 : decode cX2_init 34 = .ok (.aload_n 0, 1) := by decide +kernel
theorem dX2_init_35 : decode cX2_init 35 = .ok (.sipush 192, 3) := by decide +kernel
theorem dX2_init_38 : decode cX2_init 38 = .ok (.newarray .int, 2) := by decide +kernel
theorem dX2_init_40 : decode cX2_init 40 = .ok (.putfield 24, 3) := by decide +kernel
theorem dX2_init_43 : decode cX2_init 43 = .ok (.aload_n 0, 1) := by decide +kernel
theorem dX2_init_44 : decode cX2_init 44 = .ok (.bipush 8, 2) := by decide +kernel
theorem dX2_init_46 : decode cX2_init 46 = .ok (.newarray .int, 2) := by decide +kernel
theorem dX2_init_48 : decode cX2_init 48 = .ok (.putfield 27, 3) := by decide +kernel
theorem dX2_init_51 : decode cX2_init 51 = .ok (.return_, 1) := by decide +kernel
theorem dX2_listen_0 : decode cX2_listen 0 = .ok (.aload_n 0, 1) := by decide +kernel
theorem dX2_listen_1 : decode cX2_listen 1 = .ok (.aload_n 1, 1) := by decide +kernel
theorem dX2_listen_2 : decode cX2_listen 2 = .ok (.iload_n 2, 1) := by decide +kernel
theorem dX2_listen_3 : decode cX2_listen 3 = .ok (.iload_n 3, 1) := by decide +kernel
theorem dX2_listen_4 : decode cX2_listen 4 = .ok (.invokevirtual 30, 3) := by decide +kernel
theorem dX2_listen_7 : decode cX2_listen 7 = .ok (.aload_n 0, 1) := by decide +kernel
theorem dX2_listen_8 : decode cX2_listen 8 = .ok (.aload_n 1, 1) := by decide +kernel
theorem dX2_listen_9 : decode cX2_listen 9 = .ok (.invokevirtual 34, 3) := by decide +kernel
theorem dX2_listen_12 : decode cX2_listen 12 = .ok (.aload_n 1, 1) := by decide +kernel
theorem dX2_listen_13 : decode cX2_listen 13 = .ok (.getfield 38, 3) := by decide +kernel
theorem dX2_listen_16 : decode cX2_listen 16 = .ok (.istore 4, 2) := by decide +kernel
theorem dX2_listen_18 : decode cX2_listen 18 = .ok (.iconst 0, 1) := by decide +kernel
theorem dX2_listen_19 : decode cX2_listen 19 = .ok (.istore 5, 2) := by decide +kernel
theorem dX2_listen_21 : decode cX2_listen 21 = .ok (.iload 5, 2) := by decide +kernel
theorem dX2_listen_23 : decode cX2_listen 23 = .ok (.bipush 8, 2) := by decide +kernel
theorem dX2_listen_25 : decode cX2_listen 25 = .ok (.if_icmp .ge 162, 3) := by decide +kernel
theorem dX2_listen_28 : decode cX2_listen 28 = .ok (.aload_n 0, 1) := by decide +kernel
theorem dX2_listen_29 : decode cX2_listen 29 = .ok (.getfield 18, 3) := by decide +kernel
theorem dX2_listen_32 : decode cX2_listen 32 = .ok (.aload_n 1, 1) := by decide +kernel
theorem dX2_listen_33 : decode cX2_listen 33 = .ok (.iload 5, 2) := by decide +kernel
theorem dX2_listen_35 : decode cX2_listen 35 = .ok (.invokevirtual 44, 3) := by decide +kernel
theorem dX2_listen_38 : decode cX2_listen 38 = .ok (.iaload, 1) := by decide +kernel
theorem dX2_listen_39 : decode cX2_listen 39 = .ok (.aload_n 1, 1) := by decide +kernel
theorem dX2_listen_40 : decode cX2_listen 40 = .ok (.getfield 48, 3) := by decide +kernel
theorem dX2_listen_43 : decode cX2_listen 43 = .ok (.iload 5, 2) := by decide +kernel
theorem dX2_listen_45 : decode cX2_listen 45 = .ok (.iaload, 1) := by decide +kernel
theorem dX2_listen_46 : decode cX2_listen 46 = .ok (.if_icmp .lt 7, 3) := by decide +kernel
theorem dX2_listen_49 : decode cX2_listen 49 = .ok (.iconst 1, 1) := by decide +kernel
theorem dX2_listen_50 : decode cX2_listen 50 = .ok (.goto 4, 3) := by decide +kernel
theorem dX2_listen_53 : decode cX2_listen 53 = .ok (.iconst 0, 1) := by decide +kernel
theorem dX2_listen_54 : decode cX2_listen 54 = .ok (.istore 6, 2) := by decide +kernel
theorem dX2_listen_56 : decode cX2_listen 56 = .ok (.aload_n 0, 1) := by decide +kernel
theorem dX2_listen_57 : decode cX2_listen 57 = .ok (.getfield 27, 3) := by decide +kernel
theorem dX2_listen_60 : decode cX2_listen 60 = .ok (.iload 5, 2) := by decide +kernel
theorem dX2_listen_62 : decode cX2_listen 62 = .ok (.iconst 0, 1) := by decide +kernel
theorem dX2_listen_63 : decode cX2_listen 63 = .ok (.iastore, 1) := by decide +kernel
theorem dX2_listen_64 : decode cX2_listen 64 = .ok (.iconst 0, 1) := by decide +kernel
theorem dX2_listen_65 : decode cX2_listen 65 = .ok (.istore 7, 2) := by decide +kernel
theorem dX2_listen_67 : decode cX2_listen 67 = .ok (.iload 7, 2) := by decide +kernel
theorem dX2_listen_69 : decode cX2_listen 69 = .ok (.bipush 24, 2) := by decide +kernel
theorem dX2_listen_71 : decode cX2_listen 71 = .ok (.if_icmp .ge 110, 3) := by decide +kernel
theorem dX2_listen_74 : decode cX2_listen 74 = .ok (.aload_n 0, 1) := by decide +kernel
theorem dX2_listen_75 : decode cX2_listen 75 = .ok (.getfield 9, 3) := by decide +kernel
theorem dX2_listen_78 : decode cX2_listen 78 = .ok (.iload 5, 2) := by decide +kernel
theorem dX2_listen_80 : decode cX2_listen 80 = .ok (.iaload, 1) := by decide +kernel
theorem dX2_listen_81 : decode cX2_listen 81 = .ok (.iload 7, 2) := by decide +kernel
theorem dX2_listen_83 : decode cX2_listen 83 = .ok (.invokestatic 51, 3) := by decide +kernel
theorem dX2_listen_86 : decode cX2_listen 86 = .ok (.ifCond .eq 89, 3) := by decide +kernel
theorem dX2_listen_89 : decode cX2_listen 89 = .ok (.aload_n 0, 1) := by decide +kernel
theorem dX2_listen_90 : decode cX2_listen 90 = .ok (.aload_n 1, 1) := by decide +kernel
theorem dX2_listen_91 : decode cX2_listen 91 = .ok (.iload 5, 2) := by decide +kernel
theorem dX2_listen_93 : decode cX2_listen 93 = .ok (.iload 7, 2) := by decide +kernel
theorem dX2_listen_95 : decode cX2_listen 95 = .ok (.invokevirtual 55, 3) := by decide +kernel
theorem dX2_listen_98 : decode cX2_listen 98 = .ok (.istore 8, 2) := by decide +kernel
theorem dX2_listen_100 : decode cX2_listen 100 = .ok (.iload 8, 2) := by decide +kernel
theorem dX2_listen_102 : decode cX2_listen 102 = .ok (.iload 4, 2) := by decide +kernel
theorem dX2_listen_104 : decode cX2_listen 104 = .ok (.invokestatic 59, 3) := by decide +kernel
theorem dX2_listen_107 : decode cX2_listen 107 = .ok (.istore 9, 2) := by decide +kernel
theorem dX2_listen_109 : decode cX2_listen 109 = .ok (.aload_n 0, 1) := by decide +kernel
theorem dX2_listen_110 : decode cX2_listen 110 = .ok (.getfield 24, 3) := by decide +kernel
theorem dX2_listen_113 : decode cX2_listen 113 = .ok (.iload 5, 2) := by decide +kernel
theorem dX2_listen_115 : decode cX2_listen 115 = .ok (.iload 7, 2) := by decide +kernel
theorem dX2_listen_117 : decode cX2_listen 117 = .ok (.invokestatic 65, 3) := by decide +kernel
theorem dX2_listen_120 : decode cX2_listen 120 = .ok (.iload 9, 2) := by decide +kernel
theorem dX2_listen_122 : decode cX2_listen 122 = .ok (.iastore, 1) := by decide +kernel
theorem dX2_listen_123 : decode cX2_listen 123 = .ok (.iload 4, 2) := by decide +kernel
theorem dX2_listen_125 : decode cX2_listen 125 = .ok (.iload 9, 2) := by decide +kernel
theorem dX2_listen_127 : decode cX2_listen 127 = .ok (.isub, 1) := by decide +kernel
theorem dX2_listen_128 : decode cX2_listen 128 = .ok (.istore 4, 2) := by decide +kernel
theorem dX2_listen_130 : decode cX2_listen 130 = .ok (.iload 6, 2) := by decide +kernel
theorem dX2_listen_132 : decode cX2_listen 132 = .ok (.ifCond .eq 19, 3) := by decide +kernel
theorem dX2_listen_135 : decode cX2_listen 135 = .ok (.iload 9, 2) := by decide +kernel
theorem dX2_listen_137 : decode cX2_listen 137 = .ok (.iload 8, 2) := by decide +kernel
theorem dX2_listen_139 : decode cX2_listen 139 = .ok (.if_icmp .ne 12, 3) := by decide +kernel
theorem dX2_listen_142 : decode cX2_listen 142 = .ok (.iload 9, 2) := by decide +kernel
theorem dX2_listen_144 : decode cX2_listen 144 = .ok (.ifCond .eq 7, 3) := by decide +kernel
theorem dX2_listen_147 : decode cX2_listen 147 = .ok (.iconst 1, 1) := by decide +kernel
theorem dX2_listen_148 : decode cX2_listen 148 = .ok (.goto 4, 3) := by decide +kernel
theorem dX2_listen_151 : decode cX2_listen 151 = .ok (.iconst 0, 1) := by decide +kernel
theorem dX2_listen_152 : decode cX2_listen 152 = .ok (.istore 10, 2) := by decide +kernel
theorem dX2_listen_154 : decode cX2_listen 154 = .ok (.aload_n 0, 1) := by decide +kernel
theorem dX2_listen_155 : decode cX2_listen 155 = .ok (.getfield 27, 3) := by decide +kernel
theorem dX2_listen_158 : decode cX2_listen 158 = .ok (.iload 5, 2) := by decide +kernel
theorem dX2_listen_160 : decode cX2_listen 160 = .ok (.aload_n 0, 1) := by decide +kernel
theorem dX2_listen_161 : decode cX2_listen 161 = .ok (.getfield 27, 3) := by decide +kernel
theorem dX2_listen_164 : decode cX2_listen 164 = .ok (.iload 5, 2) := by decide +kernel
theorem dX2_listen_166 : decode cX2_listen 166 = .ok (.iaload, 1) := by decide +kernel
theorem dX2_listen_167 : decode cX2_listen 167 = .ok (.iload 7, 2) := by decide +kernel
theorem dX2_listen_169 : decode cX2_listen 169 = .ok (.iload 10, 2) := by decide +kernel
theorem dX2_listen_171 : decode cX2_listen 171 = .ok (.invokestatic 68, 3) := by decide +kernel
theorem dX2_listen_174 : decode cX2_listen 174 = .ok (.iastore, 1) := by decide +kernel
theorem dX2_listen_175 : decode cX2_listen 175 = .ok (.iinc 7 1, 3) := by decide +kernel
theorem dX2_listen_178 : decode cX2_listen 178 = .ok (.goto (-111), 3) := by decide +kernel
theorem dX2_listen_181 : decode cX2_listen 181 = .ok (.iinc 5 1, 3) := by decide +kernel
theorem dX2_listen_184 : decode cX2_listen 184 = .ok (.goto (-163), 3) := by decide +kernel
theorem dX2_listen_187 : decode cX2_listen 187 = .ok (.return_, 1) := by decide +kernel
theorem dX2_openPipes_0 : decode cX2_openPipes 0 = .ok (.iconst 0, 1) := by decide +kernel
theorem dX2_openPipes_1 : decode cX2_openPipes 1 = .ok (.istore 4, 2) := by decide +kernel
theorem dX2_openPipes_3 : decode cX2_openPipes 3 = .ok (.iload 4, 2) := by decide +kernel
theorem dX2_openPipes_5 : decode cX2_openPipes 5 = .ok (.iconst 2, 1) := by decide +kernel
theorem dX2_openPipes_6 : decode cX2_openPipes 6 = .ok (.if_icmp .ge 17, 3) := by decide +kernel
theorem dX2_openPipes_9 : decode cX2_openPipes 9 = .ok (.aload_n 0, 1) := by decide +kernel
theorem dX2_openPipes_10 : decode cX2_openPipes 10 = .ok (.getfield 15, 3) := by decide +kernel
theorem dX2_openPipes_13 : decode cX2_openPipes 13 = .ok (.iload 4, 2) := by decide +kernel
theorem dX2_openPipes_15 : decode cX2_openPipes 15 = .ok (.iconst 0, 1) := by decide +kernel
theorem dX2_openPipes_16 : decode cX2_openPipes 16 = .ok (.iastore, 1) := by decide +kernel
theorem dX2_openPipes_17 : decode cX2_openPipes 17 = .ok (.iinc 4 1, 3) := by decide +kernel
theorem dX2_openPipes_20 : decode cX2_openPipes 20 = .ok (.goto (-17), 3) := by decide +kernel
theorem dX2_openPipes_23 : decode cX2_openPipes 23 = .ok (.iconst 0, 1) := by decide +kernel
theorem dX2_openPipes_24 : decode cX2_openPipes 24 = .ok (.istore 4, 2) := by decide +kernel
theorem dX2_openPipes_26 : decode cX2_openPipes 26 = .ok (.iload 4, 2) := by decide +kernel
theorem dX2_openPipes_28 : decode cX2_openPipes 28 = .ok (.bipush 8, 2) := by decide +kernel
theorem dX2_openPipes_30 : decode cX2_openPipes 30 = .ok (.if_icmp .ge 112, 3) := by decide +kernel
theorem dX2_openPipes_33 : decode cX2_openPipes 33 = .ok (.aload_n 1, 1) := by decide +kernel
theorem dX2_openPipes_34 : decode cX2_openPipes 34 = .ok (.iload 4, 2) := by decide +kernel
theorem dX2_openPipes_36 : decode cX2_openPipes 36 = .ok (.invokevirtual 44, 3) := by decide +kernel
theorem dX2_openPipes_39 : decode cX2_openPipes 39 = .ok (.istore 5, 2) := by decide +kernel
theorem dX2_openPipes_41 : decode cX2_openPipes 41 = .ok (.aload_n 1, 1) := by decide +kernel
theorem dX2_openPipes_42 : decode cX2_openPipes 42 = .ok (.getfield 72, 3) := by decide +kernel
theorem dX2_openPipes_45 : decode cX2_openPipes 45 = .ok (.iload 4, 2) := by decide +kernel
theorem dX2_openPipes_47 : decode cX2_openPipes 47 = .ok (.iaload, 1) := by decide +kernel
theorem dX2_openPipes_48 : decode cX2_openPipes 48 = .ok (.iload_n 3, 1) := by decide +kernel
theorem dX2_openPipes_49 : decode cX2_openPipes 49 = .ok (.ifCond .eq 12, 3) := by decide +kernel
theorem dX2_openPipes_52 : decode cX2_openPipes 52 = .ok (.aload_n 1, 1) := by decide +kernel
theorem dX2_openPipes_53 : decode cX2_openPipes 53 = .ok (.iload 5, 2) := by decide +kernel
theorem dX2_openPipes_55 : decode cX2_openPipes 55 = .ok (.invokevirtual 75, 3) := by decide +kernel
theorem dX2_openPipes_58 : decode cX2_openPipes 58 = .ok (.goto 4, 3) := by decide +kernel
theorem dX2_openPipes_61 : decode cX2_openPipes 61 = .ok (.iconst 0, 1) := by decide +kernel
theorem dX2_openPipes_62 : decode cX2_openPipes 62 = .ok (.ior, 1) := by decide +kernel
theorem dX2_openPipes_63 : decode cX2_openPipes 63 = .ok (.istore 6, 2) := by decide +kernel
theorem dX2_openPipes_65 : decode cX2_openPipes 65 = .ok (.aload_n 0, 1) := by decide +kernel
theorem dX2_openPipes_66 : decode cX2_openPipes 66 = .ok (.getfield 9, 3) := by decide +kernel
theorem dX2_openPipes_69 : decode cX2_openPipes 69 = .ok (.iload 4, 2) := by decide +kernel
theorem dX2_openPipes_71 : decode cX2_openPipes 71 = .ok (.iload_n 2, 1) := by decide +kernel
theorem dX2_openPipes_72 : decode cX2_openPipes 72 = .ok (.iload 4, 2) := by decide +kernel
theorem dX2_openPipes_74 : decode cX2_openPipes 74 = .ok (.invokestatic 51, 3) := by decide +kernel
theorem dX2_openPipes_77 : decode cX2_openPipes 77 = .ok (.ifCond .eq 8, 3) := by decide +kernel
theorem dX2_openPipes_80 : decode cX2_openPipes 80 = .ok (.iload 6, 2) := by decide +kernel
theorem dX2_openPipes_82 : decode cX2_openPipes 82 = .ok (.goto 4, 3) := by decide +kernel
theorem dX2_openPipes_85 : decode cX2_openPipes 85 = .ok (.iconst 0, 1) := by decide +kernel
theorem dX2_openPipes_86 : decode cX2_openPipes 86 = .ok (.iastore, 1) := by decide +kernel
theorem dX2_openPipes_87 : decode cX2_openPipes 87 = .ok (.iconst 0, 1) := by decide +kernel
theorem dX2_openPipes_88 : decode cX2_openPipes 88 = .ok (.istore 7, 2) := by decide +kernel
theorem dX2_openPipes_90 : decode cX2_openPipes 90 = .ok (.iload 7, 2) := by decide +kernel
theorem dX2_openPipes_92 : decode cX2_openPipes 92 = .ok (.bipush 24, 2) := by decide +kernel
theorem dX2_openPipes_94 : decode cX2_openPipes 94 = .ok (.if_icmp .ge 42, 3) := by decide +kernel
theorem dX2_openPipes_97 : decode cX2_openPipes 97 = .ok (.aload_n 0, 1) := by decide +kernel
theorem dX2_openPipes_98 : decode cX2_openPipes 98 = .ok (.getfield 9, 3) := by decide +kernel
theorem dX2_openPipes_101 : decode cX2_openPipes 101 = .ok (.iload 4, 2) := by decide +kernel
theorem dX2_openPipes_103 : decode cX2_openPipes 103 = .ok (.iaload, 1) := by decide +kernel
theorem dX2_openPipes_104 : decode cX2_openPipes 104 = .ok (.iload 7, 2) := by decide +kernel
theorem dX2_openPipes_106 : decode cX2_openPipes 106 = .ok (.invokestatic 51, 3) := by decide +kernel
theorem dX2_openPipes_109 : decode cX2_openPipes 109 = .ok (.ifCond .eq 21, 3) := by decide +kernel
theorem dX2_openPipes_112 : decode cX2_openPipes 112 = .ok (.aload_n 0, 1) := by decide +kernel
theorem dX2_openPipes_113 : decode cX2_openPipes 113 = .ok (.getfield 15, 3) := by decide +kernel
theorem dX2_openPipes_116 : decode cX2_openPipes 116 = .ok (.iload 5, 2) := by decide +kernel
theorem dX2_openPipes_118 : decode cX2_openPipes 118 = .ok (.dup2, 1) := by decide +kernel
theorem dX2_openPipes_119 : decode cX2_openPipes 119 = .ok (.iaload, 1) := by decide +kernel
theorem dX2_openPipes_120 : decode cX2_openPipes 120 = .ok (.aload_n 1, 1) := by decide +kernel
theorem dX2_openPipes_121 : decode cX2_openPipes 121 = .ok (.iload 4, 2) := by decide +kernel
theorem dX2_openPipes_123 : decode cX2_openPipes 123 = .ok (.iload 7, 2) := by decide +kernel
theorem dX2_openPipes_125 : decode cX2_openPipes 125 = .ok (.invokevirtual 78, 3) := by decide +kernel
theorem dX2_openPipes_128 : decode cX2_openPipes 128 = .ok (.iadd, 1) := by decide +kernel
theorem dX2_openPipes_129 : decode cX2_openPipes 129 = .ok (.iastore, 1) := by decide +kernel
theorem dX2_openPipes_130 : decode cX2_openPipes 130 = .ok (.iinc 7 1, 3) := by decide +kernel
theorem dX2_openPipes_133 : decode cX2_openPipes 133 = .ok (.goto (-43), 3) := by decide +kernel
theorem dX2_openPipes_136 : decode cX2_openPipes 136 = .ok (.iinc 4 1, 3) := by decide +kernel
theorem dX2_openPipes_139 : decode cX2_openPipes 139 = .ok (.goto (-113), 3) := by decide +kernel
theorem dX2_openPipes_142 : decode cX2_openPipes 142 = .ok (.return_, 1) := by decide +kernel
theorem dX2_setPressures_0 : decode cX2_setPressures 0 = .ok (.aload_n 1, 1) := by decide +kernel
theorem dX2_setPressures_1 : decode cX2_setPressures 1 = .ok (.invokevirtual 81, 3) := by decide +kernel
theorem dX2_setPressures_4 : decode cX2_setPressures 4 = .ok (.istore_n 2, 1) := by decide +kernel
theorem dX2_setPressures_5 : decode cX2_setPressures 5 = .ok (.iconst 0, 1) := by decide +kernel
theorem dX2_setPressures_6 : decode cX2_setPressures 6 = .ok (.istore_n 3, 1) := by decide +kernel
theorem dX2_setPressures_7 : decode cX2_setPressures 7 = .ok (.iload_n 3, 1) := by decide +kernel
theorem dX2_setPressures_8 : decode cX2_setPressures 8 = .ok (.iconst 2, 1) := by decide +kernel
theorem dX2_setPressures_9 : decode cX2_setPressures 9 = .ok (.if_icmp .ge 45, 3) := by decide +kernel
theorem dX2_setPressures_12 : decode cX2_setPressures 12 = .ok (.aload_n 0, 1) := by decide +kernel
theorem dX2_setPressures_13 : decode cX2_setPressures 13 = .ok (.getfield 15, 3) := by decide +kernel
theorem dX2_setPressures_16 : decode cX2_setPressures 16 = .ok (.iload_n 3, 1) := by decide +kernel
theorem dX2_setPressures_17 : decode cX2_setPressures 17 = .ok (.iaload, 1) := by decide +kernel
theorem dX2_setPressures_18 : decode cX2_setPressures 18 = .ok (.aload_n 1, 1) := by decide +kernel
theorem dX2_setPressures_19 : decode cX2_setPressures 19 = .ok (.getfield 85, 3) := by decide +kernel
theorem dX2_setPressures_22 : decode cX2_setPressures 22 = .ok (.iconst 1, 1) := by decide +kernel
theorem dX2_setPressures_23 : decode cX2_setPressures 23 = .ok (.iload_n 3, 1) := by decide +kernel
theorem dX2_setPressures_24 : decode cX2_setPressures 24 = .ok (.iadd, 1) := by decide +kernel
theorem dX2_setPressures_25 : decode cX2_setPressures 25 = .ok (.iaload, 1) := by decide +kernel
theorem dX2_setPressures_26 : decode cX2_setPressures 26 = .ok (.imul, 1) := by decide +kernel
theorem dX2_setPressures_27 : decode cX2_setPressures 27 = .ok (.bipush 100, 2) := by decide +kernel
theorem dX2_setPressures_29 : decode cX2_setPressures 29 = .ok (.invokestatic 88, 3) := by decide +kernel
theorem dX2_setPressures_32 : decode cX2_setPressures 32 = .ok (.istore 4, 2) := by decide +kernel
theorem dX2_setPressures_34 : decode cX2_setPressures 34 = .ok (.aload_n 0, 1) := by decide +kernel
theorem dX2_setPressures_35 : decode cX2_setPressures 35 = .ok (.getfield 18, 3) := by decide +kernel
theorem dX2_setPressures_38 : decode cX2_setPressures 38 = .ok (.iload_n 3, 1) := by decide +kernel
theorem dX2_setPressures_39 : decode cX2_setPressures 39 = .ok (.iconst 0, 1) := by decide +kernel
theorem dX2_setPressures_40 : decode cX2_setPressures 40 = .ok (.iload_n 2, 1) := by decide +kernel
theorem dX2_setPressures_41 : decode cX2_setPressures 41 = .ok (.iload 4, 2) := by decide +kernel
theorem dX2_setPressures_43 : decode cX2_setPressures 43 = .ok (.isub, 1) := by decide +kernel
theorem dX2_setPressures_44 : decode cX2_setPressures 44 = .ok (.invokestatic 91, 3) := by decide +kernel
theorem dX2_setPressures_47 : decode cX2_setPressures 47 = .ok (.iastore, 1) := by decide +kernel
theorem dX2_setPressures_48 : decode cX2_setPressures 48 = .ok (.iinc 3 1, 3) := by decide +kernel
theorem dX2_setPressures_51 : decode cX2_setPressures 51 = .ok (.goto (-44), 3) := by decide +kernel
theorem dX2_setPressures_54 : decode cX2_setPressures 54 = .ok (.return_, 1) := by decide +kernel
theorem dX2_asks_0 : decode cX2_asks 0 = .ok (.aload_n 1, 1) := by decide +kernel
theorem dX2_asks_1 : decode cX2_asks 1 = .ok (.iload_n 2, 1) := by decide +kernel
theorem dX2_asks_2 : decode cX2_asks 2 = .ok (.iload_n 3, 1) := by decide +kernel
theorem dX2_asks_3 : decode cX2_asks 3 = .ok (.invokevirtual 78, 3) := by decide +kernel
theorem dX2_asks_6 : decode cX2_asks 6 = .ok (.aload_n 0, 1) := by decide +kernel
theorem dX2_asks_7 : decode cX2_asks 7 = .ok (.getfield 18, 3) := by decide +kernel
theorem dX2_asks_10 : decode cX2_asks 10 = .ok (.aload_n 1, 1) := by decide +kernel
theorem dX2_asks_11 : decode cX2_asks 11 = .ok (.iload_n 2, 1) := by decide +kernel
theorem dX2_asks_12 : decode cX2_asks 12 = .ok (.invokevirtual 44, 3) := by decide +kernel
theorem dX2_asks_15 : decode cX2_asks 15 = .ok (.iaload, 1) := by decide +kernel
theorem dX2_asks_16 : decode cX2_asks 16 = .ok (.imul, 1) := by decide +kernel
theorem dX2_asks_17 : decode cX2_asks 17 = .ok (.istore 4, 2) := by decide +kernel
theorem dX2_asks_19 : decode cX2_asks 19 = .ok (.iload 4, 2) := by decide +kernel
theorem dX2_asks_21 : decode cX2_asks 21 = .ok (.aload_n 1, 1) := by decide +kernel
theorem dX2_asks_22 : decode cX2_asks 22 = .ok (.getfield 85, 3) := by decide +kernel
theorem dX2_asks_25 : decode cX2_asks 25 = .ok (.iconst 0, 1) := by decide +kernel
theorem dX2_asks_26 : decode cX2_asks 26 = .ok (.iaload, 1) := by decide +kernel
theorem dX2_asks_27 : decode cX2_asks 27 = .ok (.invokestatic 88, 3) := by decide +kernel
theorem dX2_asks_30 : decode cX2_asks 30 = .ok (.ireturn, 1) := by decide +kernel
theorem dX2_addUpAsked_0 : decode cX2_addUpAsked 0 = .ok (.iconst 0, 1) := by decide +kernel
theorem dX2_addUpAsked_1 : decode cX2_addUpAsked 1 = .ok (.istore_n 2, 1) := by decide +kernel
theorem dX2_addUpAsked_2 : decode cX2_addUpAsked 2 = .ok (.iload_n 2, 1) := by decide +kernel
theorem dX2_addUpAsked_3 : decode cX2_addUpAsked 3 = .ok (.bipush 8, 2) := by decide +kernel
theorem dX2_addUpAsked_5 : decode cX2_addUpAsked 5 = .ok (.if_icmp .ge 59, 3) := by decide +kernel
theorem dX2_addUpAsked_8 : decode cX2_addUpAsked 8 = .ok (.aload_n 0, 1) := by decide +kernel
theorem dX2_addUpAsked_9 : decode cX2_addUpAsked 9 = .ok (.getfield 21, 3) := by decide +kernel
theorem dX2_addUpAsked_12 : decode cX2_addUpAsked 12 = .ok (.iload_n 2, 1) := by decide +kernel
theorem dX2_addUpAsked_13 : decode cX2_addUpAsked 13 = .ok (.iconst 0, 1) := by decide +kernel
theorem dX2_addUpAsked_14 : decode cX2_addUpAsked 14 = .ok (.iastore, 1) := by decide +kernel
theorem dX2_addUpAsked_15 : decode cX2_addUpAsked 15 = .ok (.iconst 0, 1) := by decide +kernel
theorem dX2_addUpAsked_16 : decode cX2_addUpAsked 16 = .ok (.istore_n 3, 1) := by decide +kernel
theorem dX2_addUpAsked_17 : decode cX2_addUpAsked 17 = .ok (.iload_n 3, 1) := by decide +kernel
theorem dX2_addUpAsked_18 : decode cX2_addUpAsked 18 = .ok (.bipush 24, 2) := by decide +kernel
theorem dX2_addUpAsked_20 : decode cX2_addUpAsked 20 = .ok (.if_icmp .ge 38, 3) := by decide +kernel
theorem dX2_addUpAsked_23 : decode cX2_addUpAsked 23 = .ok (.aload_n 0, 1) := by decide +kernel
theorem dX2_addUpAsked_24 : decode cX2_addUpAsked 24 = .ok (.getfield 9, 3) := by decide +kernel
theorem dX2_addUpAsked_27 : decode cX2_addUpAsked 27 = .ok (.iload_n 2, 1) := by decide +kernel
theorem dX2_addUpAsked_28 : decode cX2_addUpAsked 28 = .ok (.iaload, 1) := by decide +kernel
theorem dX2_addUpAsked_29 : decode cX2_addUpAsked 29 = .ok (.iload_n 3, 1) := by decide +kernel
theorem dX2_addUpAsked_30 : decode cX2_addUpAsked 30 = .ok (.invokestatic 51, 3) := by decide +kernel
theorem dX2_addUpAsked_33 : decode cX2_addUpAsked 33 = .ok (.ifCond .eq 19, 3) := by decide +kernel
theorem dX2_addUpAsked_36 : decode cX2_addUpAsked 36 = .ok (.aload_n 0, 1) := by decide +kernel
theorem dX2_addUpAsked_37 : decode cX2_addUpAsked 37 = .ok (.getfield 21, 3) := by decide +kernel
theorem dX2_addUpAsked_40 : decode cX2_addUpAsked 40 = .ok (.iload_n 2, 1) := by decide +kernel
theorem dX2_addUpAsked_41 : decode cX2_addUpAsked 41 = .ok (.dup2, 1) := by decide +kernel
theorem dX2_addUpAsked_42 : decode cX2_addUpAsked 42 = .ok (.iaload, 1) := by decide +kernel
theorem dX2_addUpAsked_43 : decode cX2_addUpAsked 43 = .ok (.aload_n 0, 1) := by decide +kernel
theorem dX2_addUpAsked_44 : decode cX2_addUpAsked 44 = .ok (.aload_n 1, 1) := by decide +kernel
theorem dX2_addUpAsked_45 : decode cX2_addUpAsked 45 = .ok (.iload_n 2, 1) := by decide +kernel
theorem dX2_addUpAsked_46 : decode cX2_addUpAsked 46 = .ok (.iload_n 3, 1) := by decide +kernel
theorem dX2_addUpAsked_47 : decode cX2_addUpAsked 47 = .ok (.invokevirtual 55, 3) := by decide +kernel
theorem dX2_addUpAsked_50 : decode cX2_addUpAsked 50 = .ok (.iadd, 1) := by decide +kernel
theorem dX2_addUpAsked_51 : decode cX2_addUpAsked 51 = .ok (.iastore, 1) := by decide +kernel
theorem dX2_addUpAsked_52 : decode cX2_addUpAsked 52 = .ok (.iinc 3 1, 3) := by decide +kernel
theorem dX2_addUpAsked_55 : decode cX2_addUpAsked 55 = .ok (.goto (-38), 3) := by decide +kernel
theorem dX2_addUpAsked_58 : decode cX2_addUpAsked 58 = .ok (.iinc 2 1, 3) := by decide +kernel
theorem dX2_addUpAsked_61 : decode cX2_addUpAsked 61 = .ok (.goto (-59), 3) := by decide +kernel
theorem dX2_addUpAsked_64 : decode cX2_addUpAsked 64 = .ok (.return_, 1) := by decide +kernel
theorem dX2_feedPipes_0 : decode cX2_feedPipes 0 = .ok (.iconst 0, 1) := by decide +kernel
theorem dX2_feedPipes_1 : decode cX2_feedPipes 1 = .ok (.istore_n 2, 1) := by decide +kernel
theorem dX2_feedPipes_2 : decode cX2_feedPipes 2 = .ok (.iload_n 2, 1) := by decide +kernel
theorem dX2_feedPipes_3 : decode cX2_feedPipes 3 = .ok (.bipush 8, 2) := by decide +kernel
theorem dX2_feedPipes_5 : decode cX2_feedPipes 5 = .ok (.if_icmp .ge 43, 3) := by decide +kernel
theorem dX2_feedPipes_8 : decode cX2_feedPipes 8 = .ok (.aload_n 0, 1) := by decide +kernel
theorem dX2_feedPipes_9 : decode cX2_feedPipes 9 = .ok (.getfield 21, 3) := by decide +kernel
theorem dX2_feedPipes_12 : decode cX2_feedPipes 12 = .ok (.iload_n 2, 1) := by decide +kernel
theorem dX2_feedPipes_13 : decode cX2_feedPipes 13 = .ok (.iaload, 1) := by decide +kernel
theorem dX2_feedPipes_14 : decode cX2_feedPipes 14 = .ok (.aload_n 1, 1) := by decide +kernel
theorem dX2_feedPipes_15 : decode cX2_feedPipes 15 = .ok (.getfield 38, 3) := by decide +kernel
theorem dX2_feedPipes_18 : decode cX2_feedPipes 18 = .ok (.invokestatic 59, 3) := by decide +kernel
theorem dX2_feedPipes_21 : decode cX2_feedPipes 21 = .ok (.istore_n 3, 1) := by decide +kernel
theorem dX2_feedPipes_22 : decode cX2_feedPipes 22 = .ok (.aload_n 1, 1) := by decide +kernel
theorem dX2_feedPipes_23 : decode cX2_feedPipes 23 = .ok (.getfield 94, 3) := by decide +kernel
theorem dX2_feedPipes_26 : decode cX2_feedPipes 26 = .ok (.iload_n 2, 1) := by decide +kernel
theorem dX2_feedPipes_27 : decode cX2_feedPipes 27 = .ok (.dup2, 1) := by decide +kernel
theorem dX2_feedPipes_28 : decode cX2_feedPipes 28 = .ok (.iaload, 1) := by decide +kernel
theorem dX2_feedPipes_29 : decode cX2_feedPipes 29 = .ok (.iload_n 3, 1) := by decide +kernel
theorem dX2_feedPipes_30 : decode cX2_feedPipes 30 = .ok (.iadd, 1) := by decide +kernel
theorem dX2_feedPipes_31 : decode cX2_feedPipes 31 = .ok (.iastore, 1) := by decide +kernel
theorem dX2_feedPipes_32 : decode cX2_feedPipes 32 = .ok (.aload_n 1, 1) := by decide +kernel
theorem dX2_feedPipes_33 : decode cX2_feedPipes 33 = .ok (.dup, 1) := by decide +kernel
theorem dX2_feedPipes_34 : decode cX2_feedPipes 34 = .ok (.getfield 38, 3) := by decide +kernel
theorem dX2_feedPipes_37 : decode cX2_feedPipes 37 = .ok (.iload_n 3, 1) := by decide +kernel
theorem dX2_feedPipes_38 : decode cX2_feedPipes 38 = .ok (.isub, 1) := by decide +kernel
theorem dX2_feedPipes_39 : decode cX2_feedPipes 39 = .ok (.putfield 38, 3) := by decide +kernel
theorem dX2_feedPipes_42 : decode cX2_feedPipes 42 = .ok (.iinc 2 1, 3) := by decide +kernel
theorem dX2_feedPipes_45 : decode cX2_feedPipes 45 = .ok (.goto (-43), 3) := by decide +kernel
theorem dX2_feedPipes_48 : decode cX2_feedPipes 48 = .ok (.return_, 1) := by decide +kernel
theorem dJ6_bitCount_0f7a4_0 : decode cJ6_bitCount_0f7a4 0 = .ok (.iload_n 0, 1) := by decide +kernel
theorem dJ6_bitCount_0f7a4_1 : decode cJ6_bitCount_0f7a4 1 = .ok (.iload_n 0, 1) := by decide +kernel
theorem dJ6_bitCount_0f7a4_2 : decode cJ6_bitCount_0f7a4 2 = .ok (.iconst 1, 1) := by decide +kernel
theorem dJ6_bitCount_0f7a4_3 : decode cJ6_bitCount_0f7a4 3 = .ok (.iushr, 1) := by decide +kernel
theorem dJ6_bitCount_0f7a4_4 : decode cJ6_bitCount_0f7a4 4 = .ok (.ldc_w 265, 3) := by decide +kernel
theorem dJ6_bitCount_0f7a4_7 : decode cJ6_bitCount_0f7a4 7 = .ok (.iand, 1) := by decide +kernel
theorem dJ6_bitCount_0f7a4_8 : decode cJ6_bitCount_0f7a4 8 = .ok (.isub, 1) := by decide +kernel
theorem dJ6_bitCount_0f7a4_9 : decode cJ6_bitCount_0f7a4 9 = .ok (.istore_n 0, 1) := by decide +kernel
theorem dJ6_bitCount_0f7a4_10 : decode cJ6_bitCount_0f7a4 10 = .ok (.iload_n 0, 1) := by decide +kernel
theorem dJ6_bitCount_0f7a4_11 : decode cJ6_bitCount_0f7a4 11 = .ok (.ldc_w 266, 3) := by decide +kernel
theorem dJ6_bitCount_0f7a4_14 : decode cJ6_bitCount_0f7a4 14 = .ok (.iand, 1) := by decide +kernel
theorem dJ6_bitCount_0f7a4_15 : decode cJ6_bitCount_0f7a4 15 = .ok (.iload_n 0, 1) := by decide +kernel
theorem dJ6_bitCount_0f7a4_16 : decode cJ6_bitCount_0f7a4 16 = .ok (.iconst 2, 1) := by decide +kernel
theorem dJ6_bitCount_0f7a4_17 : decode cJ6_bitCount_0f7a4 17 = .ok (.iushr, 1) := by decide +kernel
theorem dJ6_bitCount_0f7a4_18 : decode cJ6_bitCount_0f7a4 18 = .ok (.ldc_w 266, 3) := by decide +kernel
theorem dJ6_bitCount_0f7a4_21 : decode cJ6_bitCount_0f7a4 21 = .ok (.iand, 1) := by decide +kernel
theorem dJ6_bitCount_0f7a4_22 : decode cJ6_bitCount_0f7a4 22 = .ok (.iadd, 1) := by decide +kernel
theorem dJ6_bitCount_0f7a4_23 : decode cJ6_bitCount_0f7a4 23 = .ok (.istore_n 0, 1) := by decide +kernel
theorem dJ6_bitCount_0f7a4_24 : decode cJ6_bitCount_0f7a4 24 = .ok (.iload_n 0, 1) := by decide +kernel
theorem dJ6_bitCount_0f7a4_25 : decode cJ6_bitCount_0f7a4 25 = .ok (.iload_n 0, 1) := by decide +kernel
theorem dJ6_bitCount_0f7a4_26 : decode cJ6_bitCount_0f7a4 26 = .ok (.iconst 4, 1) := by decide +kernel
theorem dJ6_bitCount_0f7a4_27 : decode cJ6_bitCount_0f7a4 27 = .ok (.iushr, 1) := by decide +kernel
theorem dJ6_bitCount_0f7a4_28 : decode cJ6_bitCount_0f7a4 28 = .ok (.iadd, 1) := by decide +kernel
theorem dJ6_bitCount_0f7a4_29 : decode cJ6_bitCount_0f7a4 29 = .ok (.ldc_w 267, 3) := by decide +kernel
theorem dJ6_bitCount_0f7a4_32 : decode cJ6_bitCount_0f7a4 32 = .ok (.iand, 1) := by decide +kernel
theorem dJ6_bitCount_0f7a4_33 : decode cJ6_bitCount_0f7a4 33 = .ok (.istore_n 0, 1) := by decide +kernel
theorem dJ6_bitCount_0f7a4_34 : decode cJ6_bitCount_0f7a4 34 = .ok (.iload_n 0, 1) := by decide +kernel
theorem dJ6_bitCount_0f7a4_35 : decode cJ6_bitCount_0f7a4 35 = .ok (.iload_n 0, 1) := by decide +kernel
theorem dJ6_bitCount_0f7a4_36 : decode cJ6_bitCount_0f7a4 36 = .ok (.bipush 8, 2) := by decide +kernel
theorem dJ6_bitCount_0f7a4_38 : decode cJ6_bitCount_0f7a4 38 = .ok (.iushr, 1) := by decide +kernel
theorem dJ6_bitCount_0f7a4_39 : decode cJ6_bitCount_0f7a4 39 = .ok (.iadd, 1) := by decide +kernel
theorem dJ6_bitCount_0f7a4_40 : decode cJ6_bitCount_0f7a4 40 = .ok (.istore_n 0, 1) := by decide +kernel
theorem dJ6_bitCount_0f7a4_41 : decode cJ6_bitCount_0f7a4 41 = .ok (.iload_n 0, 1) := by decide +kernel
theorem dJ6_bitCount_0f7a4_42 : decode cJ6_bitCount_0f7a4 42 = .ok (.iload_n 0, 1) := by decide +kernel
theorem dJ6_bitCount_0f7a4_43 : decode cJ6_bitCount_0f7a4 43 = .ok (.bipush 16, 2) := by decide +kernel
theorem dJ6_bitCount_0f7a4_45 : decode cJ6_bitCount_0f7a4 45 = .ok (.iushr, 1) := by decide +kernel
theorem dJ6_bitCount_0f7a4_46 : decode cJ6_bitCount_0f7a4 46 = .ok (.iadd, 1) := by decide +kernel
theorem dJ6_bitCount_0f7a4_47 : decode cJ6_bitCount_0f7a4 47 = .ok (.istore_n 0, 1) := by decide +kernel
theorem dJ6_bitCount_0f7a4_48 : decode cJ6_bitCount_0f7a4 48 = .ok (.iload_n 0, 1) := by decide +kernel
theorem dJ6_bitCount_0f7a4_49 : decode cJ6_bitCount_0f7a4 49 = .ok (.bipush 63, 2) := by decide +kernel
theorem dJ6_bitCount_0f7a4_51 : decode cJ6_bitCount_0f7a4 51 = .ok (.iand, 1) := by decide +kernel
theorem dJ6_bitCount_0f7a4_52 : decode cJ6_bitCount_0f7a4 52 = .ok (.ireturn, 1) := by decide +kernel
theorem dJ9_floorDiv_7cf53_0 : decode cJ9_floorDiv_7cf53 0 = .ok (.iload_n 0, 1) := by decide +kernel
theorem dJ9_floorDiv_7cf53_1 : decode cJ9_floorDiv_7cf53 1 = .ok (.iload_n 1, 1) := by decide +kernel
theorem dJ9_floorDiv_7cf53_2 : decode cJ9_floorDiv_7cf53 2 = .ok (.idiv, 1) := by decide +kernel
theorem dJ9_floorDiv_7cf53_3 : decode cJ9_floorDiv_7cf53 3 = .ok (.istore_n 2, 1) := by decide +kernel
theorem dJ9_floorDiv_7cf53_4 : decode cJ9_floorDiv_7cf53 4 = .ok (.iload_n 0, 1) := by decide +kernel
theorem dJ9_floorDiv_7cf53_5 : decode cJ9_floorDiv_7cf53 5 = .ok (.iload_n 1, 1) := by decide +kernel
theorem dJ9_floorDiv_7cf53_6 : decode cJ9_floorDiv_7cf53 6 = .ok (.ixor, 1) := by decide +kernel
theorem dJ9_floorDiv_7cf53_7 : decode cJ9_floorDiv_7cf53 7 = .ok (.ifCond .ge 14, 3) := by decide +kernel
theorem dJ9_floorDiv_7cf53_10 : decode cJ9_floorDiv_7cf53 10 = .ok (.iload_n 2, 1) := by decide +kernel
theorem dJ9_floorDiv_7cf53_11 : decode cJ9_floorDiv_7cf53 11 = .ok (.iload_n 1, 1) := by decide +kernel
theorem dJ9_floorDiv_7cf53_12 : decode cJ9_floorDiv_7cf53 12 = .ok (.imul, 1) := by decide +kernel
theorem dJ9_floorDiv_7cf53_13 : decode cJ9_floorDiv_7cf53 13 = .ok (.iload_n 0, 1) := by decide +kernel
theorem dJ9_floorDiv_7cf53_14 : decode cJ9_floorDiv_7cf53 14 = .ok (.if_icmp .eq 7, 3) := by decide +kernel
theorem dJ9_floorDiv_7cf53_17 : decode cJ9_floorDiv_7cf53 17 = .ok (.iload_n 2, 1) := by decide +kernel
theorem dJ9_floorDiv_7cf53_18 : decode cJ9_floorDiv_7cf53 18 = .ok (.iconst 1, 1) := by decide +kernel
theorem dJ9_floorDiv_7cf53_19 : decode cJ9_floorDiv_7cf53 19 = .ok (.isub, 1) := by decide +kernel
theorem dJ9_floorDiv_7cf53_20 : decode cJ9_floorDiv_7cf53 20 = .ok (.ireturn, 1) := by decide +kernel
theorem dJ9_floorDiv_7cf53_21 : decode cJ9_floorDiv_7cf53 21 = .ok (.iload_n 2, 1) := by decide +kernel
theorem dJ9_floorDiv_7cf53_22 : decode cJ9_floorDiv_7cf53 22 = .ok (.ireturn, 1) := by decide +kernel
theorem dJ9_max_7cf53_0 : decode cJ9_max_7cf53 0 = .ok (.iload_n 0, 1) := by decide +kernel
theorem dJ9_max_7cf53_1 : decode cJ9_max_7cf53 1 = .ok (.iload_n 1, 1) := by decide +kernel
theorem dJ9_max_7cf53_2 : decode cJ9_max_7cf53 2 = .ok (.if_icmp .lt 7, 3) := by decide +kernel
theorem dJ9_max_7cf53_5 : decode cJ9_max_7cf53 5 = .ok (.iload_n 0, 1) := by decide +kernel
theorem dJ9_max_7cf53_6 : decode cJ9_max_7cf53 6 = .ok (.goto 4, 3) := by decide +kernel
theorem dJ9_max_7cf53_9 : decode cJ9_max_7cf53 9 = .ok (.iload_n 1, 1) := by decide +kernel
theorem dJ9_max_7cf53_10 : decode cJ9_max_7cf53 10 = .ok (.ireturn, 1) := by decide +kernel
theorem dJ9_min_7cf53_0 : decode cJ9_min_7cf53 0 = .ok (.iload_n 0, 1) := by decide +kernel
theorem dJ9_min_7cf53_1 : decode cJ9_min_7cf53 1 = .ok (.iload_n 1, 1) := by decide +kernel
theorem dJ9_min_7cf53_2 : decode cJ9_min_7cf53 2 = .ok (.if_icmp .gt 7, 3) := by decide +kernel
theorem dJ9_min_7cf53_5 : decode cJ9_min_7cf53 5 = .ok (.iload_n 0, 1) := by decide +kernel
theorem dJ9_min_7cf53_6 : decode cJ9_min_7cf53 6 = .ok (.goto 4, 3) := by decide +kernel
theorem dJ9_min_7cf53_9 : decode cJ9_min_7cf53 9 = .ok (.iload_n 1, 1) := by decide +kernel
theorem dJ9_min_7cf53_10 : decode cJ9_min_7cf53 10 = .ok (.ireturn, 1) := by decide +kernel
