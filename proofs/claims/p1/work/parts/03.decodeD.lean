theorem dX2_init_0 : decode cX2_init 0 = .ok (.aload_n 0, 1) := by decide +kernel
theorem dX2_init_1 : decode cX2_init 1 = .ok (.invokespecial 3, 3) := by decide +kernel
theorem dX2_init_4 : decode cX2_init 4 = .ok (.aload_n 0, 1) := by decide +kernel
theorem dX2_init_5 : decode cX2_init 5 = .ok (.sipush 240, 3) := by decide +kernel
theorem dX2_init_8 : decode cX2_init 8 = .ok (.newarray .int, 2) := by decide +kernel
theorem dX2_init_10 : decode cX2_init 10 = .ok (.putfield 11, 3) := by decide +kernel
theorem dX2_init_13 : decode cX2_init 13 = .ok (.aload_n 0, 1) := by decide +kernel
theorem dX2_init_14 : decode cX2_init 14 = .ok (.sipush 450, 3) := by decide +kernel
theorem dX2_init_17 : decode cX2_init 17 = .ok (.newarray .long, 2) := by decide +kernel
theorem dX2_init_19 : decode cX2_init 19 = .ok (.putfield 15, 3) := by decide +kernel
theorem dX2_init_22 : decode cX2_init 22 = .ok (.aload_n 0, 1) := by decide +kernel
theorem dX2_init_23 : decode cX2_init 23 = .ok (.bipush 14, 2) := by decide +kernel
theorem dX2_init_25 : decode cX2_init 25 = .ok (.newarray .int, 2) := by decide +kernel
theorem dX2_init_27 : decode cX2_init 27 = .ok (.putfield 19, 3) := by decide +kernel
theorem dX2_init_30 : decode cX2_init 30 = .ok (.return_, 1) := by decide +kernel
theorem dX2_clear_0 : decode cX2_clear 0 = .ok (.aload_n 0, 1) := by decide +kernel
theorem dX2_clear_1 : decode cX2_clear 1 = .ok (.iload_n 1, 1) := by decide +kernel
theorem dX2_clear_2 : decode cX2_clear 2 = .ok (.iconst 1, 1) := by decide +kernel
theorem dX2_clear_3 : decode cX2_clear 3 = .ok (.iadd, 1) := by decide +kernel
theorem dX2_clear_4 : decode cX2_clear 4 = .ok (.putfield 22, 3) := by decide +kernel
theorem dX2_clear_7 : decode cX2_clear 7 = .ok (.aload_n 0, 1) := by decide +kernel
theorem dX2_clear_8 : decode cX2_clear 8 = .ok (.iload_n 1, 1) := by decide +kernel
theorem dX2_clear_9 : decode cX2_clear 9 = .ok (.putfield 26, 3) := by decide +kernel
theorem dX2_clear_12 : decode cX2_clear 12 = .ok (.aload_n 0, 1) := by decide +kernel
theorem dX2_clear_13 : decode cX2_clear 13 = .ok (.aload_n 0, 1) := by decide +kernel
theorem dX2_clear_14 : decode cX2_clear 14 = .ok (.getfield 22, 3) := by decide +kernel
theorem dX2_clear_17 : decode cX2_clear 17 = .ok (.aload_n 0, 1) := by decide +kernel
theorem dX2_clear_18 : decode cX2_clear 18 = .ok (.getfield 22, 3) := by decide +kernel
theorem dX2_clear_21 : decode cX2_clear 21 = .ok (.imul, 1) := by decide +kernel
theorem dX2_clear_22 : decode cX2_clear 22 = .ok (.aload_n 0, 1) := by decide +kernel
theorem dX2_clear_23 : decode cX2_clear 23 = .ok (.getfield 22, 3) := by decide +kernel
theorem dX2_clear_26 : decode cX2_clear 26 = .ok (.iadd, 1) := by decide +kernel
theorem dX2_clear_27 : decode cX2_clear 27 = .ok (.putfield 29, 3) := by decide +kernel
theorem dX2_clear_30 : decode cX2_clear 30 = .ok (.aload_n 0, 1) := by decide +kernel
theorem dX2_clear_31 : decode cX2_clear 31 = .ok (.iconst 2, 1) := by decide +kernel
theorem dX2_clear_32 : decode cX2_clear 32 = .ok (.aload_n 0, 1) := by decide +kernel
theorem dX2_clear_33 : decode cX2_clear 33 = .ok (.getfield 22, 3) := by decide +kernel
theorem dX2_clear_36 : decode cX2_clear 36 = .ok (.imul, 1) := by decide +kernel
theorem dX2_clear_37 : decode cX2_clear 37 = .ok (.aload_n 0, 1) := by decide +kernel
theorem dX2_clear_38 : decode cX2_clear 38 = .ok (.getfield 22, 3) := by decide +kernel
theorem dX2_clear_41 : decode cX2_clear 41 = .ok (.imul, 1) := by decide +kernel
theorem dX2_clear_42 : decode cX2_clear 42 = .ok (.putfield 32, 3) := by decide +kernel
theorem dX2_clear_45 : decode cX2_clear 45 = .ok (.aload_n 0, 1) := by decide +kernel
theorem dX2_clear_46 : decode cX2_clear 46 = .ok (.getfield 11, 3) := by decide +kernel
theorem dX2_clear_49 : decode cX2_clear 49 = .ok (.iconst 0, 1) := by decide +kernel
theorem dX2_clear_50 : decode cX2_clear 50 = .ok (.aload_n 0, 1) := by decide +kernel
theorem dX2_clear_51 : decode cX2_clear 51 = .ok (.getfield 22, 3) := by decide +kernel
theorem dX2_clear_54 : decode cX2_clear 54 = .ok (.aload_n 0, 1) := by decide +kernel
theorem dX2_clear_55 : decode cX2_clear 55 = .ok (.getfield 22, 3) := by decide +kernel
theorem dX2_clear_58 : decode cX2_clear 58 = .ok (.imul, 1) := by decide +kernel
theorem dX2_clear_59 : decode cX2_clear 59 = .ok (.ldc 35, 2) := by decide +kernel
theorem dX2_clear_61 : decode cX2_clear 61 = .ok (.invokestatic 36, 3) := by decide +kernel
theorem dX2_clear_64 : decode cX2_clear 64 = .ok (.aload_n 0, 1) := by decide +kernel
theorem dX2_clear_65 : decode cX2_clear 65 = .ok (.getfield 11, 3) := by decide +kernel
theorem dX2_clear_68 : decode cX2_clear 68 = .ok (.aload_n 0, 1) := by decide +kernel
theorem dX2_clear_69 : decode cX2_clear 69 = .ok (.getfield 22, 3) := by decide +kernel
theorem dX2_clear_72 : decode cX2_clear 72 = .ok (.aload_n 0, 1) := by decide +kernel
theorem dX2_clear_73 : decode cX2_clear 73 = .ok (.getfield 22, 3) := by decide +kernel
theorem dX2_clear_76 : decode cX2_clear 76 = .ok (.imul, 1) := by decide +kernel
theorem dX2_clear_77 : decode cX2_clear 77 = .ok (.aload_n 0, 1) := by decide +kernel
theorem dX2_clear_78 : decode cX2_clear 78 = .ok (.getfield 29, 3) := by decide +kernel
theorem dX2_clear_81 : decode cX2_clear 81 = .ok (.iconst 0, 1) := by decide +kernel
theorem dX2_clear_82 : decode cX2_clear 82 = .ok (.invokestatic 36, 3) := by decide +kernel
theorem dX2_clear_85 : decode cX2_clear 85 = .ok (.aload_n 0, 1) := by decide +kernel
theorem dX2_clear_86 : decode cX2_clear 86 = .ok (.getfield 15, 3) := by decide +kernel
theorem dX2_clear_89 : decode cX2_clear 89 = .ok (.iconst 0, 1) := by decide +kernel
theorem dX2_clear_90 : decode cX2_clear 90 = .ok (.iconst 2, 1) := by decide +kernel
theorem dX2_clear_91 : decode cX2_clear 91 = .ok (.aload_n 0, 1) := by decide +kernel
theorem dX2_clear_92 : decode cX2_clear 92 = .ok (.getfield 22, 3) := by decide +kernel
theorem dX2_clear_95 : decode cX2_clear 95 = .ok (.imul, 1) := by decide +kernel
theorem dX2_clear_96 : decode cX2_clear 96 = .ok (.aload_n 0, 1) := by decide +kernel
theorem dX2_clear_97 : decode cX2_clear 97 = .ok (.getfield 22, 3) := by decide +kernel
theorem dX2_clear_100 : decode cX2_clear 100 = .ok (.imul, 1) := by decide +kernel
theorem dX2_clear_101 : decode cX2_clear 101 = .ok (.lconst 0, 1) := by decide +kernel
theorem dX2_clear_102 : decode cX2_clear 102 = .ok (.invokestatic 42, 3) := by decide +kernel
theorem dX2_clear_105 : decode cX2_clear 105 = .ok (.iconst 0, 1) := by decide +kernel
theorem dX2_clear_106 : decode cX2_clear 106 = .ok (.istore_n 2, 1) := by decide +kernel
theorem dX2_clear_107 : decode cX2_clear 107 = .ok (.iload_n 2, 1) := by decide +kernel
theorem dX2_clear_108 : decode cX2_clear 108 = .ok (.aload_n 0, 1) := by decide +kernel
theorem dX2_clear_109 : decode cX2_clear 109 = .ok (.getfield 22, 3) := by decide +kernel
theorem dX2_clear_112 : decode cX2_clear 112 = .ok (.if_icmp .ge 40, 3) := by decide +kernel
theorem dX2_clear_115 : decode cX2_clear 115 = .ok (.aload_n 0, 1) := by decide +kernel
theorem dX2_clear_116 : decode cX2_clear 116 = .ok (.getfield 11, 3) := by decide +kernel
theorem dX2_clear_119 : decode cX2_clear 119 = .ok (.aload_n 0, 1) := by decide +kernel
theorem dX2_clear_120 : decode cX2_clear 120 = .ok (.getfield 26, 3) := by decide +kernel
theorem dX2_clear_123 : decode cX2_clear 123 = .ok (.aload_n 0, 1) := by decide +kernel
theorem dX2_clear_124 : decode cX2_clear 124 = .ok (.getfield 22, 3) := by decide +kernel
theorem dX2_clear_127 : decode cX2_clear 127 = .ok (.imul, 1) := by decide +kernel
theorem dX2_clear_128 : decode cX2_clear 128 = .ok (.iload_n 2, 1) := by decide +kernel
theorem dX2_clear_129 : decode cX2_clear 129 = .ok (.iadd, 1) := by decide +kernel
theorem dX2_clear_130 : decode cX2_clear 130 = .ok (.iconst 0, 1) := by decide +kernel
theorem dX2_clear_131 : decode cX2_clear 131 = .ok (.iastore, 1) := by decide +kernel
theorem dX2_clear_132 : decode cX2_clear 132 = .ok (.aload_n 0, 1) := by decide +kernel
theorem dX2_clear_133 : decode cX2_clear 133 = .ok (.getfield 11, 3) := by decide +kernel
theorem dX2_clear_136 : decode cX2_clear 136 = .ok (.iload_n 2, 1) := by decide +kernel
theorem dX2_clear_137 : decode cX2_clear 137 = .ok (.aload_n 0, 1) := by decide +kernel
theorem dX2_clear_138 : decode cX2_clear 138 = .ok (.getfield 22, 3) := by decide +kernel
theorem dX2_clear_141 : decode cX2_clear 141 = .ok (.imul, 1) := by decide +kernel
theorem dX2_clear_142 : decode cX2_clear 142 = .ok (.iload_n 2, 1) := by decide +kernel
theorem dX2_clear_143 : decode cX2_clear 143 = .ok (.iadd, 1) := by decide +kernel
theorem dX2_clear_144 : decode cX2_clear 144 = .ok (.iconst 0, 1) := by decide +kernel
theorem dX2_clear_145 : decode cX2_clear 145 = .ok (.iastore, 1) := by decide +kernel
theorem dX2_clear_146 : decode cX2_clear 146 = .ok (.iinc 2 1, 3) := by decide +kernel
theorem dX2_clear_149 : decode cX2_clear 149 = .ok (.goto (-42), 3) := by decide +kernel
theorem dX2_clear_152 : decode cX2_clear 152 = .ok (.return_, 1) := by decide +kernel
theorem dX2_limit_0 : decode cX2_limit 0 = .ok (.aload_n 0, 1) := by decide +kernel
theorem dX2_limit_1 : decode cX2_limit 1 = .ok (.getfield 11, 3) := by decide +kernel
theorem dX2_limit_4 : decode cX2_limit 4 = .ok (.iload_n 1, 1) := by decide +kernel
theorem dX2_limit_5 : decode cX2_limit 5 = .ok (.aload_n 0, 1) := by decide +kernel
theorem dX2_limit_6 : decode cX2_limit 6 = .ok (.getfield 22, 3) := by decide +kernel
theorem dX2_limit_9 : decode cX2_limit 9 = .ok (.imul, 1) := by decide +kernel
theorem dX2_limit_10 : decode cX2_limit 10 = .ok (.iload_n 2, 1) := by decide +kernel
theorem dX2_limit_11 : decode cX2_limit 11 = .ok (.iadd, 1) := by decide +kernel
theorem dX2_limit_12 : decode cX2_limit 12 = .ok (.iaload, 1) := by decide +kernel
theorem dX2_limit_13 : decode cX2_limit 13 = .ok (.ireturn, 1) := by decide +kernel
theorem dX2_apartFrom_0 : decode cX2_apartFrom 0 = .ok (.aload_n 0, 1) := by decide +kernel
theorem dX2_apartFrom_1 : decode cX2_apartFrom 1 = .ok (.getfield 11, 3) := by decide +kernel
theorem dX2_apartFrom_4 : decode cX2_apartFrom 4 = .ok (.aload_n 0, 1) := by decide +kernel
theorem dX2_apartFrom_5 : decode cX2_apartFrom 5 = .ok (.getfield 22, 3) := by decide +kernel
theorem dX2_apartFrom_8 : decode cX2_apartFrom 8 = .ok (.aload_n 0, 1) := by decide +kernel
theorem dX2_apartFrom_9 : decode cX2_apartFrom 9 = .ok (.getfield 22, 3) := by decide +kernel
theorem dX2_apartFrom_12 : decode cX2_apartFrom 12 = .ok (.imul, 1) := by decide +kernel
theorem dX2_apartFrom_13 : decode cX2_apartFrom 13 = .ok (.iload_n 1, 1) := by decide +kernel
theorem dX2_apartFrom_14 : decode cX2_apartFrom 14 = .ok (.iadd, 1) := by decide +kernel
theorem dX2_apartFrom_15 : decode cX2_apartFrom 15 = .ok (.iaload, 1) := by decide +kernel
theorem dX2_apartFrom_16 : decode cX2_apartFrom 16 = .ok (.ireturn, 1) := by decide +kernel
theorem dX2_chooseNumbers_0 : decode cX2_chooseNumbers 0 = .ok (.iconst 0, 1) := by decide +kernel
theorem dX2_chooseNumbers_1 : decode cX2_chooseNumbers 1 = .ok (.istore_n 2, 1) := by decide +kernel
theorem dX2_chooseNumbers_2 : decode cX2_chooseNumbers 2 = .ok (.iload_n 2, 1) := by decide +kernel
theorem dX2_chooseNumbers_3 : decode cX2_chooseNumbers 3 = .ok (.aload_n 0, 1) := by decide +kernel
theorem dX2_chooseNumbers_4 : decode cX2_chooseNumbers 4 = .ok (.getfield 26, 3) := by decide +kernel
theorem dX2_chooseNumbers_7 : decode cX2_chooseNumbers 7 = .ok (.if_icmp .ge 146, 3) := by decide +kernel
theorem dX2_chooseNumbers_10 : decode cX2_chooseNumbers 10 = .ok (.iconst 0, 1) := by decide +kernel
theorem dX2_chooseNumbers_11 : decode cX2_chooseNumbers 11 = .ok (.istore_n 3, 1) := by decide +kernel
theorem dX2_chooseNumbers_12 : decode cX2_chooseNumbers 12 = .ok (.aload_n 0, 1) := by decide +kernel
theorem dX2_chooseNumbers_13 : decode cX2_chooseNumbers 13 = .ok (.getfield 11, 3) := by decide +kernel
theorem dX2_chooseNumbers_16 : decode cX2_chooseNumbers 16 = .ok (.iload_n 2, 1) := by decide +kernel
theorem dX2_chooseNumbers_17 : decode cX2_chooseNumbers 17 = .ok (.aload_n 0, 1) := by decide +kernel
theorem dX2_chooseNumbers_18 : decode cX2_chooseNumbers 18 = .ok (.getfield 22, 3) := by decide +kernel
theorem dX2_chooseNumbers_21 : decode cX2_chooseNumbers 21 = .ok (.imul, 1) := by decide +kernel
theorem dX2_chooseNumbers_22 : decode cX2_chooseNumbers 22 = .ok (.aload_n 0, 1) := by decide +kernel
theorem dX2_chooseNumbers_23 : decode cX2_chooseNumbers 23 = .ok (.getfield 26, 3) := by decide +kernel
theorem dX2_chooseNumbers_26 : decode cX2_chooseNumbers 26 = .ok (.iadd, 1) := by decide +kernel
theorem dX2_chooseNumbers_27 : decode cX2_chooseNumbers 27 = .ok (.iaload, 1) := by decide +kernel
theorem dX2_chooseNumbers_28 : decode cX2_chooseNumbers 28 = .ok (.istore 4, 2) := by decide +kernel
theorem dX2_chooseNumbers_30 : decode cX2_chooseNumbers 30 = .ok (.iconst 0, 1) := by decide +kernel
theorem dX2_chooseNumbers_31 : decode cX2_chooseNumbers 31 = .ok (.istore 5, 2) := by decide +kernel
theorem dX2_chooseNumbers_33 : decode cX2_chooseNumbers 33 = .ok (.iload 5, 2) := by decide +kernel
theorem dX2_chooseNumbers_35 : decode cX2_chooseNumbers 35 = .ok (.iload_n 2, 1) := by decide +kernel
theorem dX2_chooseNumbers_36 : decode cX2_chooseNumbers 36 = .ok (.if_icmp .ge 65, 3) := by decide +kernel
theorem dX2_chooseNumbers_39 : decode cX2_chooseNumbers 39 = .ok (.iload_n 3, 1) := by decide +kernel
theorem dX2_chooseNumbers_40 : decode cX2_chooseNumbers 40 = .ok (.aload_n 0, 1) := by decide +kernel
theorem dX2_chooseNumbers_41 : decode cX2_chooseNumbers 41 = .ok (.getfield 19, 3) := by decide +kernel
theorem dX2_chooseNumbers_44 : decode cX2_chooseNumbers 44 = .ok (.iload 5, 2) := by decide +kernel
theorem dX2_chooseNumbers_46 : decode cX2_chooseNumbers 46 = .ok (.iaload, 1) := by decide +kernel
theorem dX2_chooseNumbers_47 : decode cX2_chooseNumbers 47 = .ok (.aload_n 0, 1) := by decide +kernel
theorem dX2_chooseNumbers_48 : decode cX2_chooseNumbers 48 = .ok (.getfield 11, 3) := by decide +kernel
theorem dX2_chooseNumbers_51 : decode cX2_chooseNumbers 51 = .ok (.iload 5, 2) := by decide +kernel
theorem dX2_chooseNumbers_53 : decode cX2_chooseNumbers 53 = .ok (.aload_n 0, 1) := by decide +kernel
theorem dX2_chooseNumbers_54 : decode cX2_chooseNumbers 54 = .ok (.getfield 22, 3) := by decide +kernel
theorem dX2_chooseNumbers_57 : decode cX2_chooseNumbers 57 = .ok (.imul, 1) := by decide +kernel
theorem dX2_chooseNumbers_58 : decode cX2_chooseNumbers 58 = .ok (.iload_n 2, 1) := by decide +kernel
theorem dX2_chooseNumbers_59 : decode cX2_chooseNumbers 59 = .ok (.iadd, 1) := by decide +kernel
theorem dX2_chooseNumbers_60 : decode cX2_chooseNumbers 60 = .ok (.iaload, 1) := by decide +kernel
theorem dX2_chooseNumbers_61 : decode cX2_chooseNumbers 61 = .ok (.isub, 1) := by decide +kernel
theorem dX2_chooseNumbers_62 : decode cX2_chooseNumbers 62 = .ok (.invokestatic 45, 3) := by decide +kernel
theorem dX2_chooseNumbers_65 : decode cX2_chooseNumbers 65 = .ok (.istore_n 3, 1) := by decide +kernel
theorem dX2_chooseNumbers_66 : decode cX2_chooseNumbers 66 = .ok (.iload 4, 2) := by decide +kernel
theorem dX2_chooseNumbers_68 : decode cX2_chooseNumbers 68 = .ok (.aload_n 0, 1) := by decide +kernel
theorem dX2_chooseNumbers_69 : decode cX2_chooseNumbers 69 = .ok (.getfield 19, 3) := by decide +kernel
theorem dX2_chooseNumbers_72 : decode cX2_chooseNumbers 72 = .ok (.iload 5, 2) := by decide +kernel
theorem dX2_chooseNumbers_74 : decode cX2_chooseNumbers 74 = .ok (.iaload, 1) := by decide +kernel
theorem dX2_chooseNumbers_75 : decode cX2_chooseNumbers 75 = .ok (.aload_n 0, 1) := by decide +kernel
theorem dX2_chooseNumbers_76 : decode cX2_chooseNumbers 76 = .ok (.getfield 11, 3) := by decide +kernel
theorem dX2_chooseNumbers_79 : decode cX2_chooseNumbers 79 = .ok (.iload_n 2, 1) := by decide +kernel
theorem dX2_chooseNumbers_80 : decode cX2_chooseNumbers 80 = .ok (.aload_n 0, 1) := by decide +kernel
theorem dX2_chooseNumbers_81 : decode cX2_chooseNumbers 81 = .ok (.getfield 22, 3) := by decide +kernel
theorem dX2_chooseNumbers_84 : decode cX2_chooseNumbers 84 = .ok (.imul, 1) := by decide +kernel
theorem dX2_chooseNumbers_85 : decode cX2_chooseNumbers 85 = .ok (.iload 5, 2) := by decide +kernel
theorem dX2_chooseNumbers_87 : decode cX2_chooseNumbers 87 = .ok (.iadd, 1) := by decide +kernel
theorem dX2_chooseNumbers_88 : decode cX2_chooseNumbers 88 = .ok (.iaload, 1) := by decide +kernel
theorem dX2_chooseNumbers_89 : decode cX2_chooseNumbers 89 = .ok (.iadd, 1) := by decide +kernel
theorem dX2_chooseNumbers_90 : decode cX2_chooseNumbers 90 = .ok (.invokestatic 51, 3) := by decide +kernel
theorem dX2_chooseNumbers_93 : decode cX2_chooseNumbers 93 = .ok (.istore 4, 2) := by decide +kernel
theorem dX2_chooseNumbers_95 : decode cX2_chooseNumbers 95 = .ok (.iinc 5 1, 3) := by decide +kernel
theorem dX2_chooseNumbers_98 : decode cX2_chooseNumbers 98 = .ok (.goto (-65), 3) := by decide +kernel
theorem dX2_chooseNumbers_101 : decode cX2_chooseNumbers 101 = .ok (.iload_n 3, 1) := by decide +kernel
theorem dX2_chooseNumbers_102 : decode cX2_chooseNumbers 102 = .ok (.aload_n 0, 1) := by decide +kernel
theorem dX2_chooseNumbers_103 : decode cX2_chooseNumbers 103 = .ok (.getfield 11, 3) := by decide +kernel
theorem dX2_chooseNumbers_106 : decode cX2_chooseNumbers 106 = .ok (.aload_n 0, 1) := by decide +kernel
theorem dX2_chooseNumbers_107 : decode cX2_chooseNumbers 107 = .ok (.getfield 26, 3) := by decide +kernel
theorem dX2_chooseNumbers_110 : decode cX2_chooseNumbers 110 = .ok (.aload_n 0, 1) := by decide +kernel
theorem dX2_chooseNumbers_111 : decode cX2_chooseNumbers 111 = .ok (.getfield 22, 3) := by decide +kernel
theorem dX2_chooseNumbers_114 : decode cX2_chooseNumbers 114 = .ok (.imul, 1) := by decide +kernel
theorem dX2_chooseNumbers_115 : decode cX2_chooseNumbers 115 = .ok (.iload_n 2, 1) := by decide +kernel
theorem dX2_chooseNumbers_116 : decode cX2_chooseNumbers 116 = .ok (.iadd, 1) := by decide +kernel
theorem dX2_chooseNumbers_117 : decode cX2_chooseNumbers 117 = .ok (.iaload, 1) := by decide +kernel
theorem dX2_chooseNumbers_118 : decode cX2_chooseNumbers 118 = .ok (.ineg, 1) := by decide +kernel
theorem dX2_chooseNumbers_119 : decode cX2_chooseNumbers 119 = .ok (.invokestatic 45, 3) := by decide +kernel
theorem dX2_chooseNumbers_122 : decode cX2_chooseNumbers 122 = .ok (.istore_n 3, 1) := by decide +kernel
theorem dX2_chooseNumbers_123 : decode cX2_chooseNumbers 123 = .ok (.aload_n 0, 1) := by decide +kernel
theorem dX2_chooseNumbers_124 : decode cX2_chooseNumbers 124 = .ok (.getfield 19, 3) := by decide +kernel
theorem dX2_chooseNumbers_127 : decode cX2_chooseNumbers 127 = .ok (.iload_n 2, 1) := by decide +kernel
theorem dX2_chooseNumbers_128 : decode cX2_chooseNumbers 128 = .ok (.aload_n 0, 1) := by decide +kernel
theorem dX2_chooseNumbers_129 : decode cX2_chooseNumbers 129 = .ok (.iload_n 2, 1) := by decide +kernel
theorem dX2_chooseNumbers_130 : decode cX2_chooseNumbers 130 = .ok (.iload_n 3, 1) := by decide +kernel
theorem dX2_chooseNumbers_131 : decode cX2_chooseNumbers 131 = .ok (.iload 4, 2) := by decide +kernel
theorem dX2_chooseNumbers_133 : decode cX2_chooseNumbers 133 = .ok (.iload_n 2, 1) := by decide +kernel
theorem dX2_chooseNumbers_134 : decode cX2_chooseNumbers 134 = .ok (.iload_n 1, 1) := by decide +kernel
theorem dX2_chooseNumbers_135 : decode cX2_chooseNumbers 135 = .ok (.if_icmp .gt 7, 3) := by decide +kernel
theorem dX2_chooseNumbers_138 : decode cX2_chooseNumbers 138 = .ok (.iconst 1, 1) := by decide +kernel
theorem dX2_chooseNumbers_139 : decode cX2_chooseNumbers 139 = .ok (.goto 4, 3) := by decide +kernel
theorem dX2_chooseNumbers_142 : decode cX2_chooseNumbers 142 = .ok (.iconst 0, 1) := by decide +kernel
theorem dX2_chooseNumbers_143 : decode cX2_chooseNumbers 143 = .ok (.invokevirtual 54, 3) := by decide +kernel
theorem dX2_chooseNumbers_146 : decode cX2_chooseNumbers 146 = .ok (.iastore, 1) := by decide +kernel
theorem dX2_chooseNumbers_147 : decode cX2_chooseNumbers 147 = .ok (.iinc 2 1, 3) := by decide +kernel
theorem dX2_chooseNumbers_150 : decode cX2_chooseNumbers 150 = .ok (.goto (-148), 3) := by decide +kernel
theorem dX2_chooseNumbers_153 : decode cX2_chooseNumbers 153 = .ok (.return_, 1) := by decide +kernel
theorem dX2_chooseNumber_0 : decode cX2_chooseNumber 0 = .ok (.iconst 0, 1) := by decide +kernel
theorem dX2_chooseNumber_1 : decode cX2_chooseNumber 1 = .ok (.istore 5, 2) := by decide +kernel
theorem dX2_chooseNumber_3 : decode cX2_chooseNumber 3 = .ok (.iconst 0, 1) := by decide +kernel
theorem dX2_chooseNumber_4 : decode cX2_chooseNumber 4 = .ok (.istore 6, 2) := by decide +kernel
theorem dX2_chooseNumber_6 : decode cX2_chooseNumber 6 = .ok (.aload_n 0, 1) := by decide +kernel
theorem dX2_chooseNumber_7 : decode cX2_chooseNumber 7 = .ok (.getfield 11, 3) := by decide +kernel
theorem dX2_chooseNumber_10 : decode cX2_chooseNumber 10 = .ok (.aload_n 0, 1) := by decide +kernel
theorem dX2_chooseNumber_11 : decode cX2_chooseNumber 11 = .ok (.getfield 22, 3) := by decide +kernel
theorem dX2_chooseNumber_14 : decode cX2_chooseNumber 14 = .ok (.aload_n 0, 1) := by decide +kernel
theorem dX2_chooseNumber_15 : decode cX2_chooseNumber 15 = .ok (.getfield 22, 3) := by decide +kernel
theorem dX2_chooseNumber_18 : decode cX2_chooseNumber 18 = .ok (.imul, 1) := by decide +kernel
theorem dX2_chooseNumber_19 : decode cX2_chooseNumber 19 = .ok (.iload_n 1, 1) := by decide +kernel
theorem dX2_chooseNumber_20 : decode cX2_chooseNumber 20 = .ok (.iadd, 1) := by decide +kernel
theorem dX2_chooseNumber_21 : decode cX2_chooseNumber 21 = .ok (.iaload, 1) := by decide +kernel
theorem dX2_chooseNumber_22 : decode cX2_chooseNumber 22 = .ok (.istore 7, 2) := by decide +kernel
theorem dX2_chooseNumber_24 : decode cX2_chooseNumber 24 = .ok (.iconst 0, 1) := by decide +kernel
theorem dX2_chooseNumber_25 : decode cX2_chooseNumber 25 = .ok (.istore 8, 2) := by decide +kernel
theorem dX2_chooseNumber_27 : decode cX2_chooseNumber 27 = .ok (.iload 8, 2) := by decide +kernel
theorem dX2_chooseNumber_29 : decode cX2_chooseNumber 29 = .ok (.iload_n 1, 1) := by decide +kernel
theorem dX2_chooseNumber_30 : decode cX2_chooseNumber 30 = .ok (.if_icmp .ge 63, 3) := by decide +kernel
theorem dX2_chooseNumber_33 : decode cX2_chooseNumber 33 = .ok (.aload_n 0, 1) := by decide +kernel
theorem dX2_chooseNumber_34 : decode cX2_chooseNumber 34 = .ok (.getfield 19, 3) := by decide +kernel
theorem dX2_chooseNumber_37 : decode cX2_chooseNumber 37 = .ok (.iload 8, 2) := by decide +kernel
theorem dX2_chooseNumber_39 : decode cX2_chooseNumber 39 = .ok (.iaload, 1) := by decide +kernel
theorem dX2_chooseNumber_40 : decode cX2_chooseNumber 40 = .ok (.iload_n 2, 1) := by decide +kernel
theorem dX2_chooseNumber_41 : decode cX2_chooseNumber 41 = .ok (.isub, 1) := by decide +kernel
theorem dX2_chooseNumber_42 : decode cX2_chooseNumber 42 = .ok (.istore 9, 2) := by decide +kernel
theorem dX2_chooseNumber_44 : decode cX2_chooseNumber 44 = .ok (.iload 9, 2) := by decide +kernel
theorem dX2_chooseNumber_46 : decode cX2_chooseNumber 46 = .ok (.ifCond .lt 41, 3) := by decide +kernel
theorem dX2_chooseNumber_49 : decode cX2_chooseNumber 49 = .ok (.iload 9, 2) := by decide +kernel
theorem dX2_chooseNumber_51 : decode cX2_chooseNumber 51 = .ok (.bipush 14, 2) := by decide +kernel
theorem dX2_chooseNumber_53 : decode cX2_chooseNumber 53 = .ok (.if_icmp .le 6, 3) := by decide +kernel
theorem dX2_chooseNumber_56 : decode cX2_chooseNumber 56 = .ok (.goto 31, 3) := by decide +kernel
theorem dX2_chooseNumber_59 : decode cX2_chooseNumber 59 = .ok (.iload 5, 2) := by decide +kernel
theorem dX2_chooseNumber_61 : decode cX2_chooseNumber 61 = .ok (.iconst 1, 1) := by decide +kernel
theorem dX2_chooseNumber_62 : decode cX2_chooseNumber 62 = .ok (.iload 9, 2) := by decide +kernel
theorem dX2_chooseNumber_64 : decode cX2_chooseNumber 64 = .ok (.ishl, 1) := by decide +kernel
theorem dX2_chooseNumber_65 : decode cX2_chooseNumber 65 = .ok (.ior, 1) := by decide +kernel
theorem dX2_chooseNumber_66 : decode cX2_chooseNumber 66 = .ok (.istore 5, 2) := by decide +kernel
theorem dX2_chooseNumber_68 : decode cX2_chooseNumber 68 = .ok (.iload 7, 2) := by decide +kernel
theorem dX2_chooseNumber_70 : decode cX2_chooseNumber 70 = .ok (.iload 8, 2) := by decide +kernel
theorem dX2_chooseNumber_72 : decode cX2_chooseNumber 72 = .ok (.ishr, 1) := by decide +kernel
theorem dX2_chooseNumber_73 : decode cX2_chooseNumber 73 = .ok (.iconst 1, 1) := by decide +kernel
theorem dX2_chooseNumber_74 : decode cX2_chooseNumber 74 = .ok (.iand, 1) := by decide +kernel
theorem dX2_chooseNumber_75 : decode cX2_chooseNumber 75 = .ok (.ifCond .eq 12, 3) := by decide +kernel
theorem dX2_chooseNumber_78 : decode cX2_chooseNumber 78 = .ok (.iload 6, 2) := by decide +kernel
theorem dX2_chooseNumber_80 : decode cX2_chooseNumber 80 = .ok (.iconst 1, 1) := by decide +kernel
theorem dX2_chooseNumber_81 : decode cX2_chooseNumber 81 = .ok (.iload 9, 2) := by decide +kernel
theorem dX2_chooseNumber_83 : decode cX2_chooseNumber 83 = .ok (.ishl, 1) := by decide +kernel
theorem dX2_chooseNumber_84 : decode cX2_chooseNumber 84 = .ok (.ior, 1) := by decide +kernel
theorem dX2_chooseNumber_85 : decode cX2_chooseNumber 85 = .ok (.istore 6, 2) := by decide +kernel
theorem dX2_chooseNumber_87 : decode cX2_chooseNumber 87 = .ok (.iinc 8 1, 3) := by decide +kernel
theorem dX2_chooseNumber_90 : decode cX2_chooseNumber 90 = .ok (.goto (-63), 3) := by decide +kernel
theorem dX2_chooseNumber_93 : decode cX2_chooseNumber 93 = .ok (.iload_n 2, 1) := by decide +kernel
theorem dX2_chooseNumber_94 : decode cX2_chooseNumber 94 = .ok (.iload 5, 2) := by decide +kernel
theorem dX2_chooseNumber_96 : decode cX2_chooseNumber 96 = .ok (.iconst (-1), 1) := by decide +kernel
theorem dX2_chooseNumber_97 : decode cX2_chooseNumber 97 = .ok (.ixor, 1) := by decide +kernel
theorem dX2_chooseNumber_98 : decode cX2_chooseNumber 98 = .ok (.invokestatic 58, 3) := by decide +kernel
theorem dX2_chooseNumber_101 : decode cX2_chooseNumber 101 = .ok (.iadd, 1) := by decide +kernel
theorem dX2_chooseNumber_102 : decode cX2_chooseNumber 102 = .ok (.istore 8, 2) := by decide +kernel
theorem dX2_chooseNumber_104 : decode cX2_chooseNumber 104 = .ok (.iload 4, 2) := by decide +kernel
theorem dX2_chooseNumber_106 : decode cX2_chooseNumber 106 = .ok (.ifCond .ne 12, 3) := by decide +kernel
theorem dX2_chooseNumber_109 : decode cX2_chooseNumber 109 = .ok (.iload 8, 2) := by decide +kernel
theorem dX2_chooseNumber_111 : decode cX2_chooseNumber 111 = .ok (.iload_n 3, 1) := by decide +kernel
theorem dX2_chooseNumber_112 : decode cX2_chooseNumber 112 = .ok (.if_icmp .gt 6, 3) := by decide +kernel
theorem dX2_chooseNumber_115 : decode cX2_chooseNumber 115 = .ok (.iload 8, 2) := by decide +kernel
theorem dX2_chooseNumber_117 : decode cX2_chooseNumber 117 = .ok (.ireturn, 1) := by decide +kernel
theorem dX2_chooseNumber_118 : decode cX2_chooseNumber 118 = .ok (.iload_n 2, 1) := by decide +kernel
theorem dX2_chooseNumber_119 : decode cX2_chooseNumber 119 = .ok (.iload 6, 2) := by decide +kernel
theorem dX2_chooseNumber_121 : decode cX2_chooseNumber 121 = .ok (.iconst (-1), 1) := by decide +kernel
theorem dX2_chooseNumber_122 : decode cX2_chooseNumber 122 = .ok (.ixor, 1) := by decide +kernel
theorem dX2_chooseNumber_123 : decode cX2_chooseNumber 123 = .ok (.invokestatic 58, 3) := by decide +kernel
theorem dX2_chooseNumber_126 : decode cX2_chooseNumber 126 = .ok (.iadd, 1) := by decide +kernel
theorem dX2_chooseNumber_127 : decode cX2_chooseNumber 127 = .ok (.istore 8, 2) := by decide +kernel
theorem dX2_chooseNumber_129 : decode cX2_chooseNumber 129 = .ok (.iload 8, 2) := by decide +kernel
theorem dX2_chooseNumber_131 : decode cX2_chooseNumber 131 = .ok (.iload_n 3, 1) := by decide +kernel
theorem dX2_chooseNumber_132 : decode cX2_chooseNumber 132 = .ok (.if_icmp .gt 8, 3) := by decide +kernel
theorem dX2_chooseNumber_135 : decode cX2_chooseNumber 135 = .ok (.iload 8, 2) := by decide +kernel
theorem dX2_chooseNumber_137 : decode cX2_chooseNumber 137 = .ok (.goto 4, 3) := by decide +kernel
theorem dX2_chooseNumber_140 : decode cX2_chooseNumber 140 = .ok (.iload_n 2, 1) := by decide +kernel
theorem dX2_chooseNumber_141 : decode cX2_chooseNumber 141 = .ok (.ireturn, 1) := by decide +kernel
theorem dX2_grants_0 : decode cX2_grants 0 = .ok (.iload_n 1, 1) := by decide +kernel
theorem dX2_grants_1 : decode cX2_grants 1 = .ok (.invokestatic 64, 3) := by decide +kernel
theorem dX2_grants_4 : decode cX2_grants 4 = .ok (.istore_n 2, 1) := by decide +kernel
theorem dX2_grants_5 : decode cX2_grants 5 = .ok (.iload_n 1, 1) := by decide +kernel
theorem dX2_grants_6 : decode cX2_grants 6 = .ok (.invokestatic 69, 3) := by decide +kernel
theorem dX2_grants_9 : decode cX2_grants 9 = .ok (.istore_n 3, 1) := by decide +kernel
theorem dX2_grants_10 : decode cX2_grants 10 = .ok (.iload_n 1, 1) := by decide +kernel
theorem dX2_grants_11 : decode cX2_grants 11 = .ok (.aload_n 0, 1) := by decide +kernel
theorem dX2_grants_12 : decode cX2_grants 12 = .ok (.getfield 19, 3) := by decide +kernel
theorem dX2_grants_15 : decode cX2_grants 15 = .ok (.iload_n 2, 1) := by decide +kernel
theorem dX2_grants_16 : decode cX2_grants 16 = .ok (.iaload, 1) := by decide +kernel
theorem dX2_grants_17 : decode cX2_grants 17 = .ok (.aload_n 0, 1) := by decide +kernel
theorem dX2_grants_18 : decode cX2_grants 18 = .ok (.getfield 19, 3) := by decide +kernel
theorem dX2_grants_21 : decode cX2_grants 21 = .ok (.iload_n 3, 1) := by decide +kernel
theorem dX2_grants_22 : decode cX2_grants 22 = .ok (.iaload, 1) := by decide +kernel
theorem dX2_grants_23 : decode cX2_grants 23 = .ok (.isub, 1) := by decide +kernel
theorem dX2_grants_24 : decode cX2_grants 24 = .ok (.invokestatic 72, 3) := by decide +kernel
theorem dX2_grants_27 : decode cX2_grants 27 = .ok (.ifCond .eq 5, 3) := by decide +kernel
theorem dX2_grants_30 : decode cX2_grants 30 = .ok (.iconst 1, 1) := by decide +kernel
theorem dX2_grants_31 : decode cX2_grants 31 = .ok (.ireturn, 1) := by decide +kernel
theorem dX2_grants_32 : decode cX2_grants 32 = .ok (.iload_n 1, 1) := by decide +kernel
theorem dX2_grants_33 : decode cX2_grants 33 = .ok (.invokestatic 76, 3) := by decide +kernel
theorem dX2_grants_36 : decode cX2_grants 36 = .ok (.iconst 2, 1) := by decide +kernel
theorem dX2_grants_37 : decode cX2_grants 37 = .ok (.if_icmp .ne 16, 3) := by decide +kernel
theorem dX2_grants_40 : decode cX2_grants 40 = .ok (.aload_n 0, 1) := by decide +kernel
theorem dX2_grants_41 : decode cX2_grants 41 = .ok (.iload_n 2, 1) := by decide +kernel
theorem dX2_grants_42 : decode cX2_grants 42 = .ok (.iload_n 3, 1) := by decide +kernel
theorem dX2_grants_43 : decode cX2_grants 43 = .ok (.invokevirtual 79, 3) := by decide +kernel
theorem dX2_grants_46 : decode cX2_grants 46 = .ok (.ifCond .eq 7, 3) := by decide +kernel
theorem dX2_grants_49 : decode cX2_grants 49 = .ok (.iconst 1, 1) := by decide +kernel
theorem dX2_grants_50 : decode cX2_grants 50 = .ok (.goto 4, 3) := by decide +kernel
theorem dX2_grants_53 : decode cX2_grants 53 = .ok (.iconst 0, 1) := by decide +kernel
theorem dX2_grants_54 : decode cX2_grants 54 = .ok (.ireturn, 1) := by decide +kernel
theorem dX2_denies_0 : decode cX2_denies 0 = .ok (.iload_n 1, 1) := by decide +kernel
theorem dX2_denies_1 : decode cX2_denies 1 = .ok (.invokestatic 64, 3) := by decide +kernel
theorem dX2_denies_4 : decode cX2_denies 4 = .ok (.istore_n 2, 1) := by decide +kernel
theorem dX2_denies_5 : decode cX2_denies 5 = .ok (.iload_n 1, 1) := by decide +kernel
theorem dX2_denies_6 : decode cX2_denies 6 = .ok (.invokestatic 69, 3) := by decide +kernel
theorem dX2_denies_9 : decode cX2_denies 9 = .ok (.istore_n 3, 1) := by decide +kernel
theorem dX2_denies_10 : decode cX2_denies 10 = .ok (.aload_n 0, 1) := by decide +kernel
theorem dX2_denies_11 : decode cX2_denies 11 = .ok (.getfield 11, 3) := by decide +kernel
theorem dX2_denies_14 : decode cX2_denies 14 = .ok (.iload_n 2, 1) := by decide +kernel
theorem dX2_denies_15 : decode cX2_denies 15 = .ok (.aload_n 0, 1) := by decide +kernel
theorem dX2_denies_16 : decode cX2_denies 16 = .ok (.getfield 22, 3) := by decide +kernel
theorem dX2_denies_19 : decode cX2_denies 19 = .ok (.imul, 1) := by decide +kernel
theorem dX2_denies_20 : decode cX2_denies 20 = .ok (.iload_n 3, 1) := by decide +kernel
theorem dX2_denies_21 : decode cX2_denies 21 = .ok (.iadd, 1) := by decide +kernel
theorem dX2_denies_22 : decode cX2_denies 22 = .ok (.iaload, 1) := by decide +kernel
theorem dX2_denies_23 : decode cX2_denies 23 = .ok (.istore 4, 2) := by decide +kernel
theorem dX2_denies_25 : decode cX2_denies 25 = .ok (.aload_n 0, 1) := by decide +kernel
theorem dX2_denies_26 : decode cX2_denies 26 = .ok (.getfield 11, 3) := by decide +kernel
theorem dX2_denies_29 : decode cX2_denies 29 = .ok (.iload_n 3, 1) := by decide +kernel
theorem dX2_denies_30 : decode cX2_denies 30 = .ok (.aload_n 0, 1) := by decide +kernel
theorem dX2_denies_31 : decode cX2_denies 31 = .ok (.getfield 22, 3) := by decide +kernel
theorem dX2_denies_34 : decode cX2_denies 34 = .ok (.imul, 1) := by decide +kernel
theorem dX2_denies_35 : decode cX2_denies 35 = .ok (.iload_n 2, 1) := by decide +kernel
theorem dX2_denies_36 : decode cX2_denies 36 = .ok (.iadd, 1) := by decide +kernel
theorem dX2_denies_37 : decode cX2_denies 37 = .ok (.iaload, 1) := by decide +kernel
theorem dX2_denies_38 : decode cX2_denies 38 = .ok (.istore 5, 2) := by decide +kernel
theorem dX2_denies_40 : decode cX2_denies 40 = .ok (.iload_n 1, 1) := by decide +kernel
theorem dX2_denies_41 : decode cX2_denies 41 = .ok (.invokestatic 76, 3) := by decide +kernel
theorem dX2_denies_44 : decode cX2_denies 44 = .ok (.istore 6, 2) := by decide +kernel
theorem dX2_denies_46 : decode cX2_denies 46 = .ok (.iload 6, 2) := by decide +kernel
theorem dX2_denies_48 : decode cX2_denies 48 = .ok (.ifCond .ne 19, 3) := by decide +kernel
theorem dX2_denies_51 : decode cX2_denies 51 = .ok (.iload 5, 2) := by decide +kernel
theorem dX2_denies_53 : decode cX2_denies 53 = .ok (.iload_n 1, 1) := by decide +kernel
theorem dX2_denies_54 : decode cX2_denies 54 = .ok (.invokestatic 82, 3) := by decide +kernel
theorem dX2_denies_57 : decode cX2_denies 57 = .ok (.iadd, 1) := by decide +kernel
theorem dX2_denies_58 : decode cX2_denies 58 = .ok (.ifCond .ge 7, 3) := by decide +kernel
theorem dX2_denies_61 : decode cX2_denies 61 = .ok (.iconst 1, 1) := by decide +kernel
theorem dX2_denies_62 : decode cX2_denies 62 = .ok (.goto 4, 3) := by decide +kernel
theorem dX2_denies_65 : decode cX2_denies 65 = .ok (.iconst 0, 1) := by decide +kernel
theorem dX2_denies_66 : decode cX2_denies 66 = .ok (.ireturn, 1) := by decide +kernel
theorem dX2_denies_67 : decode cX2_denies 67 = .ok (.iload 6, 2) := by decide +kernel
theorem dX2_denies_69 : decode cX2_denies 69 = .ok (.iconst 1, 1) := by decide +kernel
theorem dX2_denies_70 : decode cX2_denies 70 = .ok (.if_icmp .ne 28, 3) := by decide +kernel
theorem dX2_denies_73 : decode cX2_denies 73 = .ok (.iload 4, 2) := by decide +kernel
theorem dX2_denies_75 : decode cX2_denies 75 = .ok (.ifCond .lt 17, 3) := by decide +kernel
theorem dX2_denies_78 : decode cX2_denies 78 = .ok (.iload 5, 2) := by decide +kernel
theorem dX2_denies_80 : decode cX2_denies 80 = .ok (.ifCond .lt 12, 3) := by decide +kernel
theorem dX2_denies_83 : decode cX2_denies 83 = .ok (.aload_n 0, 1) := by decide +kernel
theorem dX2_denies_84 : decode cX2_denies 84 = .ok (.iload_n 2, 1) := by decide +kernel
theorem dX2_denies_85 : decode cX2_denies 85 = .ok (.iload_n 3, 1) := by decide +kernel
theorem dX2_denies_86 : decode cX2_denies 86 = .ok (.invokevirtual 79, 3) := by decide +kernel
theorem dX2_denies_89 : decode cX2_denies 89 = .ok (.ifCond .eq 7, 3) := by decide +kernel
theorem dX2_denies_92 : decode cX2_denies 92 = .ok (.iconst 1, 1) := by decide +kernel
theorem dX2_denies_93 : decode cX2_denies 93 = .ok (.goto 4, 3) := by decide +kernel
theorem dX2_denies_96 : decode cX2_denies 96 = .ok (.iconst 0, 1) := by decide +kernel
theorem dX2_denies_97 : decode cX2_denies 97 = .ok (.ireturn, 1) := by decide +kernel
theorem dX2_denies_98 : decode cX2_denies 98 = .ok (.iload 4, 2) := by decide +kernel
theorem dX2_denies_100 : decode cX2_denies 100 = .ok (.ifCond .gt 12, 3) := by decide +kernel
theorem dX2_denies_103 : decode cX2_denies 103 = .ok (.iload 5, 2) := by decide +kernel
theorem dX2_denies_105 : decode cX2_denies 105 = .ok (.ifCond .gt 7, 3) := by decide +kernel
theorem dX2_denies_108 : decode cX2_denies 108 = .ok (.iconst 1, 1) := by decide +kernel
theorem dX2_denies_109 : decode cX2_denies 109 = .ok (.goto 4, 3) := by decide +kernel
theorem dX2_denies_112 : decode cX2_denies 112 = .ok (.iconst 0, 1) := by decide +kernel
theorem dX2_denies_113 : decode cX2_denies 113 = .ok (.ireturn, 1) := by decide +kernel
theorem dX2_whyDenied_0 : decode cX2_whyDenied 0 = .ok (.iload_n 1, 1) := by decide +kernel
theorem dX2_whyDenied_1 : decode cX2_whyDenied 1 = .ok (.invokestatic 64, 3) := by decide +kernel
theorem dX2_whyDenied_4 : decode cX2_whyDenied 4 = .ok (.aload_n 0, 1) := by decide +kernel
theorem dX2_whyDenied_5 : decode cX2_whyDenied 5 = .ok (.getfield 22, 3) := by decide +kernel
theorem dX2_whyDenied_8 : decode cX2_whyDenied 8 = .ok (.imul, 1) := by decide +kernel
theorem dX2_whyDenied_9 : decode cX2_whyDenied 9 = .ok (.iload_n 1, 1) := by decide +kernel
theorem dX2_whyDenied_10 : decode cX2_whyDenied 10 = .ok (.invokestatic 69, 3) := by decide +kernel
theorem dX2_whyDenied_13 : decode cX2_whyDenied 13 = .ok (.iadd, 1) := by decide +kernel
theorem dX2_whyDenied_14 : decode cX2_whyDenied 14 = .ok (.istore_n 2, 1) := by decide +kernel
theorem dX2_whyDenied_15 : decode cX2_whyDenied 15 = .ok (.iload_n 1, 1) := by decide +kernel
theorem dX2_whyDenied_16 : decode cX2_whyDenied 16 = .ok (.invokestatic 69, 3) := by decide +kernel
theorem dX2_whyDenied_19 : decode cX2_whyDenied 19 = .ok (.aload_n 0, 1) := by decide +kernel
theorem dX2_whyDenied_20 : decode cX2_whyDenied 20 = .ok (.getfield 22, 3) := by decide +kernel
theorem dX2_whyDenied_23 : decode cX2_whyDenied 23 = .ok (.imul, 1) := by decide +kernel
theorem dX2_whyDenied_24 : decode cX2_whyDenied 24 = .ok (.iload_n 1, 1) := by decide +kernel
theorem dX2_whyDenied_25 : decode cX2_whyDenied 25 = .ok (.invokestatic 64, 3) := by decide +kernel
theorem dX2_whyDenied_28 : decode cX2_whyDenied 28 = .ok (.iadd, 1) := by decide +kernel
theorem dX2_whyDenied_29 : decode cX2_whyDenied 29 = .ok (.istore_n 3, 1) := by decide +kernel
theorem dX2_whyDenied_30 : decode cX2_whyDenied 30 = .ok (.iload_n 1, 1) := by decide +kernel
theorem dX2_whyDenied_31 : decode cX2_whyDenied 31 = .ok (.invokestatic 76, 3) := by decide +kernel
theorem dX2_whyDenied_34 : decode cX2_whyDenied 34 = .ok (.istore 4, 2) := by decide +kernel
theorem dX2_whyDenied_36 : decode cX2_whyDenied 36 = .ok (.iload 4, 2) := by decide +kernel
theorem dX2_whyDenied_38 : decode cX2_whyDenied 38 = .ok (.ifCond .ne 10, 3) := by decide +kernel
theorem dX2_whyDenied_41 : decode cX2_whyDenied 41 = .ok (.aload_n 0, 1) := by decide +kernel
theorem dX2_whyDenied_42 : decode cX2_whyDenied 42 = .ok (.getfield 15, 3) := by decide +kernel
theorem dX2_whyDenied_45 : decode cX2_whyDenied 45 = .ok (.iload_n 3, 1) := by decide +kernel
theorem dX2_whyDenied_46 : decode cX2_whyDenied 46 = .ok (.laload, 1) := by decide +kernel
theorem dX2_whyDenied_47 : decode cX2_whyDenied 47 = .ok (.lreturn, 1) := by decide +kernel
theorem dX2_whyDenied_48 : decode cX2_whyDenied 48 = .ok (.iload 4, 2) := by decide +kernel
theorem dX2_whyDenied_50 : decode cX2_whyDenied 50 = .ok (.iconst 2, 1) := by decide +kernel
theorem dX2_whyDenied_51 : decode cX2_whyDenied 51 = .ok (.if_icmp .ne 17, 3) := by decide +kernel
theorem dX2_whyDenied_54 : decode cX2_whyDenied 54 = .ok (.aload_n 0, 1) := by decide +kernel
theorem dX2_whyDenied_55 : decode cX2_whyDenied 55 = .ok (.getfield 15, 3) := by decide +kernel
theorem dX2_whyDenied_58 : decode cX2_whyDenied 58 = .ok (.iload_n 2, 1) := by decide +kernel
theorem dX2_whyDenied_59 : decode cX2_whyDenied 59 = .ok (.laload, 1) := by decide +kernel
theorem dX2_whyDenied_60 : decode cX2_whyDenied 60 = .ok (.aload_n 0, 1) := by decide +kernel
theorem dX2_whyDenied_61 : decode cX2_whyDenied 61 = .ok (.getfield 15, 3) := by decide +kernel
theorem dX2_whyDenied_64 : decode cX2_whyDenied 64 = .ok (.iload_n 3, 1) := by decide +kernel
theorem dX2_whyDenied_65 : decode cX2_whyDenied 65 = .ok (.laload, 1) := by decide +kernel
theorem dX2_whyDenied_66 : decode cX2_whyDenied 66 = .ok (.lor, 1) := by decide +kernel
theorem dX2_whyDenied_67 : decode cX2_whyDenied 67 = .ok (.lreturn, 1) := by decide +kernel
theorem dX2_whyDenied_68 : decode cX2_whyDenied 68 = .ok (.aload_n 0, 1) := by decide +kernel
theorem dX2_whyDenied_69 : decode cX2_whyDenied 69 = .ok (.getfield 11, 3) := by decide +kernel
theorem dX2_whyDenied_72 : decode cX2_whyDenied 72 = .ok (.iload_n 2, 1) := by decide +kernel
theorem dX2_whyDenied_73 : decode cX2_whyDenied 73 = .ok (.iaload, 1) := by decide +kernel
theorem dX2_whyDenied_74 : decode cX2_whyDenied 74 = .ok (.ifCond .ge 10, 3) := by decide +kernel
theorem dX2_whyDenied_77 : decode cX2_whyDenied 77 = .ok (.aload_n 0, 1) := by decide +kernel
theorem dX2_whyDenied_78 : decode cX2_whyDenied 78 = .ok (.getfield 15, 3) := by decide +kernel
theorem dX2_whyDenied_81 : decode cX2_whyDenied 81 = .ok (.iload_n 2, 1) := by decide +kernel
theorem dX2_whyDenied_82 : decode cX2_whyDenied 82 = .ok (.laload, 1) := by decide +kernel
theorem dX2_whyDenied_83 : decode cX2_whyDenied 83 = .ok (.lreturn, 1) := by decide +kernel
theorem dX2_whyDenied_84 : decode cX2_whyDenied 84 = .ok (.aload_n 0, 1) := by decide +kernel
theorem dX2_whyDenied_85 : decode cX2_whyDenied 85 = .ok (.getfield 11, 3) := by decide +kernel
theorem dX2_whyDenied_88 : decode cX2_whyDenied 88 = .ok (.iload_n 3, 1) := by decide +kernel
theorem dX2_whyDenied_89 : decode cX2_whyDenied 89 = .ok (.iaload, 1) := by decide +kernel
theorem dX2_whyDenied_90 : decode cX2_whyDenied 90 = .ok (.ifCond .ge 12, 3) := by decide +kernel
theorem dX2_whyDenied_93 : decode cX2_whyDenied 93 = .ok (.aload_n 0, 1) := by decide +kernel
theorem dX2_whyDenied_94 : decode cX2_whyDenied 94 = .ok (.getfield 15, 3) := by decide +kernel
theorem dX2_whyDenied_97 : decode cX2_whyDenied 97 = .ok (.iload_n 3, 1) := by decide +kernel
theorem dX2_whyDenied_98 : decode cX2_whyDenied 98 = .ok (.laload, 1) := by decide +kernel
theorem dX2_whyDenied_99 : decode cX2_whyDenied 99 = .ok (.goto 19, 3) := by decide +kernel
theorem dX2_whyDenied_102 : decode cX2_whyDenied 102 = .ok (.aload_n 0, 1) := by decide +kernel
theorem dX2_whyDenied_103 : decode cX2_whyDenied 103 = .ok (.getfield 15, 3) := by decide +kernel
theorem dX2_whyDenied_106 : decode cX2_whyDenied 106 = .ok (.aload_n 0, 1) := by decide +kernel
theorem dX2_whyDenied_107 : decode cX2_whyDenied 107 = .ok (.getfield 22, 3) := by decide +kernel
theorem dX2_whyDenied_110 : decode cX2_whyDenied 110 = .ok (.aload_n 0, 1) := by decide +kernel
theorem dX2_whyDenied_111 : decode cX2_whyDenied 111 = .ok (.getfield 22, 3) := by decide +kernel
theorem dX2_whyDenied_114 : decode cX2_whyDenied 114 = .ok (.imul, 1) := by decide +kernel
theorem dX2_whyDenied_115 : decode cX2_whyDenied 115 = .ok (.iload_n 2, 1) := by decide +kernel
theorem dX2_whyDenied_116 : decode cX2_whyDenied 116 = .ok (.iadd, 1) := by decide +kernel
theorem dX2_whyDenied_117 : decode cX2_whyDenied 117 = .ok (.laload, 1) := by decide +kernel
theorem dX2_whyDenied_118 : decode cX2_whyDenied 118 = .ok (.lreturn, 1) := by decide +kernel
theorem dX2_whyLimit_0 : decode cX2_whyLimit 0 = .ok (.aload_n 0, 1) := by decide +kernel
theorem dX2_whyLimit_1 : decode cX2_whyLimit 1 = .ok (.getfield 15, 3) := by decide +kernel
theorem dX2_whyLimit_4 : decode cX2_whyLimit 4 = .ok (.iload_n 1, 1) := by decide +kernel
theorem dX2_whyLimit_5 : decode cX2_whyLimit 5 = .ok (.aload_n 0, 1) := by decide +kernel
theorem dX2_whyLimit_6 : decode cX2_whyLimit 6 = .ok (.getfield 22, 3) := by decide +kernel
theorem dX2_whyLimit_9 : decode cX2_whyLimit 9 = .ok (.imul, 1) := by decide +kernel
theorem dX2_whyLimit_10 : decode cX2_whyLimit 10 = .ok (.iload_n 2, 1) := by decide +kernel
theorem dX2_whyLimit_11 : decode cX2_whyLimit 11 = .ok (.iadd, 1) := by decide +kernel
theorem dX2_whyLimit_12 : decode cX2_whyLimit 12 = .ok (.laload, 1) := by decide +kernel
theorem dX2_whyLimit_13 : decode cX2_whyLimit 13 = .ok (.lreturn, 1) := by decide +kernel
theorem dX2_whyApart_0 : decode cX2_whyApart 0 = .ok (.aload_n 0, 1) := by decide +kernel
theorem dX2_whyApart_1 : decode cX2_whyApart 1 = .ok (.getfield 15, 3) := by decide +kernel
theorem dX2_whyApart_4 : decode cX2_whyApart 4 = .ok (.aload_n 0, 1) := by decide +kernel
theorem dX2_whyApart_5 : decode cX2_whyApart 5 = .ok (.getfield 22, 3) := by decide +kernel
theorem dX2_whyApart_8 : decode cX2_whyApart 8 = .ok (.aload_n 0, 1) := by decide +kernel
theorem dX2_whyApart_9 : decode cX2_whyApart 9 = .ok (.getfield 22, 3) := by decide +kernel
theorem dX2_whyApart_12 : decode cX2_whyApart 12 = .ok (.imul, 1) := by decide +kernel
theorem dX2_whyApart_13 : decode cX2_whyApart 13 = .ok (.iload_n 1, 1) := by decide +kernel
theorem dX2_whyApart_14 : decode cX2_whyApart 14 = .ok (.aload_n 0, 1) := by decide +kernel
theorem dX2_whyApart_15 : decode cX2_whyApart 15 = .ok (.getfield 22, 3) := by decide +kernel
theorem dX2_whyApart_18 : decode cX2_whyApart 18 = .ok (.imul, 1) := by decide +kernel
theorem dX2_whyApart_19 : decode cX2_whyApart 19 = .ok (.iadd, 1) := by decide +kernel
theorem dX2_whyApart_20 : decode cX2_whyApart 20 = .ok (.iload_n 2, 1) := by decide +kernel
theorem dX2_whyApart_21 : decode cX2_whyApart 21 = .ok (.iadd, 1) := by decide +kernel
theorem dX2_whyApart_22 : decode cX2_whyApart 22 = .ok (.laload, 1) := by decide +kernel
theorem dX2_whyApart_23 : decode cX2_whyApart 23 = .ok (.lreturn, 1) := by decide +kernel
theorem dX2_assume_0 : decode cX2_assume 0 = .ok (.iload_n 1, 1) := by decide +kernel
theorem dX2_assume_1 : decode cX2_assume 1 = .ok (.invokestatic 64, 3) := by decide +kernel
theorem dX2_assume_4 : decode cX2_assume 4 = .ok (.istore 4, 2) := by decide +kernel
theorem dX2_assume_6 : decode cX2_assume 6 = .ok (.iload_n 1, 1) := by decide +kernel
theorem dX2_assume_7 : decode cX2_assume 7 = .ok (.invokestatic 69, 3) := by decide +kernel
theorem dX2_assume_10 : decode cX2_assume 10 = .ok (.istore 5, 2) := by decide +kernel
theorem dX2_assume_12 : decode cX2_assume 12 = .ok (.iload_n 1, 1) := by decide +kernel
theorem dX2_assume_13 : decode cX2_assume 13 = .ok (.invokestatic 76, 3) := by decide +kernel
theorem dX2_assume_16 : decode cX2_assume 16 = .ok (.istore 6, 2) := by decide +kernel
theorem dX2_assume_18 : decode cX2_assume 18 = .ok (.iload 6, 2) := by decide +kernel
theorem dX2_assume_20 : decode cX2_assume 20 = .ok (.ifCond .ne 17, 3) := by decide +kernel
theorem dX2_assume_23 : decode cX2_assume 23 = .ok (.aload_n 0, 1) := by decide +kernel
theorem dX2_assume_24 : decode cX2_assume 24 = .ok (.iload 4, 2) := by decide +kernel
theorem dX2_assume_26 : decode cX2_assume 26 = .ok (.iload 5, 2) := by decide +kernel
theorem dX2_assume_28 : decode cX2_assume 28 = .ok (.iload_n 1, 1) := by decide +kernel
theorem dX2_assume_29 : decode cX2_assume 29 = .ok (.invokestatic 82, 3) := by decide +kernel
theorem dX2_assume_32 : decode cX2_assume 32 = .ok (.lload_n 2, 1) := by decide +kernel
theorem dX2_assume_33 : decode cX2_assume 33 = .ok (.invokevirtual 85, 3) := by decide +kernel
theorem dX2_assume_36 : decode cX2_assume 36 = .ok (.ireturn, 1) := by decide +kernel
theorem dX2_assume_37 : decode cX2_assume 37 = .ok (.iload 6, 2) := by decide +kernel
theorem dX2_assume_39 : decode cX2_assume 39 = .ok (.iconst 2, 1) := by decide +kernel
theorem dX2_assume_40 : decode cX2_assume 40 = .ok (.if_icmp .ne 13, 3) := by decide +kernel
theorem dX2_assume_43 : decode cX2_assume 43 = .ok (.aload_n 0, 1) := by decide +kernel
theorem dX2_assume_44 : decode cX2_assume 44 = .ok (.iload 4, 2) := by decide +kernel
theorem dX2_assume_46 : decode cX2_assume 46 = .ok (.iload 5, 2) := by decide +kernel
theorem dX2_assume_48 : decode cX2_assume 48 = .ok (.lload_n 2, 1) := by decide +kernel
theorem dX2_assume_49 : decode cX2_assume 49 = .ok (.invokevirtual 89, 3) := by decide +kernel
theorem dX2_assume_52 : decode cX2_assume 52 = .ok (.ireturn, 1) := by decide +kernel
theorem dX2_assume_53 : decode cX2_assume 53 = .ok (.aload_n 0, 1) := by decide +kernel
theorem dX2_assume_54 : decode cX2_assume 54 = .ok (.iload 4, 2) := by decide +kernel
theorem dX2_assume_56 : decode cX2_assume 56 = .ok (.iload 5, 2) := by decide +kernel
theorem dX2_assume_58 : decode cX2_assume 58 = .ok (.invokevirtual 79, 3) := by decide +kernel
theorem dX2_assume_61 : decode cX2_assume 61 = .ok (.ifCond .eq 19, 3) := by decide +kernel
theorem dX2_assume_64 : decode cX2_assume 64 = .ok (.aload_n 0, 1) := by decide +kernel
theorem dX2_assume_65 : decode cX2_assume 65 = .ok (.lload_n 2, 1) := by decide +kernel
theorem dX2_assume_66 : decode cX2_assume 66 = .ok (.aload_n 0, 1) := by decide +kernel
theorem dX2_assume_67 : decode cX2_assume 67 = .ok (.iload 4, 2) := by decide +kernel
theorem dX2_assume_69 : decode cX2_assume 69 = .ok (.iload 5, 2) := by decide +kernel
theorem dX2_assume_71 : decode cX2_assume 71 = .ok (.invokevirtual 93, 3) := by decide +kernel
theorem dX2_assume_74 : decode cX2_assume 74 = .ok (.lor, 1) := by decide +kernel
theorem dX2_assume_75 : decode cX2_assume 75 = .ok (.putfield 97, 3) := by decide +kernel
theorem dX2_assume_78 : decode cX2_assume 78 = .ok (.iconst 0, 1) := by decide +kernel
theorem dX2_assume_79 : decode cX2_assume 79 = .ok (.ireturn, 1) := by decide +kernel
theorem dX2_assume_80 : decode cX2_assume 80 = .ok (.aload_n 0, 1) := by decide +kernel
theorem dX2_assume_81 : decode cX2_assume 81 = .ok (.iload 4, 2) := by decide +kernel
theorem dX2_assume_83 : decode cX2_assume 83 = .ok (.iload 5, 2) := by decide +kernel
theorem dX2_assume_85 : decode cX2_assume 85 = .ok (.iconst 0, 1) := by decide +kernel
theorem dX2_assume_86 : decode cX2_assume 86 = .ok (.lload_n 2, 1) := by decide +kernel
theorem dX2_assume_87 : decode cX2_assume 87 = .ok (.invokevirtual 85, 3) := by decide +kernel
theorem dX2_assume_90 : decode cX2_assume 90 = .ok (.ifCond .eq 20, 3) := by decide +kernel
theorem dX2_assume_93 : decode cX2_assume 93 = .ok (.aload_n 0, 1) := by decide +kernel
theorem dX2_assume_94 : decode cX2_assume 94 = .ok (.iload 5, 2) := by decide +kernel
theorem dX2_assume_96 : decode cX2_assume 96 = .ok (.iload 4, 2) := by decide +kernel
theorem dX2_assume_98 : decode cX2_assume 98 = .ok (.iconst 0, 1) := by decide +kernel
theorem dX2_assume_99 : decode cX2_assume 99 = .ok (.lload_n 2, 1) := by decide +kernel
theorem dX2_assume_100 : decode cX2_assume 100 = .ok (.invokevirtual 85, 3) := by decide +kernel
theorem dX2_assume_103 : decode cX2_assume 103 = .ok (.ifCond .eq 7, 3) := by decide +kernel
theorem dX2_assume_106 : decode cX2_assume 106 = .ok (.iconst 1, 1) := by decide +kernel
theorem dX2_assume_107 : decode cX2_assume 107 = .ok (.goto 4, 3) := by decide +kernel
theorem dX2_assume_110 : decode cX2_assume 110 = .ok (.iconst 0, 1) := by decide +kernel
theorem dX2_assume_111 : decode cX2_assume 111 = .ok (.ireturn, 1) := by decide +kernel
theorem dX2_restrict_0 : decode cX2_restrict 0 = .ok (.iload_n 3, 1) := by decide +kernel
theorem dX2_restrict_1 : decode cX2_restrict 1 = .ok (.aload_n 0, 1) := by decide +kernel
theorem dX2_restrict_2 : decode cX2_restrict 2 = .ok (.getfield 11, 3) := by decide +kernel
theorem dX2_restrict_5 : decode cX2_restrict 5 = .ok (.iload_n 1, 1) := by decide +kernel
theorem dX2_restrict_6 : decode cX2_restrict 6 = .ok (.aload_n 0, 1) := by decide +kernel
theorem dX2_restrict_7 : decode cX2_restrict 7 = .ok (.getfield 22, 3) := by decide +kernel
theorem dX2_restrict_10 : decode cX2_restrict 10 = .ok (.imul, 1) := by decide +kernel
theorem dX2_restrict_11 : decode cX2_restrict 11 = .ok (.iload_n 2, 1) := by decide +kernel
theorem dX2_restrict_12 : decode cX2_restrict 12 = .ok (.iadd, 1) := by decide +kernel
theorem dX2_restrict_13 : decode cX2_restrict 13 = .ok (.iaload, 1) := by decide +kernel
theorem dX2_restrict_14 : decode cX2_restrict 14 = .ok (.if_icmp .lt 5, 3) := by decide +kernel
theorem dX2_restrict_17 : decode cX2_restrict 17 = .ok (.iconst 1, 1) := by decide +kernel
theorem dX2_restrict_18 : decode cX2_restrict 18 = .ok (.ireturn, 1) := by decide +kernel
theorem dX2_restrict_19 : decode cX2_restrict 19 = .ok (.iload_n 3, 1) := by decide +kernel
theorem dX2_restrict_20 : decode cX2_restrict 20 = .ok (.aload_n 0, 1) := by decide +kernel
theorem dX2_restrict_21 : decode cX2_restrict 21 = .ok (.getfield 11, 3) := by decide +kernel
theorem dX2_restrict_24 : decode cX2_restrict 24 = .ok (.iload_n 2, 1) := by decide +kernel
theorem dX2_restrict_25 : decode cX2_restrict 25 = .ok (.aload_n 0, 1) := by decide +kernel
theorem dX2_restrict_26 : decode cX2_restrict 26 = .ok (.getfield 22, 3) := by decide +kernel
theorem dX2_restrict_29 : decode cX2_restrict 29 = .ok (.imul, 1) := by decide +kernel
theorem dX2_restrict_30 : decode cX2_restrict 30 = .ok (.iload_n 1, 1) := by decide +kernel
theorem dX2_restrict_31 : decode cX2_restrict 31 = .ok (.iadd, 1) := by decide +kernel
theorem dX2_restrict_32 : decode cX2_restrict 32 = .ok (.iaload, 1) := by decide +kernel
theorem dX2_restrict_33 : decode cX2_restrict 33 = .ok (.iadd, 1) := by decide +kernel
theorem dX2_restrict_34 : decode cX2_restrict 34 = .ok (.ifCond .ge 25, 3) := by decide +kernel
theorem dX2_restrict_37 : decode cX2_restrict 37 = .ok (.aload_n 0, 1) := by decide +kernel
theorem dX2_restrict_38 : decode cX2_restrict 38 = .ok (.lload 4, 2) := by decide +kernel
theorem dX2_restrict_40 : decode cX2_restrict 40 = .ok (.aload_n 0, 1) := by decide +kernel
theorem dX2_restrict_41 : decode cX2_restrict 41 = .ok (.getfield 15, 3) := by decide +kernel
theorem dX2_restrict_44 : decode cX2_restrict 44 = .ok (.iload_n 2, 1) := by decide +kernel
theorem dX2_restrict_45 : decode cX2_restrict 45 = .ok (.aload_n 0, 1) := by decide +kernel
theorem dX2_restrict_46 : decode cX2_restrict 46 = .ok (.getfield 22, 3) := by decide +kernel
theorem dX2_restrict_49 : decode cX2_restrict 49 = .ok (.imul, 1) := by decide +kernel
theorem dX2_restrict_50 : decode cX2_restrict 50 = .ok (.iload_n 1, 1) := by decide +kernel
theorem dX2_restrict_51 : decode cX2_restrict 51 = .ok (.iadd, 1) := by decide +kernel
theorem dX2_restrict_52 : decode cX2_restrict 52 = .ok (.laload, 1) := by decide +kernel
theorem dX2_restrict_53 : decode cX2_restrict 53 = .ok (.lor, 1) := by decide +kernel
theorem dX2_restrict_54 : decode cX2_restrict 54 = .ok (.putfield 97, 3) := by decide +kernel
theorem dX2_restrict_57 : decode cX2_restrict 57 = .ok (.iconst 0, 1) := by decide +kernel
theorem dX2_restrict_58 : decode cX2_restrict 58 = .ok (.ireturn, 1) := by decide +kernel
theorem dX2_restrict_59 : decode cX2_restrict 59 = .ok (.iconst 0, 1) := by decide +kernel
theorem dX2_restrict_60 : decode cX2_restrict 60 = .ok (.istore 6, 2) := by decide +kernel
theorem dX2_restrict_62 : decode cX2_restrict 62 = .ok (.iload 6, 2) := by decide +kernel
theorem dX2_restrict_64 : decode cX2_restrict 64 = .ok (.aload_n 0, 1) := by decide +kernel
theorem dX2_restrict_65 : decode cX2_restrict 65 = .ok (.getfield 22, 3) := by decide +kernel
theorem dX2_restrict_68 : decode cX2_restrict 68 = .ok (.if_icmp .ge 176, 3) := by decide +kernel
theorem dX2_restrict_71 : decode cX2_restrict 71 = .ok (.aload_n 0, 1) := by decide +kernel
theorem dX2_restrict_72 : decode cX2_restrict 72 = .ok (.getfield 11, 3) := by decide +kernel
theorem dX2_restrict_75 : decode cX2_restrict 75 = .ok (.iload 6, 2) := by decide +kernel
theorem dX2_restrict_77 : decode cX2_restrict 77 = .ok (.aload_n 0, 1) := by decide +kernel
theorem dX2_restrict_78 : decode cX2_restrict 78 = .ok (.getfield 22, 3) := by decide +kernel
theorem dX2_restrict_81 : decode cX2_restrict 81 = .ok (.imul, 1) := by decide +kernel
theorem dX2_restrict_82 : decode cX2_restrict 82 = .ok (.iload_n 1, 1) := by decide +kernel
theorem dX2_restrict_83 : decode cX2_restrict 83 = .ok (.iadd, 1) := by decide +kernel
theorem dX2_restrict_84 : decode cX2_restrict 84 = .ok (.iaload, 1) := by decide +kernel
theorem dX2_restrict_85 : decode cX2_restrict 85 = .ok (.istore 7, 2) := by decide +kernel
theorem dX2_restrict_87 : decode cX2_restrict 87 = .ok (.iload 7, 2) := by decide +kernel
theorem dX2_restrict_89 : decode cX2_restrict 89 = .ok (.ldc 35, 2) := by decide +kernel
theorem dX2_restrict_91 : decode cX2_restrict 91 = .ok (.if_icmp .lt 6, 3) := by decide +kernel
theorem dX2_restrict_94 : decode cX2_restrict 94 = .ok (.goto 144, 3) := by decide +kernel
theorem dX2_restrict_97 : decode cX2_restrict 97 = .ok (.lload 4, 2) := by decide +kernel
theorem dX2_restrict_99 : decode cX2_restrict 99 = .ok (.aload_n 0, 1) := by decide +kernel
theorem dX2_restrict_100 : decode cX2_restrict 100 = .ok (.getfield 15, 3) := by decide +kernel
theorem dX2_restrict_103 : decode cX2_restrict 103 = .ok (.iload 6, 2) := by decide +kernel
theorem dX2_restrict_105 : decode cX2_restrict 105 = .ok (.aload_n 0, 1) := by decide +kernel
theorem dX2_restrict_106 : decode cX2_restrict 106 = .ok (.getfield 22, 3) := by decide +kernel
theorem dX2_restrict_109 : decode cX2_restrict 109 = .ok (.imul, 1) := by decide +kernel
theorem dX2_restrict_110 : decode cX2_restrict 110 = .ok (.iload_n 1, 1) := by decide +kernel
theorem dX2_restrict_111 : decode cX2_restrict 111 = .ok (.iadd, 1) := by decide +kernel
theorem dX2_restrict_112 : decode cX2_restrict 112 = .ok (.laload, 1) := by decide +kernel
theorem dX2_restrict_113 : decode cX2_restrict 113 = .ok (.lor, 1) := by decide +kernel
theorem dX2_restrict_114 : decode cX2_restrict 114 = .ok (.lstore 8, 2) := by decide +kernel
theorem dX2_restrict_116 : decode cX2_restrict 116 = .ok (.iconst 0, 1) := by decide +kernel
theorem dX2_restrict_117 : decode cX2_restrict 117 = .ok (.istore 10, 2) := by decide +kernel
theorem dX2_restrict_119 : decode cX2_restrict 119 = .ok (.iload 10, 2) := by decide +kernel
theorem dX2_restrict_121 : decode cX2_restrict 121 = .ok (.aload_n 0, 1) := by decide +kernel
theorem dX2_restrict_122 : decode cX2_restrict 122 = .ok (.getfield 22, 3) := by decide +kernel
theorem dX2_restrict_125 : decode cX2_restrict 125 = .ok (.if_icmp .ge 113, 3) := by decide +kernel
theorem dX2_restrict_128 : decode cX2_restrict 128 = .ok (.aload_n 0, 1) := by decide +kernel
theorem dX2_restrict_129 : decode cX2_restrict 129 = .ok (.getfield 11, 3) := by decide +kernel
theorem dX2_restrict_132 : decode cX2_restrict 132 = .ok (.iload_n 2, 1) := by decide +kernel
theorem dX2_restrict_133 : decode cX2_restrict 133 = .ok (.aload_n 0, 1) := by decide +kernel
theorem dX2_restrict_134 : decode cX2_restrict 134 = .ok (.getfield 22, 3) := by decide +kernel
theorem dX2_restrict_137 : decode cX2_restrict 137 = .ok (.imul, 1) := by decide +kernel
theorem dX2_restrict_138 : decode cX2_restrict 138 = .ok (.iload 10, 2) := by decide +kernel
theorem dX2_restrict_140 : decode cX2_restrict 140 = .ok (.iadd, 1) := by decide +kernel
theorem dX2_restrict_141 : decode cX2_restrict 141 = .ok (.iaload, 1) := by decide +kernel
theorem dX2_restrict_142 : decode cX2_restrict 142 = .ok (.istore 11, 2) := by decide +kernel
theorem dX2_restrict_144 : decode cX2_restrict 144 = .ok (.iload 11, 2) := by decide +kernel
theorem dX2_restrict_146 : decode cX2_restrict 146 = .ok (.ldc 35, 2) := by decide +kernel
theorem dX2_restrict_148 : decode cX2_restrict 148 = .ok (.if_icmp .lt 6, 3) := by decide +kernel
theorem dX2_restrict_151 : decode cX2_restrict 151 = .ok (.goto 81, 3) := by decide +kernel
theorem dX2_restrict_154 : decode cX2_restrict 154 = .ok (.iload 7, 2) := by decide +kernel
theorem dX2_restrict_156 : decode cX2_restrict 156 = .ok (.iload_n 3, 1) := by decide +kernel
theorem dX2_restrict_157 : decode cX2_restrict 157 = .ok (.iadd, 1) := by decide +kernel
theorem dX2_restrict_158 : decode cX2_restrict 158 = .ok (.iload 11, 2) := by decide +kernel
theorem dX2_restrict_160 : decode cX2_restrict 160 = .ok (.iadd, 1) := by decide +kernel
theorem dX2_restrict_161 : decode cX2_restrict 161 = .ok (.istore 12, 2) := by decide +kernel
theorem dX2_restrict_163 : decode cX2_restrict 163 = .ok (.iload 12, 2) := by decide +kernel
theorem dX2_restrict_165 : decode cX2_restrict 165 = .ok (.aload_n 0, 1) := by decide +kernel
theorem dX2_restrict_166 : decode cX2_restrict 166 = .ok (.getfield 11, 3) := by decide +kernel
theorem dX2_restrict_169 : decode cX2_restrict 169 = .ok (.iload 6, 2) := by decide +kernel
theorem dX2_restrict_171 : decode cX2_restrict 171 = .ok (.aload_n 0, 1) := by decide +kernel
theorem dX2_restrict_172 : decode cX2_restrict 172 = .ok (.getfield 22, 3) := by decide +kernel
theorem dX2_restrict_175 : decode cX2_restrict 175 = .ok (.imul, 1) := by decide +kernel
theorem dX2_restrict_176 : decode cX2_restrict 176 = .ok (.iload 10, 2) := by decide +kernel
theorem dX2_restrict_178 : decode cX2_restrict 178 = .ok (.iadd, 1) := by decide +kernel
theorem dX2_restrict_179 : decode cX2_restrict 179 = .ok (.iaload, 1) := by decide +kernel
theorem dX2_restrict_180 : decode cX2_restrict 180 = .ok (.if_icmp .ge 52, 3) := by decide +kernel
theorem dX2_restrict_183 : decode cX2_restrict 183 = .ok (.aload_n 0, 1) := by decide +kernel
theorem dX2_restrict_184 : decode cX2_restrict 184 = .ok (.getfield 11, 3) := by decide +kernel
theorem dX2_restrict_187 : decode cX2_restrict 187 = .ok (.iload 6, 2) := by decide +kernel
theorem dX2_restrict_189 : decode cX2_restrict 189 = .ok (.aload_n 0, 1) := by decide +kernel
theorem dX2_restrict_190 : decode cX2_restrict 190 = .ok (.getfield 22, 3) := by decide +kernel
theorem dX2_restrict_193 : decode cX2_restrict 193 = .ok (.imul, 1) := by decide +kernel
theorem dX2_restrict_194 : decode cX2_restrict 194 = .ok (.iload 10, 2) := by decide +kernel
theorem dX2_restrict_196 : decode cX2_restrict 196 = .ok (.iadd, 1) := by decide +kernel
theorem dX2_restrict_197 : decode cX2_restrict 197 = .ok (.iload 12, 2) := by decide +kernel
theorem dX2_restrict_199 : decode cX2_restrict 199 = .ok (.iastore, 1) := by decide +kernel
theorem dX2_restrict_200 : decode cX2_restrict 200 = .ok (.aload_n 0, 1) := by decide +kernel
theorem dX2_restrict_201 : decode cX2_restrict 201 = .ok (.getfield 15, 3) := by decide +kernel
theorem dX2_restrict_204 : decode cX2_restrict 204 = .ok (.iload 6, 2) := by decide +kernel
theorem dX2_restrict_206 : decode cX2_restrict 206 = .ok (.aload_n 0, 1) := by decide +kernel
theorem dX2_restrict_207 : decode cX2_restrict 207 = .ok (.getfield 22, 3) := by decide +kernel
theorem dX2_restrict_210 : decode cX2_restrict 210 = .ok (.imul, 1) := by decide +kernel
theorem dX2_restrict_211 : decode cX2_restrict 211 = .ok (.iload 10, 2) := by decide +kernel
theorem dX2_restrict_213 : decode cX2_restrict 213 = .ok (.iadd, 1) := by decide +kernel
theorem dX2_restrict_214 : decode cX2_restrict 214 = .ok (.lload 8, 2) := by decide +kernel
theorem dX2_restrict_216 : decode cX2_restrict 216 = .ok (.aload_n 0, 1) := by decide +kernel
theorem dX2_restrict_217 : decode cX2_restrict 217 = .ok (.getfield 15, 3) := by decide +kernel
theorem dX2_restrict_220 : decode cX2_restrict 220 = .ok (.iload_n 2, 1) := by decide +kernel
theorem dX2_restrict_221 : decode cX2_restrict 221 = .ok (.aload_n 0, 1) := by decide +kernel
theorem dX2_restrict_222 : decode cX2_restrict 222 = .ok (.getfield 22, 3) := by decide +kernel
theorem dX2_restrict_225 : decode cX2_restrict 225 = .ok (.imul, 1) := by decide +kernel
theorem dX2_restrict_226 : decode cX2_restrict 226 = .ok (.iload 10, 2) := by decide +kernel
theorem dX2_restrict_228 : decode cX2_restrict 228 = .ok (.iadd, 1) := by decide +kernel
theorem dX2_restrict_229 : decode cX2_restrict 229 = .ok (.laload, 1) := by decide +kernel
theorem dX2_restrict_230 : decode cX2_restrict 230 = .ok (.lor, 1) := by decide +kernel
theorem dX2_restrict_231 : decode cX2_restrict 231 = .ok (.lastore, 1) := by decide +kernel
theorem dX2_restrict_232 : decode cX2_restrict 232 = .ok (.iinc 10 1, 3) := by decide +kernel
theorem dX2_restrict_235 : decode cX2_restrict 235 = .ok (.goto (-116), 3) := by decide +kernel
theorem dX2_restrict_238 : decode cX2_restrict 238 = .ok (.iinc 6 1, 3) := by decide +kernel
theorem dX2_restrict_241 : decode cX2_restrict 241 = .ok (.goto (-179), 3) := by decide +kernel
theorem dX2_restrict_244 : decode cX2_restrict 244 = .ok (.iconst 1, 1) := by decide +kernel
theorem dX2_restrict_245 : decode cX2_restrict 245 = .ok (.ireturn, 1) := by decide +kernel
theorem dX2_part_0 : decode cX2_part 0 = .ok (.iload_n 1, 1) := by decide +kernel
theorem dX2_part_1 : decode cX2_part 1 = .ok (.aload_n 0, 1) := by decide +kernel
theorem dX2_part_2 : decode cX2_part 2 = .ok (.getfield 22, 3) := by decide +kernel
theorem dX2_part_5 : decode cX2_part 5 = .ok (.imul, 1) := by decide +kernel
theorem dX2_part_6 : decode cX2_part 6 = .ok (.iload_n 2, 1) := by decide +kernel
theorem dX2_part_7 : decode cX2_part 7 = .ok (.iadd, 1) := by decide +kernel
theorem dX2_part_8 : decode cX2_part 8 = .ok (.istore 5, 2) := by decide +kernel
theorem dX2_part_10 : decode cX2_part 10 = .ok (.iload_n 2, 1) := by decide +kernel
theorem dX2_part_11 : decode cX2_part 11 = .ok (.aload_n 0, 1) := by decide +kernel
theorem dX2_part_12 : decode cX2_part 12 = .ok (.getfield 22, 3) := by decide +kernel
theorem dX2_part_15 : decode cX2_part 15 = .ok (.imul, 1) := by decide +kernel
theorem dX2_part_16 : decode cX2_part 16 = .ok (.iload_n 1, 1) := by decide +kernel
theorem dX2_part_17 : decode cX2_part 17 = .ok (.iadd, 1) := by decide +kernel
theorem dX2_part_18 : decode cX2_part 18 = .ok (.istore 6, 2) := by decide +kernel
theorem dX2_part_20 : decode cX2_part 20 = .ok (.aload_n 0, 1) := by decide +kernel
theorem dX2_part_21 : decode cX2_part 21 = .ok (.getfield 11, 3) := by decide +kernel
theorem dX2_part_24 : decode cX2_part 24 = .ok (.iload 5, 2) := by decide +kernel
theorem dX2_part_26 : decode cX2_part 26 = .ok (.iaload, 1) := by decide +kernel
theorem dX2_part_27 : decode cX2_part 27 = .ok (.ifCond .gt 36, 3) := by decide +kernel
theorem dX2_part_30 : decode cX2_part 30 = .ok (.aload_n 0, 1) := by decide +kernel
theorem dX2_part_31 : decode cX2_part 31 = .ok (.getfield 11, 3) := by decide +kernel
theorem dX2_part_34 : decode cX2_part 34 = .ok (.iload 6, 2) := by decide +kernel
theorem dX2_part_36 : decode cX2_part 36 = .ok (.iaload, 1) := by decide +kernel
theorem dX2_part_37 : decode cX2_part 37 = .ok (.ifCond .gt 26, 3) := by decide +kernel
theorem dX2_part_40 : decode cX2_part 40 = .ok (.aload_n 0, 1) := by decide +kernel
theorem dX2_part_41 : decode cX2_part 41 = .ok (.lload_n 3, 1) := by decide +kernel
theorem dX2_part_42 : decode cX2_part 42 = .ok (.aload_n 0, 1) := by decide +kernel
theorem dX2_part_43 : decode cX2_part 43 = .ok (.getfield 15, 3) := by decide +kernel
theorem dX2_part_46 : decode cX2_part 46 = .ok (.iload 5, 2) := by decide +kernel
theorem dX2_part_48 : decode cX2_part 48 = .ok (.laload, 1) := by decide +kernel
theorem dX2_part_49 : decode cX2_part 49 = .ok (.lor, 1) := by decide +kernel
theorem dX2_part_50 : decode cX2_part 50 = .ok (.aload_n 0, 1) := by decide +kernel
theorem dX2_part_51 : decode cX2_part 51 = .ok (.getfield 15, 3) := by decide +kernel
theorem dX2_part_54 : decode cX2_part 54 = .ok (.iload 6, 2) := by decide +kernel
theorem dX2_part_56 : decode cX2_part 56 = .ok (.laload, 1) := by decide +kernel
theorem dX2_part_57 : decode cX2_part 57 = .ok (.lor, 1) := by decide +kernel
theorem dX2_part_58 : decode cX2_part 58 = .ok (.putfield 97, 3) := by decide +kernel
theorem dX2_part_61 : decode cX2_part 61 = .ok (.iconst 0, 1) := by decide +kernel
theorem dX2_part_62 : decode cX2_part 62 = .ok (.ireturn, 1) := by decide +kernel
theorem dX2_part_63 : decode cX2_part 63 = .ok (.aload_n 0, 1) := by decide +kernel
theorem dX2_part_64 : decode cX2_part 64 = .ok (.getfield 11, 3) := by decide +kernel
theorem dX2_part_67 : decode cX2_part 67 = .ok (.aload_n 0, 1) := by decide +kernel
theorem dX2_part_68 : decode cX2_part 68 = .ok (.getfield 22, 3) := by decide +kernel
theorem dX2_part_71 : decode cX2_part 71 = .ok (.aload_n 0, 1) := by decide +kernel
theorem dX2_part_72 : decode cX2_part 72 = .ok (.getfield 22, 3) := by decide +kernel
theorem dX2_part_75 : decode cX2_part 75 = .ok (.imul, 1) := by decide +kernel
theorem dX2_part_76 : decode cX2_part 76 = .ok (.iload_n 1, 1) := by decide +kernel
theorem dX2_part_77 : decode cX2_part 77 = .ok (.iadd, 1) := by decide +kernel
theorem dX2_part_78 : decode cX2_part 78 = .ok (.iaload, 1) := by decide +kernel
theorem dX2_part_79 : decode cX2_part 79 = .ok (.iload_n 2, 1) := by decide +kernel
theorem dX2_part_80 : decode cX2_part 80 = .ok (.ishr, 1) := by decide +kernel
theorem dX2_part_81 : decode cX2_part 81 = .ok (.iconst 1, 1) := by decide +kernel
theorem dX2_part_82 : decode cX2_part 82 = .ok (.iand, 1) := by decide +kernel
theorem dX2_part_83 : decode cX2_part 83 = .ok (.ifCond .eq 5, 3) := by decide +kernel
theorem dX2_part_86 : decode cX2_part 86 = .ok (.iconst 1, 1) := by decide +kernel
theorem dX2_part_87 : decode cX2_part 87 = .ok (.ireturn, 1) := by decide +kernel
theorem dX2_part_88 : decode cX2_part 88 = .ok (.aload_n 0, 1) := by decide +kernel
theorem dX2_part_89 : decode cX2_part 89 = .ok (.getfield 11, 3) := by decide +kernel
theorem dX2_part_92 : decode cX2_part 92 = .ok (.aload_n 0, 1) := by decide +kernel
theorem dX2_part_93 : decode cX2_part 93 = .ok (.getfield 22, 3) := by decide +kernel
theorem dX2_part_96 : decode cX2_part 96 = .ok (.aload_n 0, 1) := by decide +kernel
theorem dX2_part_97 : decode cX2_part 97 = .ok (.getfield 22, 3) := by decide +kernel
theorem dX2_part_100 : decode cX2_part 100 = .ok (.imul, 1) := by decide +kernel
theorem dX2_part_101 : decode cX2_part 101 = .ok (.iload_n 1, 1) := by decide +kernel
theorem dX2_part_102 : decode cX2_part 102 = .ok (.iadd, 1) := by decide +kernel
theorem dX2_part_103 : decode cX2_part 103 = .ok (.dup2, 1) := by decide +kernel
theorem dX2_part_104 : decode cX2_part 104 = .ok (.iaload, 1) := by decide +kernel
theorem dX2_part_105 : decode cX2_part 105 = .ok (.iconst 1, 1) := by decide +kernel
theorem dX2_part_106 : decode cX2_part 106 = .ok (.iload_n 2, 1) := by decide +kernel
theorem dX2_part_107 : decode cX2_part 107 = .ok (.ishl, 1) := by decide +kernel
theorem dX2_part_108 : decode cX2_part 108 = .ok (.ior, 1) := by decide +kernel
theorem dX2_part_109 : decode cX2_part 109 = .ok (.iastore, 1) := by decide +kernel
theorem dX2_part_110 : decode cX2_part 110 = .ok (.aload_n 0, 1) := by decide +kernel
theorem dX2_part_111 : decode cX2_part 111 = .ok (.getfield 11, 3) := by decide +kernel
theorem dX2_part_114 : decode cX2_part 114 = .ok (.aload_n 0, 1) := by decide +kernel
theorem dX2_part_115 : decode cX2_part 115 = .ok (.getfield 22, 3) := by decide +kernel
theorem dX2_part_118 : decode cX2_part 118 = .ok (.aload_n 0, 1) := by decide +kernel
theorem dX2_part_119 : decode cX2_part 119 = .ok (.getfield 22, 3) := by decide +kernel
theorem dX2_part_122 : decode cX2_part 122 = .ok (.imul, 1) := by decide +kernel
theorem dX2_part_123 : decode cX2_part 123 = .ok (.iload_n 2, 1) := by decide +kernel
theorem dX2_part_124 : decode cX2_part 124 = .ok (.iadd, 1) := by decide +kernel
theorem dX2_part_125 : decode cX2_part 125 = .ok (.dup2, 1) := by decide +kernel
theorem dX2_part_126 : decode cX2_part 126 = .ok (.iaload, 1) := by decide +kernel
theorem dX2_part_127 : decode cX2_part 127 = .ok (.iconst 1, 1) := by decide +kernel
theorem dX2_part_128 : decode cX2_part 128 = .ok (.iload_n 1, 1) := by decide +kernel
theorem dX2_part_129 : decode cX2_part 129 = .ok (.ishl, 1) := by decide +kernel
theorem dX2_part_130 : decode cX2_part 130 = .ok (.ior, 1) := by decide +kernel
theorem dX2_part_131 : decode cX2_part 131 = .ok (.iastore, 1) := by decide +kernel
theorem dX2_part_132 : decode cX2_part 132 = .ok (.aload_n 0, 1) := by decide +kernel
theorem dX2_part_133 : decode cX2_part 133 = .ok (.getfield 15, 3) := by decide +kernel
theorem dX2_part_136 : decode cX2_part 136 = .ok (.aload_n 0, 1) := by decide +kernel
theorem dX2_part_137 : decode cX2_part 137 = .ok (.getfield 22, 3) := by decide +kernel
theorem dX2_part_140 : decode cX2_part 140 = .ok (.aload_n 0, 1) := by decide +kernel
theorem dX2_part_141 : decode cX2_part 141 = .ok (.getfield 22, 3) := by decide +kernel
theorem dX2_part_144 : decode cX2_part 144 = .ok (.imul, 1) := by decide +kernel
theorem dX2_part_145 : decode cX2_part 145 = .ok (.iload 5, 2) := by decide +kernel
theorem dX2_part_147 : decode cX2_part 147 = .ok (.iadd, 1) := by decide +kernel
theorem dX2_part_148 : decode cX2_part 148 = .ok (.lload_n 3, 1) := by decide +kernel
theorem dX2_part_149 : decode cX2_part 149 = .ok (.lastore, 1) := by decide +kernel
theorem dX2_part_150 : decode cX2_part 150 = .ok (.aload_n 0, 1) := by decide +kernel
theorem dX2_part_151 : decode cX2_part 151 = .ok (.getfield 15, 3) := by decide +kernel
theorem dX2_part_154 : decode cX2_part 154 = .ok (.aload_n 0, 1) := by decide +kernel
theorem dX2_part_155 : decode cX2_part 155 = .ok (.getfield 22, 3) := by decide +kernel
theorem dX2_part_158 : decode cX2_part 158 = .ok (.aload_n 0, 1) := by decide +kernel
theorem dX2_part_159 : decode cX2_part 159 = .ok (.getfield 22, 3) := by decide +kernel
theorem dX2_part_162 : decode cX2_part 162 = .ok (.imul, 1) := by decide +kernel
theorem dX2_part_163 : decode cX2_part 163 = .ok (.iload 6, 2) := by decide +kernel
theorem dX2_part_165 : decode cX2_part 165 = .ok (.iadd, 1) := by decide +kernel
theorem dX2_part_166 : decode cX2_part 166 = .ok (.lload_n 3, 1) := by decide +kernel
theorem dX2_part_167 : decode cX2_part 167 = .ok (.lastore, 1) := by decide +kernel
theorem dX2_part_168 : decode cX2_part 168 = .ok (.iconst 1, 1) := by decide +kernel
theorem dX2_part_169 : decode cX2_part 169 = .ok (.ireturn, 1) := by decide +kernel
theorem dX2_areApart_0 : decode cX2_areApart 0 = .ok (.aload_n 0, 1) := by decide +kernel
theorem dX2_areApart_1 : decode cX2_areApart 1 = .ok (.getfield 11, 3) := by decide +kernel
theorem dX2_areApart_4 : decode cX2_areApart 4 = .ok (.aload_n 0, 1) := by decide +kernel
theorem dX2_areApart_5 : decode cX2_areApart 5 = .ok (.getfield 22, 3) := by decide +kernel
theorem dX2_areApart_8 : decode cX2_areApart 8 = .ok (.aload_n 0, 1) := by decide +kernel
theorem dX2_areApart_9 : decode cX2_areApart 9 = .ok (.getfield 22, 3) := by decide +kernel
theorem dX2_areApart_12 : decode cX2_areApart 12 = .ok (.imul, 1) := by decide +kernel
theorem dX2_areApart_13 : decode cX2_areApart 13 = .ok (.iload_n 1, 1) := by decide +kernel
theorem dX2_areApart_14 : decode cX2_areApart 14 = .ok (.iadd, 1) := by decide +kernel
theorem dX2_areApart_15 : decode cX2_areApart 15 = .ok (.iaload, 1) := by decide +kernel
theorem dX2_areApart_16 : decode cX2_areApart 16 = .ok (.iload_n 2, 1) := by decide +kernel
theorem dX2_areApart_17 : decode cX2_areApart 17 = .ok (.ishr, 1) := by decide +kernel
theorem dX2_areApart_18 : decode cX2_areApart 18 = .ok (.iconst 1, 1) := by decide +kernel
theorem dX2_areApart_19 : decode cX2_areApart 19 = .ok (.iand, 1) := by decide +kernel
theorem dX2_areApart_20 : decode cX2_areApart 20 = .ok (.ifCond .eq 7, 3) := by decide +kernel
theorem dX2_areApart_23 : decode cX2_areApart 23 = .ok (.iconst 1, 1) := by decide +kernel
theorem dX2_areApart_24 : decode cX2_areApart 24 = .ok (.goto 4, 3) := by decide +kernel
theorem dX2_areApart_27 : decode cX2_areApart 27 = .ok (.iconst 0, 1) := by decide +kernel
theorem dX2_areApart_28 : decode cX2_areApart 28 = .ok (.ireturn, 1) := by decide +kernel
theorem dX5_init_0 : decode cX5_init 0 = .ok (.aload_n 0, 1) := by decide +kernel
theorem dX5_init_1 : decode cX5_init 1 = .ok (.invokespecial 1, 3) := by decide +kernel
theorem dX5_init_4 : decode cX5_init 4 = .ok (.aload_n 0, 1) := by decide +kernel
theorem dX5_init_5 : decode cX5_init 5 = .ok (.new 7, 3) := by decide +kernel
theorem dX5_init_8 : decode cX5_init 8 = .ok (.dup, 1) := by decide +kernel
theorem dX5_init_9 : decode cX5_init 9 = .ok (.invokespecial 9, 3) := by decide +kernel
theorem dX5_init_12 : decode cX5_init 12 = .ok (.putfield 10, 3) := by decide +kernel
theorem dX5_init_15 : decode cX5_init 15 = .ok (.aload_n 0, 1) := by decide +kernel
theorem dX5_init_16 : decode cX5_init 16 = .ok (.bipush 14, 2) := by decide +kernel
theorem dX5_init_18 : decode cX5_init 18 = .ok (.newarray .int, 2) := by decide +kernel
theorem dX5_init_20 : decode cX5_init 20 = .ok (.putfield 18, 3) := by decide +kernel
theorem dX5_init_23 : decode cX5_init 23 = .ok (.aload_n 0, 1) := by decide +kernel
theorem dX5_init_24 : decode cX5_init 24 = .ok (.sipush 512, 3) := by decide +kernel
theorem dX5_init_27 : decode cX5_init 27 = .ok (.newarray .int, 2) := by decide +kernel
theorem dX5_init_29 : decode cX5_init 29 = .ok (.putfield 22, 3) := by decide +kernel
theorem dX5_init_32 : decode cX5_init 32 = .ok (.aload_n 0, 1) := by decide +kernel
theorem dX5_init_33 : decode cX5_init 33 = .ok (.sipush 1024, 3) := by decide +kernel
theorem dX5_init_36 : decode cX5_init 36 = .ok (.newarray .long, 2) := by decide +kernel
theorem dX5_init_38 : decode cX5_init 38 = .ok (.putfield 25, 3) := by decide +kernel
theorem dX5_init_41 : decode cX5_init 41 = .ok (.aload_n 0, 1) := by decide +kernel
theorem dX5_init_42 : decode cX5_init 42 = .ok (.bipush 16, 2) := by decide +kernel
theorem dX5_init_44 : decode cX5_init 44 = .ok (.newarray .int, 2) := by decide +kernel
theorem dX5_init_46 : decode cX5_init 46 = .ok (.putfield 29, 3) := by decide +kernel
theorem dX5_init_49 : decode cX5_init 49 = .ok (.aload_n 0, 1) := by decide +kernel
theorem dX5_init_50 : decode cX5_init 50 = .ok (.aload_n 1, 1) := by decide +kernel
theorem dX5_init_51 : decode cX5_init 51 = .ok (.putfield 32, 3) := by decide +kernel
theorem dX5_init_54 : decode cX5_init 54 = .ok (.aload_n 0, 1) := by decide +kernel
theorem dX5_init_55 : decode cX5_init 55 = .ok (.aload_n 2, 1) := by decide +kernel
theorem dX5_init_56 : decode cX5_init 56 = .ok (.putfield 36, 3) := by decide +kernel
theorem dX5_init_59 : decode cX5_init 59 = .ok (.return_, 1) := by decide +kernel
theorem dX5_find_0 : decode cX5_find 0 = .ok (.aload_n 0, 1) := by decide +kernel
theorem dX5_find_1 : decode cX5_find 1 = .ok (.iload_n 2, 1) := by decide +kernel
theorem dX5_find_2 : decode cX5_find 2 = .ok (.invokevirtual 40, 3) := by decide +kernel
theorem dX5_find_5 : decode cX5_find 5 = .ok (.ifCond .eq 16, 3) := by decide +kernel
theorem dX5_find_8 : decode cX5_find 8 = .ok (.aload_n 0, 1) := by decide +kernel
theorem dX5_find_9 : decode cX5_find 9 = .ok (.iload_n 1, 1) := by decide +kernel
theorem dX5_find_10 : decode cX5_find 10 = .ok (.iconst (-1), 1) := by decide +kernel
theorem dX5_find_11 : decode cX5_find 11 = .ok (.invokevirtual 44, 3) := by decide +kernel
theorem dX5_find_14 : decode cX5_find 14 = .ok (.ifCond .eq 7, 3) := by decide +kernel
theorem dX5_find_17 : decode cX5_find 17 = .ok (.iconst 1, 1) := by decide +kernel
theorem dX5_find_18 : decode cX5_find 18 = .ok (.goto 4, 3) := by decide +kernel
theorem dX5_find_21 : decode cX5_find 21 = .ok (.iconst 0, 1) := by decide +kernel
theorem dX5_find_22 : decode cX5_find 22 = .ok (.ireturn, 1) := by decide +kernel
theorem dX5_findLess_0 : decode cX5_findLess 0 = .ok (.aload_n 0, 1) := by decide +kernel
theorem dX5_findLess_1 : decode cX5_findLess 1 = .ok (.iload_n 2, 1) := by decide +kernel
theorem dX5_findLess_2 : decode cX5_findLess 2 = .ok (.invokevirtual 48, 3) := by decide +kernel
theorem dX5_findLess_5 : decode cX5_findLess 5 = .ok (.ifCond .eq 16, 3) := by decide +kernel
theorem dX5_findLess_8 : decode cX5_findLess 8 = .ok (.aload_n 0, 1) := by decide +kernel
theorem dX5_findLess_9 : decode cX5_findLess 9 = .ok (.iload_n 1, 1) := by decide +kernel
theorem dX5_findLess_10 : decode cX5_findLess 10 = .ok (.iload_n 2, 1) := by decide +kernel
theorem dX5_findLess_11 : decode cX5_findLess 11 = .ok (.invokevirtual 44, 3) := by decide +kernel
theorem dX5_findLess_14 : decode cX5_findLess 14 = .ok (.ifCond .eq 7, 3) := by decide +kernel
theorem dX5_findLess_17 : decode cX5_findLess 17 = .ok (.iconst 1, 1) := by decide +kernel
theorem dX5_findLess_18 : decode cX5_findLess 18 = .ok (.goto 4, 3) := by decide +kernel
theorem dX5_findLess_21 : decode cX5_findLess 21 = .ok (.iconst 0, 1) := by decide +kernel
theorem dX5_findLess_22 : decode cX5_findLess 22 = .ok (.ireturn, 1) := by decide +kernel
theorem dX5_begin_0 : decode cX5_begin 0 = .ok (.aload_n 0, 1) := by decide +kernel
theorem dX5_begin_1 : decode cX5_begin 1 = .ok (.getfield 10, 3) := by decide +kernel
theorem dX5_begin_4 : decode cX5_begin 4 = .ok (.aload_n 0, 1) := by decide +kernel
theorem dX5_begin_5 : decode cX5_begin 5 = .ok (.getfield 32, 3) := by decide +kernel
theorem dX5_begin_8 : decode cX5_begin 8 = .ok (.getfield 51, 3) := by decide +kernel
theorem dX5_begin_11 : decode cX5_begin 11 = .ok (.invokevirtual 55, 3) := by decide +kernel
theorem dX5_begin_14 : decode cX5_begin 14 = .ok (.iload_n 1, 1) := by decide +kernel
theorem dX5_begin_15 : decode cX5_begin 15 = .ok (.iconst (-1), 1) := by decide +kernel
theorem dX5_begin_16 : decode cX5_begin 16 = .ok (.if_icmp .eq 15, 3) := by decide +kernel
theorem dX5_begin_19 : decode cX5_begin 19 = .ok (.aload_n 0, 1) := by decide +kernel
theorem dX5_begin_20 : decode cX5_begin 20 = .ok (.getfield 10, 3) := by decide +kernel
theorem dX5_begin_23 : decode cX5_begin 23 = .ok (.iload_n 1, 1) := by decide +kernel
theorem dX5_begin_24 : decode cX5_begin 24 = .ok (.lconst 0, 1) := by decide +kernel
theorem dX5_begin_25 : decode cX5_begin 25 = .ok (.invokevirtual 61, 3) := by decide +kernel
theorem dX5_begin_28 : decode cX5_begin 28 = .ok (.ifCond .eq 7, 3) := by decide +kernel
theorem dX5_begin_31 : decode cX5_begin 31 = .ok (.iconst 1, 1) := by decide +kernel
theorem dX5_begin_32 : decode cX5_begin 32 = .ok (.goto 4, 3) := by decide +kernel
theorem dX5_begin_35 : decode cX5_begin 35 = .ok (.iconst 0, 1) := by decide +kernel
theorem dX5_begin_36 : decode cX5_begin 36 = .ok (.ireturn, 1) := by decide +kernel
theorem dX5_beginBelow_0 : decode cX5_beginBelow 0 = .ok (.aload_n 0, 1) := by decide +kernel
theorem dX5_beginBelow_1 : decode cX5_beginBelow 1 = .ok (.getfield 10, 3) := by decide +kernel
theorem dX5_beginBelow_4 : decode cX5_beginBelow 4 = .ok (.aload_n 0, 1) := by decide +kernel
theorem dX5_beginBelow_5 : decode cX5_beginBelow 5 = .ok (.getfield 32, 3) := by decide +kernel
theorem dX5_beginBelow_8 : decode cX5_beginBelow 8 = .ok (.getfield 51, 3) := by decide +kernel
theorem dX5_beginBelow_11 : decode cX5_beginBelow 11 = .ok (.invokevirtual 55, 3) := by decide +kernel
theorem dX5_beginBelow_14 : decode cX5_beginBelow 14 = .ok (.aload_n 0, 1) := by decide +kernel
theorem dX5_beginBelow_15 : decode cX5_beginBelow 15 = .ok (.getfield 10, 3) := by decide +kernel
theorem dX5_beginBelow_18 : decode cX5_beginBelow 18 = .ok (.getfield 65, 3) := by decide +kernel
theorem dX5_beginBelow_21 : decode cX5_beginBelow 21 = .ok (.istore_n 2, 1) := by decide +kernel
theorem dX5_beginBelow_22 : decode cX5_beginBelow 22 = .ok (.iconst 0, 1) := by decide +kernel
theorem dX5_beginBelow_23 : decode cX5_beginBelow 23 = .ok (.istore_n 3, 1) := by decide +kernel
theorem dX5_beginBelow_24 : decode cX5_beginBelow 24 = .ok (.iload_n 3, 1) := by decide +kernel
theorem dX5_beginBelow_25 : decode cX5_beginBelow 25 = .ok (.iload_n 1, 1) := by decide +kernel
theorem dX5_beginBelow_26 : decode cX5_beginBelow 26 = .ok (.if_icmp .ge 52, 3) := by decide +kernel
theorem dX5_beginBelow_29 : decode cX5_beginBelow 29 = .ok (.aload_n 0, 1) := by decide +kernel
theorem dX5_beginBelow_30 : decode cX5_beginBelow 30 = .ok (.getfield 10, 3) := by decide +kernel
theorem dX5_beginBelow_33 : decode cX5_beginBelow 33 = .ok (.iload_n 3, 1) := by decide +kernel
theorem dX5_beginBelow_34 : decode cX5_beginBelow 34 = .ok (.iload_n 2, 1) := by decide +kernel
theorem dX5_beginBelow_35 : decode cX5_beginBelow 35 = .ok (.aload_n 0, 1) := by decide +kernel
theorem dX5_beginBelow_36 : decode cX5_beginBelow 36 = .ok (.getfield 18, 3) := by decide +kernel
theorem dX5_beginBelow_39 : decode cX5_beginBelow 39 = .ok (.iload_n 3, 1) := by decide +kernel
theorem dX5_beginBelow_40 : decode cX5_beginBelow 40 = .ok (.iaload, 1) := by decide +kernel
theorem dX5_beginBelow_41 : decode cX5_beginBelow 41 = .ok (.lconst 0, 1) := by decide +kernel
theorem dX5_beginBelow_42 : decode cX5_beginBelow 42 = .ok (.invokevirtual 68, 3) := by decide +kernel
theorem dX5_beginBelow_45 : decode cX5_beginBelow 45 = .ok (.ifCond .ne 5, 3) := by decide +kernel
theorem dX5_beginBelow_48 : decode cX5_beginBelow 48 = .ok (.iconst 0, 1) := by decide +kernel
theorem dX5_beginBelow_49 : decode cX5_beginBelow 49 = .ok (.ireturn, 1) := by decide +kernel
theorem dX5_beginBelow_50 : decode cX5_beginBelow 50 = .ok (.aload_n 0, 1) := by decide +kernel
theorem dX5_beginBelow_51 : decode cX5_beginBelow 51 = .ok (.getfield 10, 3) := by decide +kernel
theorem dX5_beginBelow_54 : decode cX5_beginBelow 54 = .ok (.iload_n 2, 1) := by decide +kernel
theorem dX5_beginBelow_55 : decode cX5_beginBelow 55 = .ok (.iload_n 3, 1) := by decide +kernel
theorem dX5_beginBelow_56 : decode cX5_beginBelow 56 = .ok (.aload_n 0, 1) := by decide +kernel
theorem dX5_beginBelow_57 : decode cX5_beginBelow 57 = .ok (.getfield 18, 3) := by decide +kernel
theorem dX5_beginBelow_60 : decode cX5_beginBelow 60 = .ok (.iload_n 3, 1) := by decide +kernel
theorem dX5_beginBelow_61 : decode cX5_beginBelow 61 = .ok (.iaload, 1) := by decide +kernel
theorem dX5_beginBelow_62 : decode cX5_beginBelow 62 = .ok (.ineg, 1) := by decide +kernel
theorem dX5_beginBelow_63 : decode cX5_beginBelow 63 = .ok (.lconst 0, 1) := by decide +kernel
theorem dX5_beginBelow_64 : decode cX5_beginBelow 64 = .ok (.invokevirtual 68, 3) := by decide +kernel
theorem dX5_beginBelow_67 : decode cX5_beginBelow 67 = .ok (.ifCond .ne 5, 3) := by decide +kernel
theorem dX5_beginBelow_70 : decode cX5_beginBelow 70 = .ok (.iconst 0, 1) := by decide +kernel
theorem dX5_beginBelow_71 : decode cX5_beginBelow 71 = .ok (.ireturn, 1) := by decide +kernel
theorem dX5_beginBelow_72 : decode cX5_beginBelow 72 = .ok (.iinc 3 1, 3) := by decide +kernel
theorem dX5_beginBelow_75 : decode cX5_beginBelow 75 = .ok (.goto (-51), 3) := by decide +kernel
theorem dX5_beginBelow_78 : decode cX5_beginBelow 78 = .ok (.aload_n 0, 1) := by decide +kernel
theorem dX5_beginBelow_79 : decode cX5_beginBelow 79 = .ok (.getfield 10, 3) := by decide +kernel
theorem dX5_beginBelow_82 : decode cX5_beginBelow 82 = .ok (.iload_n 1, 1) := by decide +kernel
theorem dX5_beginBelow_83 : decode cX5_beginBelow 83 = .ok (.iload_n 2, 1) := by decide +kernel
theorem dX5_beginBelow_84 : decode cX5_beginBelow 84 = .ok (.aload_n 0, 1) := by decide +kernel
theorem dX5_beginBelow_85 : decode cX5_beginBelow 85 = .ok (.getfield 18, 3) := by decide +kernel
theorem dX5_beginBelow_88 : decode cX5_beginBelow 88 = .ok (.iload_n 1, 1) := by decide +kernel
theorem dX5_beginBelow_89 : decode cX5_beginBelow 89 = .ok (.iaload, 1) := by decide +kernel
theorem dX5_beginBelow_90 : decode cX5_beginBelow 90 = .ok (.iconst 1, 1) := by decide +kernel
theorem dX5_beginBelow_91 : decode cX5_beginBelow 91 = .ok (.isub, 1) := by decide +kernel
theorem dX5_beginBelow_92 : decode cX5_beginBelow 92 = .ok (.lconst 0, 1) := by decide +kernel
theorem dX5_beginBelow_93 : decode cX5_beginBelow 93 = .ok (.invokevirtual 68, 3) := by decide +kernel
theorem dX5_beginBelow_96 : decode cX5_beginBelow 96 = .ok (.ireturn, 1) := by decide +kernel
theorem dX5_run_0 : decode cX5_run 0 = .ok (.aload_n 0, 1) := by decide +kernel
theorem dX5_run_1 : decode cX5_run 1 = .ok (.iconst 0, 1) := by decide +kernel
theorem dX5_run_2 : decode cX5_run 2 = .ok (.putfield 72, 3) := by decide +kernel
theorem dX5_run_5 : decode cX5_run 5 = .ok (.iconst 0, 1) := by decide +kernel
theorem dX5_run_6 : decode cX5_run 6 = .ok (.istore_n 3, 1) := by decide +kernel
theorem dX5_run_7 : decode cX5_run 7 = .ok (.iload_n 3, 1) := by decide +kernel
theorem dX5_run_8 : decode cX5_run 8 = .ok (.ldc 75, 2) := by decide +kernel
theorem dX5_run_10 : decode cX5_run 10 = .ok (.if_icmp .ge 85, 3) := by decide +kernel
theorem dX5_run_13 : decode cX5_run 13 = .ok (.aload_n 0, 1) := by decide +kernel
theorem dX5_run_14 : decode cX5_run 14 = .ok (.getfield 10, 3) := by decide +kernel
theorem dX5_run_17 : decode cX5_run 17 = .ok (.iload_n 2, 1) := by decide +kernel
theorem dX5_run_18 : decode cX5_run 18 = .ok (.invokevirtual 76, 3) := by decide +kernel
theorem dX5_run_21 : decode cX5_run 21 = .ok (.aload_n 0, 1) := by decide +kernel
theorem dX5_run_22 : decode cX5_run 22 = .ok (.iload_n 1, 1) := by decide +kernel
theorem dX5_run_23 : decode cX5_run 23 = .ok (.invokevirtual 79, 3) := by decide +kernel
theorem dX5_run_26 : decode cX5_run 26 = .ok (.istore 4, 2) := by decide +kernel
theorem dX5_run_28 : decode cX5_run 28 = .ok (.iload 4, 2) := by decide +kernel
theorem dX5_run_30 : decode cX5_run 30 = .ok (.iconst 3, 1) := by decide +kernel
theorem dX5_run_31 : decode cX5_run 31 = .ok (.if_icmp .ne 28, 3) := by decide +kernel
theorem dX5_run_34 : decode cX5_run 34 = .ok (.aload_n 0, 1) := by decide +kernel
theorem dX5_run_35 : decode cX5_run 35 = .ok (.getfield 10, 3) := by decide +kernel
theorem dX5_run_38 : decode cX5_run 38 = .ok (.getfield 83, 3) := by decide +kernel
theorem dX5_run_41 : decode cX5_run 41 = .ok (.iconst 0, 1) := by decide +kernel
theorem dX5_run_42 : decode cX5_run 42 = .ok (.aload_n 0, 1) := by decide +kernel
theorem dX5_run_43 : decode cX5_run 43 = .ok (.getfield 18, 3) := by decide +kernel
theorem dX5_run_46 : decode cX5_run 46 = .ok (.iconst 0, 1) := by decide +kernel
theorem dX5_run_47 : decode cX5_run 47 = .ok (.aload_n 0, 1) := by decide +kernel
theorem dX5_run_48 : decode cX5_run 48 = .ok (.getfield 32, 3) := by decide +kernel
theorem dX5_run_51 : decode cX5_run 51 = .ok (.getfield 51, 3) := by decide +kernel
theorem dX5_run_54 : decode cX5_run 54 = .ok (.invokestatic 84, 3) := by decide +kernel
theorem dX5_run_57 : decode cX5_run 57 = .ok (.iconst 1, 1) := by decide +kernel
theorem dX5_run_58 : decode cX5_run 58 = .ok (.ireturn, 1) := by decide +kernel
theorem dX5_run_59 : decode cX5_run 59 = .ok (.iload 4, 2) := by decide +kernel
theorem dX5_run_61 : decode cX5_run 61 = .ok (.iconst 2, 1) := by decide +kernel
theorem dX5_run_62 : decode cX5_run 62 = .ok (.if_icmp .ne 13, 3) := by decide +kernel
theorem dX5_run_65 : decode cX5_run 65 = .ok (.aload_n 0, 1) := by decide +kernel
theorem dX5_run_66 : decode cX5_run 66 = .ok (.invokevirtual 90, 3) := by decide +kernel
theorem dX5_run_69 : decode cX5_run 69 = .ok (.ifCond .ne 6, 3) := by decide +kernel
theorem dX5_run_72 : decode cX5_run 72 = .ok (.iconst 0, 1) := by decide +kernel
theorem dX5_run_73 : decode cX5_run 73 = .ok (.istore 4, 2) := by decide +kernel
theorem dX5_run_75 : decode cX5_run 75 = .ok (.iload 4, 2) := by decide +kernel
theorem dX5_run_77 : decode cX5_run 77 = .ok (.ifCond .ne 12, 3) := by decide +kernel
theorem dX5_run_80 : decode cX5_run 80 = .ok (.aload_n 0, 1) := by decide +kernel
theorem dX5_run_81 : decode cX5_run 81 = .ok (.invokevirtual 94, 3) := by decide +kernel
theorem dX5_run_84 : decode cX5_run 84 = .ok (.ifCond .ne 5, 3) := by decide +kernel
theorem dX5_run_87 : decode cX5_run 87 = .ok (.iconst 0, 1) := by decide +kernel
theorem dX5_run_88 : decode cX5_run 88 = .ok (.ireturn, 1) := by decide +kernel
theorem dX5_run_89 : decode cX5_run 89 = .ok (.iinc 3 1, 3) := by decide +kernel
theorem dX5_run_92 : decode cX5_run 92 = .ok (.goto (-85), 3) := by decide +kernel
theorem dX5_run_95 : decode cX5_run 95 = .ok (.iconst 0, 1) := by decide +kernel
theorem dX5_run_96 : decode cX5_run 96 = .ok (.ireturn, 1) := by decide +kernel
theorem dX5_look_0 : decode cX5_look 0 = .ok (.aload_n 0, 1) := by decide +kernel
theorem dX5_look_1 : decode cX5_look 1 = .ok (.iconst 0, 1) := by decide +kernel
theorem dX5_look_2 : decode cX5_look 2 = .ok (.putfield 97, 3) := by decide +kernel
theorem dX5_look_5 : decode cX5_look 5 = .ok (.aload_n 0, 1) := by decide +kernel
theorem dX5_look_6 : decode cX5_look 6 = .ok (.sipush 1000, 3) := by decide +kernel
theorem dX5_look_9 : decode cX5_look 9 = .ok (.putfield 101, 3) := by decide +kernel
theorem dX5_look_12 : decode cX5_look 12 = .ok (.aload_n 0, 1) := by decide +kernel
theorem dX5_look_13 : decode cX5_look 13 = .ok (.invokevirtual 104, 3) := by decide +kernel
theorem dX5_look_16 : decode cX5_look 16 = .ok (.ifCond .ne 5, 3) := by decide +kernel
theorem dX5_look_19 : decode cX5_look 19 = .ok (.iconst 0, 1) := by decide +kernel
theorem dX5_look_20 : decode cX5_look 20 = .ok (.ireturn, 1) := by decide +kernel
theorem dX5_look_21 : decode cX5_look 21 = .ok (.iconst 0, 1) := by decide +kernel
theorem dX5_look_22 : decode cX5_look 22 = .ok (.istore_n 2, 1) := by decide +kernel
theorem dX5_look_23 : decode cX5_look 23 = .ok (.iload_n 2, 1) := by decide +kernel
theorem dX5_look_24 : decode cX5_look 24 = .ok (.aload_n 0, 1) := by decide +kernel
theorem dX5_look_25 : decode cX5_look 25 = .ok (.getfield 36, 3) := by decide +kernel
theorem dX5_look_28 : decode cX5_look 28 = .ok (.getfield 107, 3) := by decide +kernel
theorem dX5_look_31 : decode cX5_look 31 = .ok (.if_icmp .ge 48, 3) := by decide +kernel
theorem dX5_look_34 : decode cX5_look 34 = .ok (.iload_n 2, 1) := by decide +kernel
theorem dX5_look_35 : decode cX5_look 35 = .ok (.aload_n 0, 1) := by decide +kernel
theorem dX5_look_36 : decode cX5_look 36 = .ok (.getfield 36, 3) := by decide +kernel
theorem dX5_look_39 : decode cX5_look 39 = .ok (.getfield 110, 3) := by decide +kernel
theorem dX5_look_42 : decode cX5_look 42 = .ok (.if_icmp .ge 15, 3) := by decide +kernel
theorem dX5_look_45 : decode cX5_look 45 = .ok (.iload_n 1, 1) := by decide +kernel
theorem dX5_look_46 : decode cX5_look 46 = .ok (.iload_n 2, 1) := by decide +kernel
theorem dX5_look_47 : decode cX5_look 47 = .ok (.ishr, 1) := by decide +kernel
theorem dX5_look_48 : decode cX5_look 48 = .ok (.iconst 1, 1) := by decide +kernel
theorem dX5_look_49 : decode cX5_look 49 = .ok (.iand, 1) := by decide +kernel
theorem dX5_look_50 : decode cX5_look 50 = .ok (.ifCond .ne 7, 3) := by decide +kernel
theorem dX5_look_53 : decode cX5_look 53 = .ok (.iconst 1, 1) := by decide +kernel
theorem dX5_look_54 : decode cX5_look 54 = .ok (.goto 4, 3) := by decide +kernel
theorem dX5_look_57 : decode cX5_look 57 = .ok (.iconst 0, 1) := by decide +kernel
theorem dX5_look_58 : decode cX5_look 58 = .ok (.istore_n 3, 1) := by decide +kernel
theorem dX5_look_59 : decode cX5_look 59 = .ok (.iload_n 3, 1) := by decide +kernel
theorem dX5_look_60 : decode cX5_look 60 = .ok (.ifCond .ne 13, 3) := by decide +kernel
theorem dX5_look_63 : decode cX5_look 63 = .ok (.aload_n 0, 1) := by decide +kernel
theorem dX5_look_64 : decode cX5_look 64 = .ok (.iload_n 2, 1) := by decide +kernel
theorem dX5_look_65 : decode cX5_look 65 = .ok (.invokevirtual 113, 3) := by decide +kernel
theorem dX5_look_68 : decode cX5_look 68 = .ok (.ifCond .ne 5, 3) := by decide +kernel
theorem dX5_look_71 : decode cX5_look 71 = .ok (.iconst 0, 1) := by decide +kernel
theorem dX5_look_72 : decode cX5_look 72 = .ok (.ireturn, 1) := by decide +kernel
theorem dX5_look_73 : decode cX5_look 73 = .ok (.iinc 2 1, 3) := by decide +kernel
theorem dX5_look_76 : decode cX5_look 76 = .ok (.goto (-53), 3) := by decide +kernel
theorem dX5_look_79 : decode cX5_look 79 = .ok (.aload_n 0, 1) := by decide +kernel
theorem dX5_look_80 : decode cX5_look 80 = .ok (.getfield 97, 3) := by decide +kernel
theorem dX5_look_83 : decode cX5_look 83 = .ok (.ifCond .eq 5, 3) := by decide +kernel
theorem dX5_look_86 : decode cX5_look 86 = .ok (.iconst 1, 1) := by decide +kernel
theorem dX5_look_87 : decode cX5_look 87 = .ok (.ireturn, 1) := by decide +kernel
theorem dX5_look_88 : decode cX5_look 88 = .ok (.aload_n 0, 1) := by decide +kernel
theorem dX5_look_89 : decode cX5_look 89 = .ok (.getfield 101, 3) := by decide +kernel
theorem dX5_look_92 : decode cX5_look 92 = .ok (.sipush 1000, 3) := by decide +kernel
theorem dX5_look_95 : decode cX5_look 95 = .ok (.if_icmp .ge 7, 3) := by decide +kernel
theorem dX5_look_98 : decode cX5_look 98 = .ok (.iconst 2, 1) := by decide +kernel
theorem dX5_look_99 : decode cX5_look 99 = .ok (.goto 4, 3) := by decide +kernel
theorem dX5_look_102 : decode cX5_look 102 = .ok (.iconst 3, 1) := by decide +kernel
theorem dX5_look_103 : decode cX5_look 103 = .ok (.ireturn, 1) := by decide +kernel
theorem dX5_partSame_0 : decode cX5_partSame 0 = .ok (.iconst 0, 1) := by decide +kernel
theorem dX5_partSame_1 : decode cX5_partSame 1 = .ok (.istore_n 1, 1) := by decide +kernel
theorem dX5_partSame_2 : decode cX5_partSame 2 = .ok (.iload_n 1, 1) := by decide +kernel
theorem dX5_partSame_3 : decode cX5_partSame 3 = .ok (.aload_n 0, 1) := by decide +kernel
theorem dX5_partSame_4 : decode cX5_partSame 4 = .ok (.getfield 32, 3) := by decide +kernel
theorem dX5_partSame_7 : decode cX5_partSame 7 = .ok (.getfield 51, 3) := by decide +kernel
theorem dX5_partSame_10 : decode cX5_partSame 10 = .ok (.if_icmp .ge 117, 3) := by decide +kernel
theorem dX5_partSame_13 : decode cX5_partSame 13 = .ok (.aload_n 0, 1) := by decide +kernel
theorem dX5_partSame_14 : decode cX5_partSame 14 = .ok (.getfield 10, 3) := by decide +kernel
theorem dX5_partSame_17 : decode cX5_partSame 17 = .ok (.iload_n 1, 1) := by decide +kernel
theorem dX5_partSame_18 : decode cX5_partSame 18 = .ok (.invokevirtual 116, 3) := by decide +kernel
theorem dX5_partSame_21 : decode cX5_partSame 21 = .ok (.istore_n 2, 1) := by decide +kernel
theorem dX5_partSame_22 : decode cX5_partSame 22 = .ok (.iconst 0, 1) := by decide +kernel
theorem dX5_partSame_23 : decode cX5_partSame 23 = .ok (.istore_n 3, 1) := by decide +kernel
theorem dX5_partSame_24 : decode cX5_partSame 24 = .ok (.iload_n 3, 1) := by decide +kernel
theorem dX5_partSame_25 : decode cX5_partSame 25 = .ok (.iload_n 1, 1) := by decide +kernel
theorem dX5_partSame_26 : decode cX5_partSame 26 = .ok (.if_icmp .ge 95, 3) := by decide +kernel
theorem dX5_partSame_29 : decode cX5_partSame 29 = .ok (.iload_n 2, 1) := by decide +kernel
theorem dX5_partSame_30 : decode cX5_partSame 30 = .ok (.iload_n 3, 1) := by decide +kernel
theorem dX5_partSame_31 : decode cX5_partSame 31 = .ok (.ishr, 1) := by decide +kernel
theorem dX5_partSame_32 : decode cX5_partSame 32 = .ok (.iconst 1, 1) := by decide +kernel
theorem dX5_partSame_33 : decode cX5_partSame 33 = .ok (.iand, 1) := by decide +kernel
theorem dX5_partSame_34 : decode cX5_partSame 34 = .ok (.ifCond .eq 81, 3) := by decide +kernel
theorem dX5_partSame_37 : decode cX5_partSame 37 = .ok (.aload_n 0, 1) := by decide +kernel
theorem dX5_partSame_38 : decode cX5_partSame 38 = .ok (.getfield 10, 3) := by decide +kernel
theorem dX5_partSame_41 : decode cX5_partSame 41 = .ok (.getfield 83, 3) := by decide +kernel
theorem dX5_partSame_44 : decode cX5_partSame 44 = .ok (.iload_n 1, 1) := by decide +kernel
theorem dX5_partSame_45 : decode cX5_partSame 45 = .ok (.iaload, 1) := by decide +kernel
theorem dX5_partSame_46 : decode cX5_partSame 46 = .ok (.aload_n 0, 1) := by decide +kernel
theorem dX5_partSame_47 : decode cX5_partSame 47 = .ok (.getfield 10, 3) := by decide +kernel
theorem dX5_partSame_50 : decode cX5_partSame 50 = .ok (.getfield 83, 3) := by decide +kernel
theorem dX5_partSame_53 : decode cX5_partSame 53 = .ok (.iload_n 3, 1) := by decide +kernel
theorem dX5_partSame_54 : decode cX5_partSame 54 = .ok (.iaload, 1) := by decide +kernel
theorem dX5_partSame_55 : decode cX5_partSame 55 = .ok (.if_icmp .eq 6, 3) := by decide +kernel
theorem dX5_partSame_58 : decode cX5_partSame 58 = .ok (.goto 57, 3) := by decide +kernel
theorem dX5_partSame_61 : decode cX5_partSame 61 = .ok (.aload_n 0, 1) := by decide +kernel
theorem dX5_partSame_62 : decode cX5_partSame 62 = .ok (.iload_n 1, 1) := by decide +kernel
theorem dX5_partSame_63 : decode cX5_partSame 63 = .ok (.iload_n 3, 1) := by decide +kernel
theorem dX5_partSame_64 : decode cX5_partSame 64 = .ok (.invokevirtual 119, 3) := by decide +kernel
theorem dX5_partSame_67 : decode cX5_partSame 67 = .ok (.ifCond .eq 12, 3) := by decide +kernel
theorem dX5_partSame_70 : decode cX5_partSame 70 = .ok (.aload_n 0, 1) := by decide +kernel
theorem dX5_partSame_71 : decode cX5_partSame 71 = .ok (.iload_n 3, 1) := by decide +kernel
theorem dX5_partSame_72 : decode cX5_partSame 72 = .ok (.iload_n 1, 1) := by decide +kernel
theorem dX5_partSame_73 : decode cX5_partSame 73 = .ok (.invokevirtual 119, 3) := by decide +kernel
theorem dX5_partSame_76 : decode cX5_partSame 76 = .ok (.ifCond .ne 5, 3) := by decide +kernel
theorem dX5_partSame_79 : decode cX5_partSame 79 = .ok (.iconst 0, 1) := by decide +kernel
theorem dX5_partSame_80 : decode cX5_partSame 80 = .ok (.ireturn, 1) := by decide +kernel
theorem dX5_partSame_81 : decode cX5_partSame 81 = .ok (.aload_n 0, 1) := by decide +kernel
theorem dX5_partSame_82 : decode cX5_partSame 82 = .ok (.getfield 101, 3) := by decide +kernel
theorem dX5_partSame_85 : decode cX5_partSame 85 = .ok (.sipush 1000, 3) := by decide +kernel
theorem dX5_partSame_88 : decode cX5_partSame 88 = .ok (.if_icmp .lt 27, 3) := by decide +kernel
theorem dX5_partSame_91 : decode cX5_partSame 91 = .ok (.aload_n 0, 1) := by decide +kernel
theorem dX5_partSame_92 : decode cX5_partSame 92 = .ok (.getfield 97, 3) := by decide +kernel
theorem dX5_partSame_95 : decode cX5_partSame 95 = .ok (.ifCond .ne 20, 3) := by decide +kernel
theorem dX5_partSame_98 : decode cX5_partSame 98 = .ok (.aload_n 0, 1) := by decide +kernel
theorem dX5_partSame_99 : decode cX5_partSame 99 = .ok (.sipush 999, 3) := by decide +kernel
theorem dX5_partSame_102 : decode cX5_partSame 102 = .ok (.putfield 101, 3) := by decide +kernel
theorem dX5_partSame_105 : decode cX5_partSame 105 = .ok (.aload_n 0, 1) := by decide +kernel
theorem dX5_partSame_106 : decode cX5_partSame 106 = .ok (.iload_n 1, 1) := by decide +kernel
theorem dX5_partSame_107 : decode cX5_partSame 107 = .ok (.iload_n 3, 1) := by decide +kernel
theorem dX5_partSame_108 : decode cX5_partSame 108 = .ok (.iconst (-1), 1) := by decide +kernel
theorem dX5_partSame_109 : decode cX5_partSame 109 = .ok (.invokestatic 122, 3) := by decide +kernel
theorem dX5_partSame_112 : decode cX5_partSame 112 = .ok (.putfield 126, 3) := by decide +kernel
theorem dX5_partSame_115 : decode cX5_partSame 115 = .ok (.iinc 3 1, 3) := by decide +kernel
theorem dX5_partSame_118 : decode cX5_partSame 118 = .ok (.goto (-94), 3) := by decide +kernel
theorem dX5_partSame_121 : decode cX5_partSame 121 = .ok (.iinc 1 1, 3) := by decide +kernel
theorem dX5_partSame_124 : decode cX5_partSame 124 = .ok (.goto (-122), 3) := by decide +kernel
theorem dX5_partSame_127 : decode cX5_partSame 127 = .ok (.iconst 1, 1) := by decide +kernel
theorem dX5_partSame_128 : decode cX5_partSame 128 = .ok (.ireturn, 1) := by decide +kernel
theorem dX5_order_0 : decode cX5_order 0 = .ok (.aload_n 0, 1) := by decide +kernel
theorem dX5_order_1 : decode cX5_order 1 = .ok (.getfield 10, 3) := by decide +kernel
theorem dX5_order_4 : decode cX5_order 4 = .ok (.iload_n 1, 1) := by decide +kernel
theorem dX5_order_5 : decode cX5_order 5 = .ok (.iload_n 2, 1) := by decide +kernel
theorem dX5_order_6 : decode cX5_order 6 = .ok (.invokevirtual 129, 3) := by decide +kernel
theorem dX5_order_9 : decode cX5_order 9 = .ok (.ifCond .eq 5, 3) := by decide +kernel
theorem dX5_order_12 : decode cX5_order 12 = .ok (.iconst 1, 1) := by decide +kernel
theorem dX5_order_13 : decode cX5_order 13 = .ok (.ireturn, 1) := by decide +kernel
theorem dX5_order_14 : decode cX5_order 14 = .ok (.aload_n 0, 1) := by decide +kernel
theorem dX5_order_15 : decode cX5_order 15 = .ok (.iconst 1, 1) := by decide +kernel
theorem dX5_order_16 : decode cX5_order 16 = .ok (.putfield 97, 3) := by decide +kernel
theorem dX5_order_19 : decode cX5_order 19 = .ok (.aload_n 0, 1) := by decide +kernel
theorem dX5_order_20 : decode cX5_order 20 = .ok (.getfield 10, 3) := by decide +kernel
theorem dX5_order_23 : decode cX5_order 23 = .ok (.iload_n 1, 1) := by decide +kernel
theorem dX5_order_24 : decode cX5_order 24 = .ok (.iload_n 2, 1) := by decide +kernel
theorem dX5_order_25 : decode cX5_order 25 = .ok (.invokevirtual 133, 3) := by decide +kernel
theorem dX5_order_28 : decode cX5_order 28 = .ok (.aload_n 0, 1) := by decide +kernel
theorem dX5_order_29 : decode cX5_order 29 = .ok (.getfield 10, 3) := by decide +kernel
theorem dX5_order_32 : decode cX5_order 32 = .ok (.iload_n 1, 1) := by decide +kernel
theorem dX5_order_33 : decode cX5_order 33 = .ok (.iload_n 2, 1) := by decide +kernel
theorem dX5_order_34 : decode cX5_order 34 = .ok (.invokevirtual 137, 3) := by decide +kernel
theorem dX5_order_37 : decode cX5_order 37 = .ok (.lor, 1) := by decide +kernel
theorem dX5_order_38 : decode cX5_order 38 = .ok (.lstore_n 3, 1) := by decide +kernel
theorem dX5_order_39 : decode cX5_order 39 = .ok (.aload_n 0, 1) := by decide +kernel
theorem dX5_order_40 : decode cX5_order 40 = .ok (.getfield 10, 3) := by decide +kernel
theorem dX5_order_43 : decode cX5_order 43 = .ok (.iload_n 1, 1) := by decide +kernel
theorem dX5_order_44 : decode cX5_order 44 = .ok (.iload_n 2, 1) := by decide +kernel
theorem dX5_order_45 : decode cX5_order 45 = .ok (.iconst (-1), 1) := by decide +kernel
theorem dX5_order_46 : decode cX5_order 46 = .ok (.lload_n 3, 1) := by decide +kernel
theorem dX5_order_47 : decode cX5_order 47 = .ok (.invokevirtual 68, 3) := by decide +kernel
theorem dX5_order_50 : decode cX5_order 50 = .ok (.ireturn, 1) := by decide +kernel
theorem dX5_examine_0 : decode cX5_examine 0 = .ok (.iload_n 1, 1) := by decide +kernel
theorem dX5_examine_1 : decode cX5_examine 1 = .ok (.ifCond .ne 7, 3) := by decide +kernel
theorem dX5_examine_4 : decode cX5_examine 4 = .ok (.iconst 0, 1) := by decide +kernel
theorem dX5_examine_5 : decode cX5_examine 5 = .ok (.goto 14, 3) := by decide +kernel
theorem dX5_examine_8 : decode cX5_examine 8 = .ok (.aload_n 0, 1) := by decide +kernel
theorem dX5_examine_9 : decode cX5_examine 9 = .ok (.getfield 36, 3) := by decide +kernel
theorem dX5_examine_12 : decode cX5_examine 12 = .ok (.getfield 140, 3) := by decide +kernel
theorem dX5_examine_15 : decode cX5_examine 15 = .ok (.iload_n 1, 1) := by decide +kernel
theorem dX5_examine_16 : decode cX5_examine 16 = .ok (.iconst 1, 1) := by decide +kernel
theorem dX5_examine_17 : decode cX5_examine 17 = .ok (.isub, 1) := by decide +kernel
theorem dX5_examine_18 : decode cX5_examine 18 = .ok (.iaload, 1) := by decide +kernel
theorem dX5_examine_19 : decode cX5_examine 19 = .ok (.istore_n 2, 1) := by decide +kernel
theorem dX5_examine_20 : decode cX5_examine 20 = .ok (.iconst 0, 1) := by decide +kernel
theorem dX5_examine_21 : decode cX5_examine 21 = .ok (.istore_n 3, 1) := by decide +kernel
theorem dX5_examine_22 : decode cX5_examine 22 = .ok (.iconst (-1), 1) := by decide +kernel
theorem dX5_examine_23 : decode cX5_examine 23 = .ok (.istore 4, 2) := by decide +kernel
theorem dX5_examine_25 : decode cX5_examine 25 = .ok (.lconst 0, 1) := by decide +kernel
theorem dX5_examine_26 : decode cX5_examine 26 = .ok (.lstore 5, 2) := by decide +kernel
theorem dX5_examine_28 : decode cX5_examine 28 = .ok (.iload_n 2, 1) := by decide +kernel
theorem dX5_examine_29 : decode cX5_examine 29 = .ok (.istore 7, 2) := by decide +kernel
theorem dX5_examine_31 : decode cX5_examine 31 = .ok (.iload 7, 2) := by decide +kernel
theorem dX5_examine_33 : decode cX5_examine 33 = .ok (.aload_n 0, 1) := by decide +kernel
theorem dX5_examine_34 : decode cX5_examine 34 = .ok (.getfield 36, 3) := by decide +kernel
theorem dX5_examine_37 : decode cX5_examine 37 = .ok (.getfield 140, 3) := by decide +kernel
theorem dX5_examine_40 : decode cX5_examine 40 = .ok (.iload_n 1, 1) := by decide +kernel
theorem dX5_examine_41 : decode cX5_examine 41 = .ok (.iaload, 1) := by decide +kernel
theorem dX5_examine_42 : decode cX5_examine 42 = .ok (.if_icmp .ge 75, 3) := by decide +kernel
theorem dX5_examine_45 : decode cX5_examine 45 = .ok (.aload_n 0, 1) := by decide +kernel
theorem dX5_examine_46 : decode cX5_examine 46 = .ok (.getfield 36, 3) := by decide +kernel
theorem dX5_examine_49 : decode cX5_examine 49 = .ok (.getfield 143, 3) := by decide +kernel
theorem dX5_examine_52 : decode cX5_examine 52 = .ok (.iload 7, 2) := by decide +kernel
theorem dX5_examine_54 : decode cX5_examine 54 = .ok (.iaload, 1) := by decide +kernel
theorem dX5_examine_55 : decode cX5_examine 55 = .ok (.istore 8, 2) := by decide +kernel
theorem dX5_examine_57 : decode cX5_examine 57 = .ok (.aload_n 0, 1) := by decide +kernel
theorem dX5_examine_58 : decode cX5_examine 58 = .ok (.getfield 10, 3) := by decide +kernel
theorem dX5_examine_61 : decode cX5_examine 61 = .ok (.iload 8, 2) := by decide +kernel
theorem dX5_examine_63 : decode cX5_examine 63 = .ok (.invokevirtual 146, 3) := by decide +kernel
theorem dX5_examine_66 : decode cX5_examine 66 = .ok (.ifCond .eq 5, 3) := by decide +kernel
theorem dX5_examine_69 : decode cX5_examine 69 = .ok (.iconst 1, 1) := by decide +kernel
theorem dX5_examine_70 : decode cX5_examine 70 = .ok (.ireturn, 1) := by decide +kernel
theorem dX5_examine_71 : decode cX5_examine 71 = .ok (.aload_n 0, 1) := by decide +kernel
theorem dX5_examine_72 : decode cX5_examine 72 = .ok (.getfield 10, 3) := by decide +kernel
theorem dX5_examine_75 : decode cX5_examine 75 = .ok (.iload 8, 2) := by decide +kernel
theorem dX5_examine_77 : decode cX5_examine 77 = .ok (.invokevirtual 149, 3) := by decide +kernel
theorem dX5_examine_80 : decode cX5_examine 80 = .ok (.ifCond .eq 20, 3) := by decide +kernel
theorem dX5_examine_83 : decode cX5_examine 83 = .ok (.lload 5, 2) := by decide +kernel
theorem dX5_examine_85 : decode cX5_examine 85 = .ok (.aload_n 0, 1) := by decide +kernel
theorem dX5_examine_86 : decode cX5_examine 86 = .ok (.getfield 10, 3) := by decide +kernel
theorem dX5_examine_89 : decode cX5_examine 89 = .ok (.iload 8, 2) := by decide +kernel
theorem dX5_examine_91 : decode cX5_examine 91 = .ok (.invokevirtual 152, 3) := by decide +kernel
theorem dX5_examine_94 : decode cX5_examine 94 = .ok (.lor, 1) := by decide +kernel
theorem dX5_examine_95 : decode cX5_examine 95 = .ok (.lstore 5, 2) := by decide +kernel
theorem dX5_examine_97 : decode cX5_examine 97 = .ok (.goto 14, 3) := by decide +kernel
theorem dX5_examine_100 : decode cX5_examine 100 = .ok (.iload_n 3, 1) := by decide +kernel
theorem dX5_examine_101 : decode cX5_examine 101 = .ok (.ifCond .ne 7, 3) := by decide +kernel
theorem dX5_examine_104 : decode cX5_examine 104 = .ok (.iload 8, 2) := by decide +kernel
theorem dX5_examine_106 : decode cX5_examine 106 = .ok (.istore 4, 2) := by decide +kernel
theorem dX5_examine_108 : decode cX5_examine 108 = .ok (.iinc 3 1, 3) := by decide +kernel
theorem dX5_examine_111 : decode cX5_examine 111 = .ok (.iinc 7 1, 3) := by decide +kernel
theorem dX5_examine_114 : decode cX5_examine 114 = .ok (.goto (-83), 3) := by decide +kernel
theorem dX5_examine_117 : decode cX5_examine 117 = .ok (.iload_n 3, 1) := by decide +kernel
theorem dX5_examine_118 : decode cX5_examine 118 = .ok (.ifCond .ne 14, 3) := by decide +kernel
theorem dX5_examine_121 : decode cX5_examine 121 = .ok (.aload_n 0, 1) := by decide +kernel
theorem dX5_examine_122 : decode cX5_examine 122 = .ok (.getfield 10, 3) := by decide +kernel
theorem dX5_examine_125 : decode cX5_examine 125 = .ok (.lload 5, 2) := by decide +kernel
theorem dX5_examine_127 : decode cX5_examine 127 = .ok (.putfield 156, 3) := by decide +kernel
theorem dX5_examine_130 : decode cX5_examine 130 = .ok (.iconst 0, 1) := by decide +kernel
theorem dX5_examine_131 : decode cX5_examine 131 = .ok (.ireturn, 1) := by decide +kernel
theorem dX5_examine_132 : decode cX5_examine 132 = .ok (.iload_n 3, 1) := by decide +kernel
theorem dX5_examine_133 : decode cX5_examine 133 = .ok (.iconst 1, 1) := by decide +kernel
theorem dX5_examine_134 : decode cX5_examine 134 = .ok (.if_icmp .ne 20, 3) := by decide +kernel
theorem dX5_examine_137 : decode cX5_examine 137 = .ok (.aload_n 0, 1) := by decide +kernel
theorem dX5_examine_138 : decode cX5_examine 138 = .ok (.iconst 1, 1) := by decide +kernel
theorem dX5_examine_139 : decode cX5_examine 139 = .ok (.putfield 97, 3) := by decide +kernel
theorem dX5_examine_142 : decode cX5_examine 142 = .ok (.aload_n 0, 1) := by decide +kernel
theorem dX5_examine_143 : decode cX5_examine 143 = .ok (.getfield 10, 3) := by decide +kernel
theorem dX5_examine_146 : decode cX5_examine 146 = .ok (.iload 4, 2) := by decide +kernel
theorem dX5_examine_148 : decode cX5_examine 148 = .ok (.lload 5, 2) := by decide +kernel
theorem dX5_examine_150 : decode cX5_examine 150 = .ok (.invokevirtual 61, 3) := by decide +kernel
theorem dX5_examine_153 : decode cX5_examine 153 = .ok (.ireturn, 1) := by decide +kernel
theorem dX5_examine_154 : decode cX5_examine 154 = .ok (.iload_n 3, 1) := by decide +kernel
theorem dX5_examine_155 : decode cX5_examine 155 = .ok (.aload_n 0, 1) := by decide +kernel
theorem dX5_examine_156 : decode cX5_examine 156 = .ok (.getfield 101, 3) := by decide +kernel
theorem dX5_examine_159 : decode cX5_examine 159 = .ok (.if_icmp .ge 14, 3) := by decide +kernel
theorem dX5_examine_162 : decode cX5_examine 162 = .ok (.aload_n 0, 1) := by decide +kernel
theorem dX5_examine_163 : decode cX5_examine 163 = .ok (.iload_n 3, 1) := by decide +kernel
theorem dX5_examine_164 : decode cX5_examine 164 = .ok (.putfield 101, 3) := by decide +kernel
theorem dX5_examine_167 : decode cX5_examine 167 = .ok (.aload_n 0, 1) := by decide +kernel
theorem dX5_examine_168 : decode cX5_examine 168 = .ok (.iload 4, 2) := by decide +kernel
theorem dX5_examine_170 : decode cX5_examine 170 = .ok (.putfield 126, 3) := by decide +kernel
theorem dX5_examine_173 : decode cX5_examine 173 = .ok (.iconst 1, 1) := by decide +kernel
theorem dX5_examine_174 : decode cX5_examine 174 = .ok (.ireturn, 1) := by decide +kernel
theorem dX5_descend_0 : decode cX5_descend 0 = .ok (.aload_n 0, 1) := by decide +kernel
theorem dX5_descend_1 : decode cX5_descend 1 = .ok (.getfield 10, 3) := by decide +kernel
theorem dX5_descend_4 : decode cX5_descend 4 = .ok (.getfield 160, 3) := by decide +kernel
theorem dX5_descend_7 : decode cX5_descend 7 = .ok (.istore_n 1, 1) := by decide +kernel
theorem dX5_descend_8 : decode cX5_descend 8 = .ok (.aload_n 0, 1) := by decide +kernel
theorem dX5_descend_9 : decode cX5_descend 9 = .ok (.getfield 10, 3) := by decide +kernel
theorem dX5_descend_12 : decode cX5_descend 12 = .ok (.getfield 163, 3) := by decide +kernel
theorem dX5_descend_15 : decode cX5_descend 15 = .ok (.istore_n 2, 1) := by decide +kernel
theorem dX5_descend_16 : decode cX5_descend 16 = .ok (.aload_n 0, 1) := by decide +kernel
theorem dX5_descend_17 : decode cX5_descend 17 = .ok (.getfield 22, 3) := by decide +kernel
theorem dX5_descend_20 : decode cX5_descend 20 = .ok (.arraylength, 1) := by decide +kernel
theorem dX5_descend_21 : decode cX5_descend 21 = .ok (.aload_n 0, 1) := by decide +kernel
theorem dX5_descend_22 : decode cX5_descend 22 = .ok (.getfield 72, 3) := by decide +kernel
theorem dX5_descend_25 : decode cX5_descend 25 = .ok (.iconst 1, 1) := by decide +kernel
theorem dX5_descend_26 : decode cX5_descend 26 = .ok (.iadd, 1) := by decide +kernel
theorem dX5_descend_27 : decode cX5_descend 27 = .ok (.iload_n 1, 1) := by decide +kernel
theorem dX5_descend_28 : decode cX5_descend 28 = .ok (.imul, 1) := by decide +kernel
theorem dX5_descend_29 : decode cX5_descend 29 = .ok (.if_icmp .ge 24, 3) := by decide +kernel
theorem dX5_descend_32 : decode cX5_descend 32 = .ok (.aload_n 0, 1) := by decide +kernel
theorem dX5_descend_33 : decode cX5_descend 33 = .ok (.aload_n 0, 1) := by decide +kernel
theorem dX5_descend_34 : decode cX5_descend 34 = .ok (.getfield 22, 3) := by decide +kernel
theorem dX5_descend_37 : decode cX5_descend 37 = .ok (.iconst 2, 1) := by decide +kernel
theorem dX5_descend_38 : decode cX5_descend 38 = .ok (.aload_n 0, 1) := by decide +kernel
theorem dX5_descend_39 : decode cX5_descend 39 = .ok (.getfield 72, 3) := by decide +kernel
theorem dX5_descend_42 : decode cX5_descend 42 = .ok (.iconst 1, 1) := by decide +kernel
theorem dX5_descend_43 : decode cX5_descend 43 = .ok (.iadd, 1) := by decide +kernel
theorem dX5_descend_44 : decode cX5_descend 44 = .ok (.imul, 1) := by decide +kernel
theorem dX5_descend_45 : decode cX5_descend 45 = .ok (.iload_n 1, 1) := by decide +kernel
theorem dX5_descend_46 : decode cX5_descend 46 = .ok (.imul, 1) := by decide +kernel
theorem dX5_descend_47 : decode cX5_descend 47 = .ok (.invokestatic 166, 3) := by decide +kernel
theorem dX5_descend_50 : decode cX5_descend 50 = .ok (.putfield 22, 3) := by decide +kernel
theorem dX5_descend_53 : decode cX5_descend 53 = .ok (.aload_n 0, 1) := by decide +kernel
theorem dX5_descend_54 : decode cX5_descend 54 = .ok (.getfield 25, 3) := by decide +kernel
theorem dX5_descend_57 : decode cX5_descend 57 = .ok (.arraylength, 1) := by decide +kernel
theorem dX5_descend_58 : decode cX5_descend 58 = .ok (.aload_n 0, 1) := by decide +kernel
theorem dX5_descend_59 : decode cX5_descend 59 = .ok (.getfield 72, 3) := by decide +kernel
theorem dX5_descend_62 : decode cX5_descend 62 = .ok (.iconst 1, 1) := by decide +kernel
theorem dX5_descend_63 : decode cX5_descend 63 = .ok (.iadd, 1) := by decide +kernel
theorem dX5_descend_64 : decode cX5_descend 64 = .ok (.iload_n 2, 1) := by decide +kernel
theorem dX5_descend_65 : decode cX5_descend 65 = .ok (.imul, 1) := by decide +kernel
theorem dX5_descend_66 : decode cX5_descend 66 = .ok (.if_icmp .ge 24, 3) := by decide +kernel
theorem dX5_descend_69 : decode cX5_descend 69 = .ok (.aload_n 0, 1) := by decide +kernel
theorem dX5_descend_70 : decode cX5_descend 70 = .ok (.aload_n 0, 1) := by decide +kernel
theorem dX5_descend_71 : decode cX5_descend 71 = .ok (.getfield 25, 3) := by decide +kernel
theorem dX5_descend_74 : decode cX5_descend 74 = .ok (.iconst 2, 1) := by decide +kernel
theorem dX5_descend_75 : decode cX5_descend 75 = .ok (.aload_n 0, 1) := by decide +kernel
theorem dX5_descend_76 : decode cX5_descend 76 = .ok (.getfield 72, 3) := by decide +kernel
theorem dX5_descend_79 : decode cX5_descend 79 = .ok (.iconst 1, 1) := by decide +kernel
theorem dX5_descend_80 : decode cX5_descend 80 = .ok (.iadd, 1) := by decide +kernel
theorem dX5_descend_81 : decode cX5_descend 81 = .ok (.imul, 1) := by decide +kernel
theorem dX5_descend_82 : decode cX5_descend 82 = .ok (.iload_n 2, 1) := by decide +kernel
theorem dX5_descend_83 : decode cX5_descend 83 = .ok (.imul, 1) := by decide +kernel
theorem dX5_descend_84 : decode cX5_descend 84 = .ok (.invokestatic 172, 3) := by decide +kernel
theorem dX5_descend_87 : decode cX5_descend 87 = .ok (.putfield 25, 3) := by decide +kernel
theorem dX5_descend_90 : decode cX5_descend 90 = .ok (.aload_n 0, 1) := by decide +kernel
theorem dX5_descend_91 : decode cX5_descend 91 = .ok (.getfield 72, 3) := by decide +kernel
theorem dX5_descend_94 : decode cX5_descend 94 = .ok (.aload_n 0, 1) := by decide +kernel
theorem dX5_descend_95 : decode cX5_descend 95 = .ok (.getfield 29, 3) := by decide +kernel
theorem dX5_descend_98 : decode cX5_descend 98 = .ok (.arraylength, 1) := by decide +kernel
theorem dX5_descend_99 : decode cX5_descend 99 = .ok (.if_icmp .lt 20, 3) := by decide +kernel
theorem dX5_descend_102 : decode cX5_descend 102 = .ok (.aload_n 0, 1) := by decide +kernel
theorem dX5_descend_103 : decode cX5_descend 103 = .ok (.aload_n 0, 1) := by decide +kernel
theorem dX5_descend_104 : decode cX5_descend 104 = .ok (.getfield 29, 3) := by decide +kernel
theorem dX5_descend_107 : decode cX5_descend 107 = .ok (.iconst 2, 1) := by decide +kernel
theorem dX5_descend_108 : decode cX5_descend 108 = .ok (.aload_n 0, 1) := by decide +kernel
theorem dX5_descend_109 : decode cX5_descend 109 = .ok (.getfield 72, 3) := by decide +kernel
theorem dX5_descend_112 : decode cX5_descend 112 = .ok (.imul, 1) := by decide +kernel
theorem dX5_descend_113 : decode cX5_descend 113 = .ok (.invokestatic 166, 3) := by decide +kernel
theorem dX5_descend_116 : decode cX5_descend 116 = .ok (.putfield 29, 3) := by decide +kernel
theorem dX5_descend_119 : decode cX5_descend 119 = .ok (.aload_n 0, 1) := by decide +kernel
theorem dX5_descend_120 : decode cX5_descend 120 = .ok (.getfield 10, 3) := by decide +kernel
theorem dX5_descend_123 : decode cX5_descend 123 = .ok (.getfield 175, 3) := by decide +kernel
theorem dX5_descend_126 : decode cX5_descend 126 = .ok (.iconst 0, 1) := by decide +kernel
theorem dX5_descend_127 : decode cX5_descend 127 = .ok (.aload_n 0, 1) := by decide +kernel
theorem dX5_descend_128 : decode cX5_descend 128 = .ok (.getfield 22, 3) := by decide +kernel
theorem dX5_descend_131 : decode cX5_descend 131 = .ok (.aload_n 0, 1) := by decide +kernel
theorem dX5_descend_132 : decode cX5_descend 132 = .ok (.getfield 72, 3) := by decide +kernel
theorem dX5_descend_135 : decode cX5_descend 135 = .ok (.iload_n 1, 1) := by decide +kernel
theorem dX5_descend_136 : decode cX5_descend 136 = .ok (.imul, 1) := by decide +kernel
theorem dX5_descend_137 : decode cX5_descend 137 = .ok (.iload_n 1, 1) := by decide +kernel
theorem dX5_descend_138 : decode cX5_descend 138 = .ok (.invokestatic 84, 3) := by decide +kernel
theorem dX5_descend_141 : decode cX5_descend 141 = .ok (.aload_n 0, 1) := by decide +kernel
theorem dX5_descend_142 : decode cX5_descend 142 = .ok (.getfield 10, 3) := by decide +kernel
theorem dX5_descend_145 : decode cX5_descend 145 = .ok (.getfield 178, 3) := by decide +kernel
theorem dX5_descend_148 : decode cX5_descend 148 = .ok (.iconst 0, 1) := by decide +kernel
theorem dX5_descend_149 : decode cX5_descend 149 = .ok (.aload_n 0, 1) := by decide +kernel
theorem dX5_descend_150 : decode cX5_descend 150 = .ok (.getfield 25, 3) := by decide +kernel
theorem dX5_descend_153 : decode cX5_descend 153 = .ok (.aload_n 0, 1) := by decide +kernel
theorem dX5_descend_154 : decode cX5_descend 154 = .ok (.getfield 72, 3) := by decide +kernel
theorem dX5_descend_157 : decode cX5_descend 157 = .ok (.iload_n 2, 1) := by decide +kernel
theorem dX5_descend_158 : decode cX5_descend 158 = .ok (.imul, 1) := by decide +kernel
theorem dX5_descend_159 : decode cX5_descend 159 = .ok (.iload_n 2, 1) := by decide +kernel
theorem dX5_descend_160 : decode cX5_descend 160 = .ok (.invokestatic 84, 3) := by decide +kernel
theorem dX5_descend_163 : decode cX5_descend 163 = .ok (.aload_n 0, 1) := by decide +kernel
theorem dX5_descend_164 : decode cX5_descend 164 = .ok (.getfield 29, 3) := by decide +kernel
theorem dX5_descend_167 : decode cX5_descend 167 = .ok (.aload_n 0, 1) := by decide +kernel
theorem dX5_descend_168 : decode cX5_descend 168 = .ok (.getfield 72, 3) := by decide +kernel
theorem dX5_descend_171 : decode cX5_descend 171 = .ok (.aload_n 0, 1) := by decide +kernel
theorem dX5_descend_172 : decode cX5_descend 172 = .ok (.getfield 126, 3) := by decide +kernel
theorem dX5_descend_175 : decode cX5_descend 175 = .ok (.iastore, 1) := by decide +kernel
theorem dX5_descend_176 : decode cX5_descend 176 = .ok (.lconst 1, 1) := by decide +kernel
theorem dX5_descend_177 : decode cX5_descend 177 = .ok (.aload_n 0, 1) := by decide +kernel
theorem dX5_descend_178 : decode cX5_descend 178 = .ok (.getfield 72, 3) := by decide +kernel
theorem dX5_descend_181 : decode cX5_descend 181 = .ok (.bipush 62, 2) := by decide +kernel
theorem dX5_descend_183 : decode cX5_descend 183 = .ok (.invokestatic 181, 3) := by decide +kernel
theorem dX5_descend_186 : decode cX5_descend 186 = .ok (.lshl, 1) := by decide +kernel
theorem dX5_descend_187 : decode cX5_descend 187 = .ok (.lstore_n 3, 1) := by decide +kernel
theorem dX5_descend_188 : decode cX5_descend 188 = .ok (.aload_n 0, 1) := by decide +kernel
theorem dX5_descend_189 : decode cX5_descend 189 = .ok (.dup, 1) := by decide +kernel
theorem dX5_descend_190 : decode cX5_descend 190 = .ok (.getfield 72, 3) := by decide +kernel
theorem dX5_descend_193 : decode cX5_descend 193 = .ok (.iconst 1, 1) := by decide +kernel
theorem dX5_descend_194 : decode cX5_descend 194 = .ok (.iadd, 1) := by decide +kernel
theorem dX5_descend_195 : decode cX5_descend 195 = .ok (.putfield 72, 3) := by decide +kernel
theorem dX5_descend_198 : decode cX5_descend 198 = .ok (.aload_n 0, 1) := by decide +kernel
theorem dX5_descend_199 : decode cX5_descend 199 = .ok (.getfield 10, 3) := by decide +kernel
theorem dX5_descend_202 : decode cX5_descend 202 = .ok (.aload_n 0, 1) := by decide +kernel
theorem dX5_descend_203 : decode cX5_descend 203 = .ok (.getfield 126, 3) := by decide +kernel
theorem dX5_descend_206 : decode cX5_descend 206 = .ok (.lload_n 3, 1) := by decide +kernel
theorem dX5_descend_207 : decode cX5_descend 207 = .ok (.invokevirtual 61, 3) := by decide +kernel
theorem dX5_descend_210 : decode cX5_descend 210 = .ok (.ireturn, 1) := by decide +kernel
theorem dX5_turnBack_0 : decode cX5_turnBack 0 = .ok (.aload_n 0, 1) := by decide +kernel
theorem dX5_turnBack_1 : decode cX5_turnBack 1 = .ok (.getfield 10, 3) := by decide +kernel
theorem dX5_turnBack_4 : decode cX5_turnBack 4 = .ok (.getfield 160, 3) := by decide +kernel
theorem dX5_turnBack_7 : decode cX5_turnBack 7 = .ok (.istore_n 1, 1) := by decide +kernel
theorem dX5_turnBack_8 : decode cX5_turnBack 8 = .ok (.aload_n 0, 1) := by decide +kernel
theorem dX5_turnBack_9 : decode cX5_turnBack 9 = .ok (.getfield 10, 3) := by decide +kernel
theorem dX5_turnBack_12 : decode cX5_turnBack 12 = .ok (.getfield 163, 3) := by decide +kernel
theorem dX5_turnBack_15 : decode cX5_turnBack 15 = .ok (.istore_n 2, 1) := by decide +kernel
theorem dX5_turnBack_16 : decode cX5_turnBack 16 = .ok (.aload_n 0, 1) := by decide +kernel
theorem dX5_turnBack_17 : decode cX5_turnBack 17 = .ok (.getfield 72, 3) := by decide +kernel
theorem dX5_turnBack_20 : decode cX5_turnBack 20 = .ok (.iconst 1, 1) := by decide +kernel
theorem dX5_turnBack_21 : decode cX5_turnBack 21 = .ok (.isub, 1) := by decide +kernel
theorem dX5_turnBack_22 : decode cX5_turnBack 22 = .ok (.istore_n 3, 1) := by decide +kernel
theorem dX5_turnBack_23 : decode cX5_turnBack 23 = .ok (.iload_n 3, 1) := by decide +kernel
theorem dX5_turnBack_24 : decode cX5_turnBack 24 = .ok (.ifCond .lt 135, 3) := by decide +kernel
theorem dX5_turnBack_27 : decode cX5_turnBack 27 = .ok (.lconst 1, 1) := by decide +kernel
theorem dX5_turnBack_28 : decode cX5_turnBack 28 = .ok (.iload_n 3, 1) := by decide +kernel
theorem dX5_turnBack_29 : decode cX5_turnBack 29 = .ok (.bipush 62, 2) := by decide +kernel
theorem dX5_turnBack_31 : decode cX5_turnBack 31 = .ok (.invokestatic 181, 3) := by decide +kernel
theorem dX5_turnBack_34 : decode cX5_turnBack 34 = .ok (.lshl, 1) := by decide +kernel
theorem dX5_turnBack_35 : decode cX5_turnBack 35 = .ok (.lstore 4, 2) := by decide +kernel
theorem dX5_turnBack_37 : decode cX5_turnBack 37 = .ok (.aload_n 0, 1) := by decide +kernel
theorem dX5_turnBack_38 : decode cX5_turnBack 38 = .ok (.getfield 10, 3) := by decide +kernel
theorem dX5_turnBack_41 : decode cX5_turnBack 41 = .ok (.getfield 156, 3) := by decide +kernel
theorem dX5_turnBack_44 : decode cX5_turnBack 44 = .ok (.lload 4, 2) := by decide +kernel
theorem dX5_turnBack_46 : decode cX5_turnBack 46 = .ok (.land, 1) := by decide +kernel
theorem dX5_turnBack_47 : decode cX5_turnBack 47 = .ok (.lconst 0, 1) := by decide +kernel
theorem dX5_turnBack_48 : decode cX5_turnBack 48 = .ok (.lcmp, 1) := by decide +kernel
theorem dX5_turnBack_49 : decode cX5_turnBack 49 = .ok (.ifCond .ne 6, 3) := by decide +kernel
theorem dX5_turnBack_52 : decode cX5_turnBack 52 = .ok (.goto 101, 3) := by decide +kernel
theorem dX5_turnBack_55 : decode cX5_turnBack 55 = .ok (.aload_n 0, 1) := by decide +kernel
theorem dX5_turnBack_56 : decode cX5_turnBack 56 = .ok (.iload_n 3, 1) := by decide +kernel
theorem dX5_turnBack_57 : decode cX5_turnBack 57 = .ok (.putfield 72, 3) := by decide +kernel
theorem dX5_turnBack_60 : decode cX5_turnBack 60 = .ok (.aload_n 0, 1) := by decide +kernel
theorem dX5_turnBack_61 : decode cX5_turnBack 61 = .ok (.getfield 22, 3) := by decide +kernel
theorem dX5_turnBack_64 : decode cX5_turnBack 64 = .ok (.iload_n 3, 1) := by decide +kernel
theorem dX5_turnBack_65 : decode cX5_turnBack 65 = .ok (.iload_n 1, 1) := by decide +kernel
theorem dX5_turnBack_66 : decode cX5_turnBack 66 = .ok (.imul, 1) := by decide +kernel
theorem dX5_turnBack_67 : decode cX5_turnBack 67 = .ok (.aload_n 0, 1) := by decide +kernel
theorem dX5_turnBack_68 : decode cX5_turnBack 68 = .ok (.getfield 10, 3) := by decide +kernel
theorem dX5_turnBack_71 : decode cX5_turnBack 71 = .ok (.getfield 175, 3) := by decide +kernel
theorem dX5_turnBack_74 : decode cX5_turnBack 74 = .ok (.iconst 0, 1) := by decide +kernel
theorem dX5_turnBack_75 : decode cX5_turnBack 75 = .ok (.iload_n 1, 1) := by decide +kernel
theorem dX5_turnBack_76 : decode cX5_turnBack 76 = .ok (.invokestatic 84, 3) := by decide +kernel
theorem dX5_turnBack_79 : decode cX5_turnBack 79 = .ok (.aload_n 0, 1) := by decide +kernel
theorem dX5_turnBack_80 : decode cX5_turnBack 80 = .ok (.getfield 25, 3) := by decide +kernel
theorem dX5_turnBack_83 : decode cX5_turnBack 83 = .ok (.iload_n 3, 1) := by decide +kernel
theorem dX5_turnBack_84 : decode cX5_turnBack 84 = .ok (.iload_n 2, 1) := by decide +kernel
theorem dX5_turnBack_85 : decode cX5_turnBack 85 = .ok (.imul, 1) := by decide +kernel
theorem dX5_turnBack_86 : decode cX5_turnBack 86 = .ok (.aload_n 0, 1) := by decide +kernel
theorem dX5_turnBack_87 : decode cX5_turnBack 87 = .ok (.getfield 10, 3) := by decide +kernel
theorem dX5_turnBack_90 : decode cX5_turnBack 90 = .ok (.getfield 178, 3) := by decide +kernel
theorem dX5_turnBack_93 : decode cX5_turnBack 93 = .ok (.iconst 0, 1) := by decide +kernel
theorem dX5_turnBack_94 : decode cX5_turnBack 94 = .ok (.iload_n 2, 1) := by decide +kernel
theorem dX5_turnBack_95 : decode cX5_turnBack 95 = .ok (.invokestatic 84, 3) := by decide +kernel
theorem dX5_turnBack_98 : decode cX5_turnBack 98 = .ok (.iload_n 3, 1) := by decide +kernel
theorem dX5_turnBack_99 : decode cX5_turnBack 99 = .ok (.bipush 62, 2) := by decide +kernel
theorem dX5_turnBack_101 : decode cX5_turnBack 101 = .ok (.if_icmp .le 13, 3) := by decide +kernel
theorem dX5_turnBack_104 : decode cX5_turnBack 104 = .ok (.aload_n 0, 1) := by decide +kernel
theorem dX5_turnBack_105 : decode cX5_turnBack 105 = .ok (.getfield 10, 3) := by decide +kernel
theorem dX5_turnBack_108 : decode cX5_turnBack 108 = .ok (.getfield 156, 3) := by decide +kernel
theorem dX5_turnBack_111 : decode cX5_turnBack 111 = .ok (.goto 17, 3) := by decide +kernel
theorem dX5_turnBack_114 : decode cX5_turnBack 114 = .ok (.aload_n 0, 1) := by decide +kernel
theorem dX5_turnBack_115 : decode cX5_turnBack 115 = .ok (.getfield 10, 3) := by decide +kernel
theorem dX5_turnBack_118 : decode cX5_turnBack 118 = .ok (.getfield 156, 3) := by decide +kernel
theorem dX5_turnBack_121 : decode cX5_turnBack 121 = .ok (.lload 4, 2) := by decide +kernel
theorem dX5_turnBack_123 : decode cX5_turnBack 123 = .ok (.ldc2_w 186, 3) := by decide +kernel
theorem dX5_turnBack_126 : decode cX5_turnBack 126 = .ok (.lxor, 1) := by decide +kernel
theorem dX5_turnBack_127 : decode cX5_turnBack 127 = .ok (.land, 1) := by decide +kernel
theorem dX5_turnBack_128 : decode cX5_turnBack 128 = .ok (.lstore 6, 2) := by decide +kernel
theorem dX5_turnBack_130 : decode cX5_turnBack 130 = .ok (.aload_n 0, 1) := by decide +kernel
theorem dX5_turnBack_131 : decode cX5_turnBack 131 = .ok (.getfield 10, 3) := by decide +kernel
theorem dX5_turnBack_134 : decode cX5_turnBack 134 = .ok (.aload_n 0, 1) := by decide +kernel
theorem dX5_turnBack_135 : decode cX5_turnBack 135 = .ok (.getfield 29, 3) := by decide +kernel
theorem dX5_turnBack_138 : decode cX5_turnBack 138 = .ok (.iload_n 3, 1) := by decide +kernel
theorem dX5_turnBack_139 : decode cX5_turnBack 139 = .ok (.iaload, 1) := by decide +kernel
theorem dX5_turnBack_140 : decode cX5_turnBack 140 = .ok (.invokestatic 188, 3) := by decide +kernel
theorem dX5_turnBack_143 : decode cX5_turnBack 143 = .ok (.lload 6, 2) := by decide +kernel
theorem dX5_turnBack_145 : decode cX5_turnBack 145 = .ok (.invokevirtual 61, 3) := by decide +kernel
theorem dX5_turnBack_148 : decode cX5_turnBack 148 = .ok (.ifCond .eq 5, 3) := by decide +kernel
theorem dX5_turnBack_151 : decode cX5_turnBack 151 = .ok (.iconst 1, 1) := by decide +kernel
theorem dX5_turnBack_152 : decode cX5_turnBack 152 = .ok (.ireturn, 1) := by decide +kernel
theorem dX5_turnBack_153 : decode cX5_turnBack 153 = .ok (.iinc 3 (-1), 3) := by decide +kernel
theorem dX5_turnBack_156 : decode cX5_turnBack 156 = .ok (.goto (-133), 3) := by decide +kernel
theorem dX5_turnBack_159 : decode cX5_turnBack 159 = .ok (.iconst 0, 1) := by decide +kernel
theorem dX5_turnBack_160 : decode cX5_turnBack 160 = .ok (.ireturn, 1) := by decide +kernel
