theorem dX5_turnBack_83 : decode cX5_turnBack 83 = .ok (.iload_n 3, 1) := by decide +kernel
theorem dX5_turnBack_84 : decode cX5_turnBack 84 = .ok (.iload_n 2, 1) := by decide +kernel
theorem dX5_turnBack_85 : decode cX5_turnBack 85 = .ok (.imul, 1) := by decide +kernel
theorem dX5_turnBack_86 : decode cX5_turnBack 86 = .ok (.aload_n 0, 1) := by decide +kernel
theorem dX5_turnBack_87 : decode cX5_turnBack 87 = .ok (.getfield 10, 3) := by decide +kernel
theorem dX5_turnBack_90 : decode cX5_turnBack 90 = .ok (.getfield 178, 3) := by decide +kernel
theorem dX5_turnBack_93 : decode cX5_turnBack 93 = .ok (.iconst 0, 1) := by decide +kernel
theorem dX5_turnBack_94 : decode cX5_turnBack 94 = .ok (.iload_n 2, 1) := by decide +kernel
theorem dX5_turnBack_95 : decode cX5_turnBack 95 = .ok (.invokestatic 84, 3) := by decide +kernel
theorem dX5_turnBack_98 : decode cX5_turnBack 98 = .ok (.iload_n 3, 1) := by decide +kernel
theorem dX5_turnBack_99 : decode cX5_turnBack 99 = .ok (.bipush 62, 2) := by decide +kernel
theorem dX5_turnBack_101 : decode cX5_turnBack 101 = .ok (.if_icmp .le 13, 3) := by decide +kernel
theorem dX5_turnBack_104 : decode cX5_turnBack 104 = .ok (.aload_n 0, 1) := by decide +kernel
theorem dX5_turnBack_105 : decode cX5_turnBack 105 = .ok (.getfield 10, 3) := by decide +kernel
theorem dX5_turnBack_108 : decode cX5_turnBack 108 = .ok (.getfield 156, 3) := by decide +kernel
theorem dX5_turnBack_111 : decode cX5_turnBack 111 = .ok (.goto 17, 3) := by decide +kernel
theorem dX5_turnBack_114 : decode cX5_turnBack 114 = .ok (.aload_n 0, 1) := by decide +kernel
theorem dX5_turnBack_115 : decode cX5_turnBack 115 = .ok (.getfield 10, 3) := by decide +kernel
theorem dX5_turnBack_118 : decode cX5_turnBack 118 = .ok (.getfield 156, 3) := by decide +kernel
theorem dX5_turnBack_121 : decode cX5_turnBack 121 = .ok (.lload 4, 2) := by decide +kernel
theorem dX5_turnBack_123 : decode cX5_turnBack 123 = .ok (.ldc2_w 186, 3) := by decide +kernel
theorem dX5_turnBack_126 : decode cX5_turnBack 126 = .ok (.lxor, 1) := by decide +kernel
theorem dX5_turnBack_127 : decode cX5_turnBack 127 = .ok (.land, 1) := by decide +kernel
theorem dX5_turnBack_128 : decode cX5_turnBack 128 = .ok (.lstore 6, 2) := by decide +kernel
theorem dX5_turnBack_130 : decode cX5_turnBack 130 = .ok (.aload_n 0, 1) := by decide +kernel
theorem dX5_turnBack_131 : decode cX5_turnBack 131 = .ok (.getfield 10, 3) := by decide +kernel
theorem dX5_turnBack_134 : decode cX5_turnBack 134 = .ok (.aload_n 0, 1) := by decide +kernel
theorem dX5_turnBack_135 : decode cX5_turnBack 135 = .ok (.getfield 29, 3) := by decide +kernel
theorem dX5_turnBack_138 : decode cX5_turnBack 138 = .ok (.iload_n 3, 1) := by decide +kernel
theorem dX5_turnBack_139 : decode cX5_turnBack 139 = .ok (.iaload, 1) := by decide +kernel
theorem dX5_turnBack_140 : decode cX5_turnBack 140 = .ok (.invokestatic 188, 3) := by decide +kernel
theorem dX5_turnBack_143 : decode cX5_turnBack 143 = .ok (.lload 6, 2) := by decide +kernel
theorem dX5_turnBack_145 : decode cX5_turnBack 145 = .ok (.invokevirtual 61, 3) := by decide +kernel
theorem dX5_turnBack_148 : decode cX5_turnBack 148 = .ok (.ifCond .eq 5, 3) := by decide +kernel
theorem dX5_turnBack_151 : decode cX5_turnBack 151 = .ok (.iconst 1, 1) := by decide +kernel
theorem dX5_turnBack_152 : decode cX5_turnBack 152 = .ok (.ireturn, 1) := by decide +kernel
theorem dX5_turnBack_153 : decode cX5_turnBack 153 = .ok (.iinc 3 (-1), 3) := by decide +kernel
theorem dX5_turnBack_156 : decode cX5_turnBack 156 = .ok (.goto (-133), 3) := by decide +kernel
theorem dX5_turnBack_159 : decode cX5_turnBack 159 = .ok (.iconst 0, 1) := by decide +kernel
theorem dX5_turnBack_160 : decode cX5_turnBack 160 = .ok (.ireturn, 1) := by decide +kernel
theorem dX6_init_0 : decode cX6_init 0 = .ok (.aload_n 0, 1) := by decide +kernel
theorem dX6_init_1 : decode cX6_init 1 = .ok (.invokespecial 1, 3) := by decide +kernel
theorem dX6_init_4 : decode cX6_init 4 = .ok (.aload_n 0, 1) := by decide +kernel
theorem dX6_init_5 : decode cX6_init 5 = .ok (.bipush 24, 2) := by decide +kernel
theorem dX6_init_7 : decode cX6_init 7 = .ok (.newarray .int, 2) := by decide +kernel
theorem dX6_init_9 : decode cX6_init 9 = .ok (.putfield 9, 3) := by decide +kernel
theorem dX6_init_12 : decode cX6_init 12 = .ok (.aload_n 0, 1) := by decide +kernel
theorem dX6_init_13 : decode cX6_init 13 = .ok (.bipush 42, 2) := by decide +kernel
theorem dX6_init_15 : decode cX6_init 15 = .ok (.newarray .int, 2) := by decide +kernel
theorem dX6_init_17 : decode cX6_init 17 = .ok (.putfield 13, 3) := by decide +kernel
theorem dX6_init_20 : decode cX6_init 20 = .ok (.aload_n 0, 1) := by decide +kernel
theorem dX6_init_21 : decode cX6_init 21 = .ok (.iconst 4, 1) := by decide +kernel
theorem dX6_init_22 : decode cX6_init 22 = .ok (.newarray .char, 2) := by decide +kernel
theorem dX6_init_24 : decode cX6_init 24 = .ok (.putfield 16, 3) := by decide +kernel
theorem dX6_init_27 : decode cX6_init 27 = .ok (.aload_n 0, 1) := by decide +kernel
theorem dX6_init_28 : decode cX6_init 28 = .ok (.iconst 4, 1) := by decide +kernel
theorem dX6_init_29 : decode cX6_init 29 = .ok (.newarray .int, 2) := by decide +kernel
theorem dX6_init_31 : decode cX6_init 31 = .ok (.putfield 20, 3) := by decide +kernel
theorem dX6_init_34 : decode cX6_init 34 = .ok (.return_, 1) := by decide +kernel
theorem dX6_hasAllAtoms_0 : decode cX6_hasAllAtoms 0 = .ok (.aload_n 0, 1) := by decide +kernel
theorem dX6_hasAllAtoms_1 : decode cX6_hasAllAtoms 1 = .ok (.getfield 23, 3) := by decide +kernel
theorem dX6_hasAllAtoms_4 : decode cX6_hasAllAtoms 4 = .ok (.bipush 24, 2) := by decide +kernel
theorem dX6_hasAllAtoms_6 : decode cX6_hasAllAtoms 6 = .ok (.if_icmp .lt 7, 3) := by decide +kernel
theorem dX6_hasAllAtoms_9 : decode cX6_hasAllAtoms 9 = .ok (.iconst 1, 1) := by decide +kernel
theorem dX6_hasAllAtoms_10 : decode cX6_hasAllAtoms 10 = .ok (.goto 4, 3) := by decide +kernel
theorem dX6_hasAllAtoms_13 : decode cX6_hasAllAtoms 13 = .ok (.iconst 0, 1) := by decide +kernel
theorem dX6_hasAllAtoms_14 : decode cX6_hasAllAtoms 14 = .ok (.ireturn, 1) := by decide +kernel
theorem dX6_hasAllClauses_0 : decode cX6_hasAllClauses 0 = .ok (.aload_n 0, 1) := by decide +kernel
theorem dX6_hasAllClauses_1 : decode cX6_hasAllClauses 1 = .ok (.getfield 27, 3) := by decide +kernel
theorem dX6_hasAllClauses_4 : decode cX6_hasAllClauses 4 = .ok (.bipush 14, 2) := by decide +kernel
theorem dX6_hasAllClauses_6 : decode cX6_hasAllClauses 6 = .ok (.if_icmp .lt 7, 3) := by decide +kernel
theorem dX6_hasAllClauses_9 : decode cX6_hasAllClauses 9 = .ok (.iconst 1, 1) := by decide +kernel
theorem dX6_hasAllClauses_10 : decode cX6_hasAllClauses 10 = .ok (.goto 4, 3) := by decide +kernel
theorem dX6_hasAllClauses_13 : decode cX6_hasAllClauses 13 = .ok (.iconst 0, 1) := by decide +kernel
theorem dX6_hasAllClauses_14 : decode cX6_hasAllClauses 14 = .ok (.ireturn, 1) := by decide +kernel
theorem dX6_hasAllRules_0 : decode cX6_hasAllRules 0 = .ok (.aload_n 0, 1) := by decide +kernel
theorem dX6_hasAllRules_1 : decode cX6_hasAllRules 1 = .ok (.getfield 30, 3) := by decide +kernel
theorem dX6_hasAllRules_4 : decode cX6_hasAllRules 4 = .ok (.iconst 4, 1) := by decide +kernel
theorem dX6_hasAllRules_5 : decode cX6_hasAllRules 5 = .ok (.if_icmp .lt 7, 3) := by decide +kernel
theorem dX6_hasAllRules_8 : decode cX6_hasAllRules 8 = .ok (.iconst 1, 1) := by decide +kernel
theorem dX6_hasAllRules_9 : decode cX6_hasAllRules 9 = .ok (.goto 4, 3) := by decide +kernel
theorem dX6_hasAllRules_12 : decode cX6_hasAllRules 12 = .ok (.iconst 0, 1) := by decide +kernel
theorem dX6_hasAllRules_13 : decode cX6_hasAllRules 13 = .ok (.ireturn, 1) := by decide +kernel
theorem dX6_isLiteral_0 : decode cX6_isLiteral 0 = .ok (.iload_n 1, 1) := by decide +kernel
theorem dX6_isLiteral_1 : decode cX6_isLiteral 1 = .ok (.ifCond .lt 17, 3) := by decide +kernel
theorem dX6_isLiteral_4 : decode cX6_isLiteral 4 = .ok (.iload_n 1, 1) := by decide +kernel
theorem dX6_isLiteral_5 : decode cX6_isLiteral 5 = .ok (.iconst 2, 1) := by decide +kernel
theorem dX6_isLiteral_6 : decode cX6_isLiteral 6 = .ok (.aload_n 0, 1) := by decide +kernel
theorem dX6_isLiteral_7 : decode cX6_isLiteral 7 = .ok (.getfield 23, 3) := by decide +kernel
theorem dX6_isLiteral_10 : decode cX6_isLiteral 10 = .ok (.imul, 1) := by decide +kernel
theorem dX6_isLiteral_11 : decode cX6_isLiteral 11 = .ok (.if_icmp .ge 7, 3) := by decide +kernel
theorem dX6_isLiteral_14 : decode cX6_isLiteral 14 = .ok (.iconst 1, 1) := by decide +kernel
theorem dX6_isLiteral_15 : decode cX6_isLiteral 15 = .ok (.goto 4, 3) := by decide +kernel
theorem dX6_isLiteral_18 : decode cX6_isLiteral 18 = .ok (.iconst 0, 1) := by decide +kernel
theorem dX6_isLiteral_19 : decode cX6_isLiteral 19 = .ok (.ireturn, 1) := by decide +kernel
theorem dX6_findAtom_0 : decode cX6_findAtom 0 = .ok (.iconst 0, 1) := by decide +kernel
theorem dX6_findAtom_1 : decode cX6_findAtom 1 = .ok (.istore_n 2, 1) := by decide +kernel
theorem dX6_findAtom_2 : decode cX6_findAtom 2 = .ok (.iload_n 2, 1) := by decide +kernel
theorem dX6_findAtom_3 : decode cX6_findAtom 3 = .ok (.aload_n 0, 1) := by decide +kernel
theorem dX6_findAtom_4 : decode cX6_findAtom 4 = .ok (.getfield 23, 3) := by decide +kernel
theorem dX6_findAtom_7 : decode cX6_findAtom 7 = .ok (.if_icmp .ge 21, 3) := by decide +kernel
theorem dX6_findAtom_10 : decode cX6_findAtom 10 = .ok (.aload_n 0, 1) := by decide +kernel
theorem dX6_findAtom_11 : decode cX6_findAtom 11 = .ok (.getfield 9, 3) := by decide +kernel
theorem dX6_findAtom_14 : decode cX6_findAtom 14 = .ok (.iload_n 2, 1) := by decide +kernel
theorem dX6_findAtom_15 : decode cX6_findAtom 15 = .ok (.iaload, 1) := by decide +kernel
theorem dX6_findAtom_16 : decode cX6_findAtom 16 = .ok (.iload_n 1, 1) := by decide +kernel
theorem dX6_findAtom_17 : decode cX6_findAtom 17 = .ok (.if_icmp .ne 5, 3) := by decide +kernel
theorem dX6_findAtom_20 : decode cX6_findAtom 20 = .ok (.iload_n 2, 1) := by decide +kernel
theorem dX6_findAtom_21 : decode cX6_findAtom 21 = .ok (.ireturn, 1) := by decide +kernel
theorem dX6_findAtom_22 : decode cX6_findAtom 22 = .ok (.iinc 2 1, 3) := by decide +kernel
theorem dX6_findAtom_25 : decode cX6_findAtom 25 = .ok (.goto (-23), 3) := by decide +kernel
theorem dX6_findAtom_28 : decode cX6_findAtom 28 = .ok (.iconst (-1), 1) := by decide +kernel
theorem dX6_findAtom_29 : decode cX6_findAtom 29 = .ok (.ireturn, 1) := by decide +kernel
theorem dX6_addAtom_0 : decode cX6_addAtom 0 = .ok (.aload_n 0, 1) := by decide +kernel
theorem dX6_addAtom_1 : decode cX6_addAtom 1 = .ok (.getfield 9, 3) := by decide +kernel
theorem dX6_addAtom_4 : decode cX6_addAtom 4 = .ok (.aload_n 0, 1) := by decide +kernel
theorem dX6_addAtom_5 : decode cX6_addAtom 5 = .ok (.getfield 23, 3) := by decide +kernel
theorem dX6_addAtom_8 : decode cX6_addAtom 8 = .ok (.iload_n 1, 1) := by decide +kernel
theorem dX6_addAtom_9 : decode cX6_addAtom 9 = .ok (.iastore, 1) := by decide +kernel
theorem dX6_addAtom_10 : decode cX6_addAtom 10 = .ok (.aload_n 0, 1) := by decide +kernel
theorem dX6_addAtom_11 : decode cX6_addAtom 11 = .ok (.dup, 1) := by decide +kernel
theorem dX6_addAtom_12 : decode cX6_addAtom 12 = .ok (.getfield 23, 3) := by decide +kernel
theorem dX6_addAtom_15 : decode cX6_addAtom 15 = .ok (.iconst 1, 1) := by decide +kernel
theorem dX6_addAtom_16 : decode cX6_addAtom 16 = .ok (.iadd, 1) := by decide +kernel
theorem dX6_addAtom_17 : decode cX6_addAtom 17 = .ok (.putfield 23, 3) := by decide +kernel
theorem dX6_addAtom_20 : decode cX6_addAtom 20 = .ok (.aload_n 0, 1) := by decide +kernel
theorem dX6_addAtom_21 : decode cX6_addAtom 21 = .ok (.getfield 23, 3) := by decide +kernel
theorem dX6_addAtom_24 : decode cX6_addAtom 24 = .ok (.iconst 1, 1) := by decide +kernel
theorem dX6_addAtom_25 : decode cX6_addAtom 25 = .ok (.isub, 1) := by decide +kernel
theorem dX6_addAtom_26 : decode cX6_addAtom 26 = .ok (.ireturn, 1) := by decide +kernel
theorem dX6_addClause_0 : decode cX6_addClause 0 = .ok (.aload_n 0, 1) := by decide +kernel
theorem dX6_addClause_1 : decode cX6_addClause 1 = .ok (.getfield 13, 3) := by decide +kernel
theorem dX6_addClause_4 : decode cX6_addClause 4 = .ok (.aload_n 0, 1) := by decide +kernel
theorem dX6_addClause_5 : decode cX6_addClause 5 = .ok (.getfield 27, 3) := by decide +kernel
theorem dX6_addClause_8 : decode cX6_addClause 8 = .ok (.iconst 3, 1) := by decide +kernel
theorem dX6_addClause_9 : decode cX6_addClause 9 = .ok (.imul, 1) := by decide +kernel
theorem dX6_addClause_10 : decode cX6_addClause 10 = .ok (.iload_n 1, 1) := by decide +kernel
theorem dX6_addClause_11 : decode cX6_addClause 11 = .ok (.iastore, 1) := by decide +kernel
theorem dX6_addClause_12 : decode cX6_addClause 12 = .ok (.aload_n 0, 1) := by decide +kernel
theorem dX6_addClause_13 : decode cX6_addClause 13 = .ok (.getfield 13, 3) := by decide +kernel
theorem dX6_addClause_16 : decode cX6_addClause 16 = .ok (.aload_n 0, 1) := by decide +kernel
theorem dX6_addClause_17 : decode cX6_addClause 17 = .ok (.getfield 27, 3) := by decide +kernel
theorem dX6_addClause_20 : decode cX6_addClause 20 = .ok (.iconst 3, 1) := by decide +kernel
theorem dX6_addClause_21 : decode cX6_addClause 21 = .ok (.imul, 1) := by decide +kernel
theorem dX6_addClause_22 : decode cX6_addClause 22 = .ok (.iconst 1, 1) := by decide +kernel
theorem dX6_addClause_23 : decode cX6_addClause 23 = .ok (.iadd, 1) := by decide +kernel
theorem dX6_addClause_24 : decode cX6_addClause 24 = .ok (.iload_n 2, 1) := by decide +kernel
theorem dX6_addClause_25 : decode cX6_addClause 25 = .ok (.iastore, 1) := by decide +kernel
theorem dX6_addClause_26 : decode cX6_addClause 26 = .ok (.aload_n 0, 1) := by decide +kernel
theorem dX6_addClause_27 : decode cX6_addClause 27 = .ok (.getfield 13, 3) := by decide +kernel
theorem dX6_addClause_30 : decode cX6_addClause 30 = .ok (.aload_n 0, 1) := by decide +kernel
theorem dX6_addClause_31 : decode cX6_addClause 31 = .ok (.getfield 27, 3) := by decide +kernel
theorem dX6_addClause_34 : decode cX6_addClause 34 = .ok (.iconst 3, 1) := by decide +kernel
theorem dX6_addClause_35 : decode cX6_addClause 35 = .ok (.imul, 1) := by decide +kernel
theorem dX6_addClause_36 : decode cX6_addClause 36 = .ok (.iconst 2, 1) := by decide +kernel
theorem dX6_addClause_37 : decode cX6_addClause 37 = .ok (.iadd, 1) := by decide +kernel
theorem dX6_addClause_38 : decode cX6_addClause 38 = .ok (.iload_n 3, 1) := by decide +kernel
theorem dX6_addClause_39 : decode cX6_addClause 39 = .ok (.iastore, 1) := by decide +kernel
theorem dX6_addClause_40 : decode cX6_addClause 40 = .ok (.aload_n 0, 1) := by decide +kernel
theorem dX6_addClause_41 : decode cX6_addClause 41 = .ok (.dup, 1) := by decide +kernel
theorem dX6_addClause_42 : decode cX6_addClause 42 = .ok (.getfield 27, 3) := by decide +kernel
theorem dX6_addClause_45 : decode cX6_addClause 45 = .ok (.iconst 1, 1) := by decide +kernel
theorem dX6_addClause_46 : decode cX6_addClause 46 = .ok (.iadd, 1) := by decide +kernel
theorem dX6_addClause_47 : decode cX6_addClause 47 = .ok (.putfield 27, 3) := by decide +kernel
theorem dX6_addClause_50 : decode cX6_addClause 50 = .ok (.aload_n 0, 1) := by decide +kernel
theorem dX6_addClause_51 : decode cX6_addClause 51 = .ok (.getfield 27, 3) := by decide +kernel
theorem dX6_addClause_54 : decode cX6_addClause 54 = .ok (.iconst 1, 1) := by decide +kernel
theorem dX6_addClause_55 : decode cX6_addClause 55 = .ok (.isub, 1) := by decide +kernel
theorem dX6_addClause_56 : decode cX6_addClause 56 = .ok (.ireturn, 1) := by decide +kernel
theorem dX6_addRule_0 : decode cX6_addRule 0 = .ok (.aload_n 0, 1) := by decide +kernel
theorem dX6_addRule_1 : decode cX6_addRule 1 = .ok (.getfield 16, 3) := by decide +kernel
theorem dX6_addRule_4 : decode cX6_addRule 4 = .ok (.aload_n 0, 1) := by decide +kernel
theorem dX6_addRule_5 : decode cX6_addRule 5 = .ok (.getfield 30, 3) := by decide +kernel
theorem dX6_addRule_8 : decode cX6_addRule 8 = .ok (.iload_n 1, 1) := by decide +kernel
theorem dX6_addRule_9 : decode cX6_addRule 9 = .ok (.castore, 1) := by decide +kernel
theorem dX6_addRule_10 : decode cX6_addRule 10 = .ok (.aload_n 0, 1) := by decide +kernel
theorem dX6_addRule_11 : decode cX6_addRule 11 = .ok (.getfield 20, 3) := by decide +kernel
theorem dX6_addRule_14 : decode cX6_addRule 14 = .ok (.aload_n 0, 1) := by decide +kernel
theorem dX6_addRule_15 : decode cX6_addRule 15 = .ok (.getfield 30, 3) := by decide +kernel
theorem dX6_addRule_18 : decode cX6_addRule 18 = .ok (.iload_n 2, 1) := by decide +kernel
theorem dX6_addRule_19 : decode cX6_addRule 19 = .ok (.iastore, 1) := by decide +kernel
theorem dX6_addRule_20 : decode cX6_addRule 20 = .ok (.aload_n 0, 1) := by decide +kernel
theorem dX6_addRule_21 : decode cX6_addRule 21 = .ok (.dup, 1) := by decide +kernel
theorem dX6_addRule_22 : decode cX6_addRule 22 = .ok (.getfield 30, 3) := by decide +kernel
theorem dX6_addRule_25 : decode cX6_addRule 25 = .ok (.iconst 1, 1) := by decide +kernel
theorem dX6_addRule_26 : decode cX6_addRule 26 = .ok (.iadd, 1) := by decide +kernel
theorem dX6_addRule_27 : decode cX6_addRule 27 = .ok (.putfield 30, 3) := by decide +kernel
theorem dX6_addRule_30 : decode cX6_addRule 30 = .ok (.aload_n 0, 1) := by decide +kernel
theorem dX6_addRule_31 : decode cX6_addRule 31 = .ok (.getfield 30, 3) := by decide +kernel
theorem dX6_addRule_34 : decode cX6_addRule 34 = .ok (.ireturn, 1) := by decide +kernel
theorem dX6_factOf_0 : decode cX6_factOf 0 = .ok (.aload_n 0, 1) := by decide +kernel
theorem dX6_factOf_1 : decode cX6_factOf 1 = .ok (.getfield 9, 3) := by decide +kernel
theorem dX6_factOf_4 : decode cX6_factOf 4 = .ok (.iload_n 1, 1) := by decide +kernel
theorem dX6_factOf_5 : decode cX6_factOf 5 = .ok (.iconst 2, 1) := by decide +kernel
theorem dX6_factOf_6 : decode cX6_factOf 6 = .ok (.idiv, 1) := by decide +kernel
theorem dX6_factOf_7 : decode cX6_factOf 7 = .ok (.iaload, 1) := by decide +kernel
theorem dX6_factOf_8 : decode cX6_factOf 8 = .ok (.istore_n 2, 1) := by decide +kernel
theorem dX6_factOf_9 : decode cX6_factOf 9 = .ok (.iload_n 1, 1) := by decide +kernel
theorem dX6_factOf_10 : decode cX6_factOf 10 = .ok (.iconst 2, 1) := by decide +kernel
theorem dX6_factOf_11 : decode cX6_factOf 11 = .ok (.irem, 1) := by decide +kernel
theorem dX6_factOf_12 : decode cX6_factOf 12 = .ok (.ifCond .ne 7, 3) := by decide +kernel
theorem dX6_factOf_15 : decode cX6_factOf 15 = .ok (.iload_n 2, 1) := by decide +kernel
theorem dX6_factOf_16 : decode cX6_factOf 16 = .ok (.goto 7, 3) := by decide +kernel
theorem dX6_factOf_19 : decode cX6_factOf 19 = .ok (.iload_n 2, 1) := by decide +kernel
theorem dX6_factOf_20 : decode cX6_factOf 20 = .ok (.invokestatic 33, 3) := by decide +kernel
theorem dX6_factOf_23 : decode cX6_factOf 23 = .ok (.ireturn, 1) := by decide +kernel
theorem dX6_allClauses_0 : decode cX6_allClauses 0 = .ok (.iconst 1, 1) := by decide +kernel
theorem dX6_allClauses_1 : decode cX6_allClauses 1 = .ok (.aload_n 0, 1) := by decide +kernel
theorem dX6_allClauses_2 : decode cX6_allClauses 2 = .ok (.getfield 27, 3) := by decide +kernel
theorem dX6_allClauses_5 : decode cX6_allClauses 5 = .ok (.ishl, 1) := by decide +kernel
theorem dX6_allClauses_6 : decode cX6_allClauses 6 = .ok (.iconst 1, 1) := by decide +kernel
theorem dX6_allClauses_7 : decode cX6_allClauses 7 = .ok (.isub, 1) := by decide +kernel
theorem dX6_allClauses_8 : decode cX6_allClauses 8 = .ok (.ireturn, 1) := by decide +kernel
theorem dX7_init_0 : decode cX7_init 0 = .ok (.aload_n 0, 1) := by decide +kernel
theorem dX7_init_1 : decode cX7_init 1 = .ok (.invokespecial 1, 3) := by decide +kernel
theorem dX7_init_4 : decode cX7_init 4 = .ok (.aload_n 0, 1) := by decide +kernel
theorem dX7_init_5 : decode cX7_init 5 = .ok (.bipush 14, 2) := by decide +kernel
theorem dX7_init_7 : decode cX7_init 7 = .ok (.newarray .char, 2) := by decide +kernel
theorem dX7_init_9 : decode cX7_init 9 = .ok (.putfield 9, 3) := by decide +kernel
theorem dX7_init_12 : decode cX7_init 12 = .ok (.aload_n 0, 1) := by decide +kernel
theorem dX7_init_13 : decode cX7_init 13 = .ok (.bipush 14, 2) := by decide +kernel
theorem dX7_init_15 : decode cX7_init 15 = .ok (.newarray .int, 2) := by decide +kernel
theorem dX7_init_17 : decode cX7_init 17 = .ok (.putfield 13, 3) := by decide +kernel
theorem dX7_init_20 : decode cX7_init 20 = .ok (.aload_n 0, 1) := by decide +kernel
theorem dX7_init_21 : decode cX7_init 21 = .ok (.bipush 14, 2) := by decide +kernel
theorem dX7_init_23 : decode cX7_init 23 = .ok (.newarray .int, 2) := by decide +kernel
theorem dX7_init_25 : decode cX7_init 25 = .ok (.putfield 17, 3) := by decide +kernel
theorem dX7_init_28 : decode cX7_init 28 = .ok (.aload_n 0, 1) := by decide +kernel
theorem dX7_init_29 : decode cX7_init 29 = .ok (.bipush 14, 2) := by decide +kernel
theorem dX7_init_31 : decode cX7_init 31 = .ok (.newarray .int, 2) := by decide +kernel
theorem dX7_init_33 : decode cX7_init 33 = .ok (.putfield 20, 3) := by decide +kernel
theorem dX7_init_36 : decode cX7_init 36 = .ok (.aload_n 0, 1) := by decide +kernel
theorem dX7_init_37 : decode cX7_init 37 = .ok (.bipush 14, 2) := by decide +kernel
theorem dX7_init_39 : decode cX7_init 39 = .ok (.newarray .int, 2) := by decide +kernel
theorem dX7_init_41 : decode cX7_init 41 = .ok (.putfield 23, 3) := by decide +kernel
theorem dX7_init_44 : decode cX7_init 44 = .ok (.return_, 1) := by decide +kernel
theorem dX7_isFull_0 : decode cX7_isFull 0 = .ok (.aload_n 0, 1) := by decide +kernel
theorem dX7_isFull_1 : decode cX7_isFull 1 = .ok (.getfield 26, 3) := by decide +kernel
theorem dX7_isFull_4 : decode cX7_isFull 4 = .ok (.bipush 14, 2) := by decide +kernel
theorem dX7_isFull_6 : decode cX7_isFull 6 = .ok (.if_icmp .lt 7, 3) := by decide +kernel
theorem dX7_isFull_9 : decode cX7_isFull 9 = .ok (.iconst 1, 1) := by decide +kernel
theorem dX7_isFull_10 : decode cX7_isFull 10 = .ok (.goto 4, 3) := by decide +kernel
theorem dX7_isFull_13 : decode cX7_isFull 13 = .ok (.iconst 0, 1) := by decide +kernel
theorem dX7_isFull_14 : decode cX7_isFull 14 = .ok (.ireturn, 1) := by decide +kernel
theorem dX7_isTerm_0 : decode cX7_isTerm 0 = .ok (.iload_n 1, 1) := by decide +kernel
theorem dX7_isTerm_1 : decode cX7_isTerm 1 = .ok (.ifCond .lt 15, 3) := by decide +kernel
theorem dX7_isTerm_4 : decode cX7_isTerm 4 = .ok (.iload_n 1, 1) := by decide +kernel
theorem dX7_isTerm_5 : decode cX7_isTerm 5 = .ok (.aload_n 0, 1) := by decide +kernel
theorem dX7_isTerm_6 : decode cX7_isTerm 6 = .ok (.getfield 26, 3) := by decide +kernel
theorem dX7_isTerm_9 : decode cX7_isTerm 9 = .ok (.if_icmp .ge 7, 3) := by decide +kernel
theorem dX7_isTerm_12 : decode cX7_isTerm 12 = .ok (.iconst 1, 1) := by decide +kernel
theorem dX7_isTerm_13 : decode cX7_isTerm 13 = .ok (.goto 4, 3) := by decide +kernel
theorem dX7_isTerm_16 : decode cX7_isTerm 16 = .ok (.iconst 0, 1) := by decide +kernel
theorem dX7_isTerm_17 : decode cX7_isTerm 17 = .ok (.ireturn, 1) := by decide +kernel
theorem dX7_isArray_0 : decode cX7_isArray 0 = .ok (.aload_n 0, 1) := by decide +kernel
theorem dX7_isArray_1 : decode cX7_isArray 1 = .ok (.iload_n 1, 1) := by decide +kernel
theorem dX7_isArray_2 : decode cX7_isArray 2 = .ok (.invokevirtual 30, 3) := by decide +kernel
theorem dX7_isArray_5 : decode cX7_isArray 5 = .ok (.ifCond .eq 29, 3) := by decide +kernel
theorem dX7_isArray_8 : decode cX7_isArray 8 = .ok (.aload_n 0, 1) := by decide +kernel
theorem dX7_isArray_9 : decode cX7_isArray 9 = .ok (.getfield 9, 3) := by decide +kernel
theorem dX7_isArray_12 : decode cX7_isArray 12 = .ok (.iload_n 1, 1) := by decide +kernel
theorem dX7_isArray_13 : decode cX7_isArray 13 = .ok (.caload, 1) := by decide +kernel
theorem dX7_isArray_14 : decode cX7_isArray 14 = .ok (.bipush 97, 2) := by decide +kernel
theorem dX7_isArray_16 : decode cX7_isArray 16 = .ok (.if_icmp .eq 14, 3) := by decide +kernel
theorem dX7_isArray_19 : decode cX7_isArray 19 = .ok (.aload_n 0, 1) := by decide +kernel
theorem dX7_isArray_20 : decode cX7_isArray 20 = .ok (.getfield 9, 3) := by decide +kernel
theorem dX7_isArray_23 : decode cX7_isArray 23 = .ok (.iload_n 1, 1) := by decide +kernel
theorem dX7_isArray_24 : decode cX7_isArray 24 = .ok (.caload, 1) := by decide +kernel
theorem dX7_isArray_25 : decode cX7_isArray 25 = .ok (.bipush 119, 2) := by decide +kernel
theorem dX7_isArray_27 : decode cX7_isArray 27 = .ok (.if_icmp .ne 7, 3) := by decide +kernel
theorem dX7_isArray_30 : decode cX7_isArray 30 = .ok (.iconst 1, 1) := by decide +kernel
theorem dX7_isArray_31 : decode cX7_isArray 31 = .ok (.goto 4, 3) := by decide +kernel
theorem dX7_isArray_34 : decode cX7_isArray 34 = .ok (.iconst 0, 1) := by decide +kernel
theorem dX7_isArray_35 : decode cX7_isArray 35 = .ok (.ireturn, 1) := by decide +kernel
theorem dX7_isValue_0 : decode cX7_isValue 0 = .ok (.aload_n 0, 1) := by decide +kernel
theorem dX7_isValue_1 : decode cX7_isValue 1 = .ok (.iload_n 1, 1) := by decide +kernel
theorem dX7_isValue_2 : decode cX7_isValue 2 = .ok (.invokevirtual 30, 3) := by decide +kernel
theorem dX7_isValue_5 : decode cX7_isValue 5 = .ok (.ifCond .eq 29, 3) := by decide +kernel
theorem dX7_isValue_8 : decode cX7_isValue 8 = .ok (.aload_n 0, 1) := by decide +kernel
theorem dX7_isValue_9 : decode cX7_isValue 9 = .ok (.getfield 9, 3) := by decide +kernel
theorem dX7_isValue_12 : decode cX7_isValue 12 = .ok (.iload_n 1, 1) := by decide +kernel
theorem dX7_isValue_13 : decode cX7_isValue 13 = .ok (.caload, 1) := by decide +kernel
theorem dX7_isValue_14 : decode cX7_isValue 14 = .ok (.bipush 97, 2) := by decide +kernel
theorem dX7_isValue_16 : decode cX7_isValue 16 = .ok (.if_icmp .eq 18, 3) := by decide +kernel
theorem dX7_isValue_19 : decode cX7_isValue 19 = .ok (.aload_n 0, 1) := by decide +kernel
theorem dX7_isValue_20 : decode cX7_isValue 20 = .ok (.getfield 9, 3) := by decide +kernel
theorem dX7_isValue_23 : decode cX7_isValue 23 = .ok (.iload_n 1, 1) := by decide +kernel
theorem dX7_isValue_24 : decode cX7_isValue 24 = .ok (.caload, 1) := by decide +kernel
theorem dX7_isValue_25 : decode cX7_isValue 25 = .ok (.bipush 119, 2) := by decide +kernel
theorem dX7_isValue_27 : decode cX7_isValue 27 = .ok (.if_icmp .eq 7, 3) := by decide +kernel
theorem dX7_isValue_30 : decode cX7_isValue 30 = .ok (.iconst 1, 1) := by decide +kernel
theorem dX7_isValue_31 : decode cX7_isValue 31 = .ok (.goto 4, 3) := by decide +kernel
theorem dX7_isValue_34 : decode cX7_isValue 34 = .ok (.iconst 0, 1) := by decide +kernel
theorem dX7_isValue_35 : decode cX7_isValue 35 = .ok (.ireturn, 1) := by decide +kernel
theorem dX7_find_0 : decode cX7_find 0 = .ok (.iconst 0, 1) := by decide +kernel
theorem dX7_find_1 : decode cX7_find 1 = .ok (.istore 6, 2) := by decide +kernel
theorem dX7_find_3 : decode cX7_find 3 = .ok (.iload 6, 2) := by decide +kernel
theorem dX7_find_5 : decode cX7_find 5 = .ok (.aload_n 0, 1) := by decide +kernel
theorem dX7_find_6 : decode cX7_find 6 = .ok (.getfield 26, 3) := by decide +kernel
theorem dX7_find_9 : decode cX7_find 9 = .ok (.if_icmp .ge 81, 3) := by decide +kernel
theorem dX7_find_12 : decode cX7_find 12 = .ok (.aload_n 0, 1) := by decide +kernel
theorem dX7_find_13 : decode cX7_find 13 = .ok (.getfield 17, 3) := by decide +kernel
theorem dX7_find_16 : decode cX7_find 16 = .ok (.iload 6, 2) := by decide +kernel
theorem dX7_find_18 : decode cX7_find 18 = .ok (.iaload, 1) := by decide +kernel
theorem dX7_find_19 : decode cX7_find 19 = .ok (.iload_n 3, 1) := by decide +kernel
theorem dX7_find_20 : decode cX7_find 20 = .ok (.if_icmp .ne 31, 3) := by decide +kernel
theorem dX7_find_23 : decode cX7_find 23 = .ok (.aload_n 0, 1) := by decide +kernel
theorem dX7_find_24 : decode cX7_find 24 = .ok (.getfield 20, 3) := by decide +kernel
theorem dX7_find_27 : decode cX7_find 27 = .ok (.iload 6, 2) := by decide +kernel
theorem dX7_find_29 : decode cX7_find 29 = .ok (.iaload, 1) := by decide +kernel
theorem dX7_find_30 : decode cX7_find 30 = .ok (.iload 4, 2) := by decide +kernel
theorem dX7_find_32 : decode cX7_find 32 = .ok (.if_icmp .ne 19, 3) := by decide +kernel
theorem dX7_find_35 : decode cX7_find 35 = .ok (.aload_n 0, 1) := by decide +kernel
theorem dX7_find_36 : decode cX7_find 36 = .ok (.getfield 23, 3) := by decide +kernel
theorem dX7_find_39 : decode cX7_find 39 = .ok (.iload 6, 2) := by decide +kernel
theorem dX7_find_41 : decode cX7_find 41 = .ok (.iaload, 1) := by decide +kernel
theorem dX7_find_42 : decode cX7_find 42 = .ok (.iload 5, 2) := by decide +kernel
theorem dX7_find_44 : decode cX7_find 44 = .ok (.if_icmp .ne 7, 3) := by decide +kernel
theorem dX7_find_47 : decode cX7_find 47 = .ok (.iconst 1, 1) := by decide +kernel
theorem dX7_find_48 : decode cX7_find 48 = .ok (.goto 4, 3) := by decide +kernel
theorem dX7_find_51 : decode cX7_find 51 = .ok (.iconst 0, 1) := by decide +kernel
theorem dX7_find_52 : decode cX7_find 52 = .ok (.istore 7, 2) := by decide +kernel
theorem dX7_find_54 : decode cX7_find 54 = .ok (.iload 7, 2) := by decide +kernel
theorem dX7_find_56 : decode cX7_find 56 = .ok (.ifCond .eq 28, 3) := by decide +kernel
theorem dX7_find_59 : decode cX7_find 59 = .ok (.aload_n 0, 1) := by decide +kernel
theorem dX7_find_60 : decode cX7_find 60 = .ok (.getfield 9, 3) := by decide +kernel
theorem dX7_find_63 : decode cX7_find 63 = .ok (.iload 6, 2) := by decide +kernel
theorem dX7_find_65 : decode cX7_find 65 = .ok (.caload, 1) := by decide +kernel
theorem dX7_find_66 : decode cX7_find 66 = .ok (.iload_n 1, 1) := by decide +kernel
theorem dX7_find_67 : decode cX7_find 67 = .ok (.if_icmp .ne 17, 3) := by decide +kernel
theorem dX7_find_70 : decode cX7_find 70 = .ok (.aload_n 0, 1) := by decide +kernel
theorem dX7_find_71 : decode cX7_find 71 = .ok (.getfield 13, 3) := by decide +kernel
theorem dX7_find_74 : decode cX7_find 74 = .ok (.iload 6, 2) := by decide +kernel
theorem dX7_find_76 : decode cX7_find 76 = .ok (.iaload, 1) := by decide +kernel
theorem dX7_find_77 : decode cX7_find 77 = .ok (.iload_n 2, 1) := by decide +kernel
theorem dX7_find_78 : decode cX7_find 78 = .ok (.if_icmp .ne 6, 3) := by decide +kernel
theorem dX7_find_81 : decode cX7_find 81 = .ok (.iload 6, 2) := by decide +kernel
theorem dX7_find_83 : decode cX7_find 83 = .ok (.ireturn, 1) := by decide +kernel
theorem dX7_find_84 : decode cX7_find 84 = .ok (.iinc 6 1, 3) := by decide +kernel
theorem dX7_find_87 : decode cX7_find 87 = .ok (.goto (-84), 3) := by decide +kernel
theorem dX7_find_90 : decode cX7_find 90 = .ok (.iconst (-1), 1) := by decide +kernel
theorem dX7_find_91 : decode cX7_find 91 = .ok (.ireturn, 1) := by decide +kernel
theorem dX7_add_0 : decode cX7_add 0 = .ok (.aload_n 0, 1) := by decide +kernel
theorem dX7_add_1 : decode cX7_add 1 = .ok (.getfield 9, 3) := by decide +kernel
theorem dX7_add_4 : decode cX7_add 4 = .ok (.aload_n 0, 1) := by decide +kernel
theorem dX7_add_5 : decode cX7_add 5 = .ok (.getfield 26, 3) := by decide +kernel
theorem dX7_add_8 : decode cX7_add 8 = .ok (.iload_n 1, 1) := by decide +kernel
theorem dX7_add_9 : decode cX7_add 9 = .ok (.castore, 1) := by decide +kernel
theorem dX7_add_10 : decode cX7_add 10 = .ok (.aload_n 0, 1) := by decide +kernel
theorem dX7_add_11 : decode cX7_add 11 = .ok (.getfield 13, 3) := by decide +kernel
theorem dX7_add_14 : decode cX7_add 14 = .ok (.aload_n 0, 1) := by decide +kernel
theorem dX7_add_15 : decode cX7_add 15 = .ok (.getfield 26, 3) := by decide +kernel
theorem dX7_add_18 : decode cX7_add 18 = .ok (.iload_n 2, 1) := by decide +kernel
theorem dX7_add_19 : decode cX7_add 19 = .ok (.iastore, 1) := by decide +kernel
theorem dX7_add_20 : decode cX7_add 20 = .ok (.aload_n 0, 1) := by decide +kernel
theorem dX7_add_21 : decode cX7_add 21 = .ok (.getfield 17, 3) := by decide +kernel
theorem dX7_add_24 : decode cX7_add 24 = .ok (.aload_n 0, 1) := by decide +kernel
theorem dX7_add_25 : decode cX7_add 25 = .ok (.getfield 26, 3) := by decide +kernel
theorem dX7_add_28 : decode cX7_add 28 = .ok (.iload_n 3, 1) := by decide +kernel
theorem dX7_add_29 : decode cX7_add 29 = .ok (.iastore, 1) := by decide +kernel
theorem dX7_add_30 : decode cX7_add 30 = .ok (.aload_n 0, 1) := by decide +kernel
theorem dX7_add_31 : decode cX7_add 31 = .ok (.getfield 20, 3) := by decide +kernel
theorem dX7_add_34 : decode cX7_add 34 = .ok (.aload_n 0, 1) := by decide +kernel
theorem dX7_add_35 : decode cX7_add 35 = .ok (.getfield 26, 3) := by decide +kernel
theorem dX7_add_38 : decode cX7_add 38 = .ok (.iload 4, 2) := by decide +kernel
theorem dX7_add_40 : decode cX7_add 40 = .ok (.iastore, 1) := by decide +kernel
theorem dX7_add_41 : decode cX7_add 41 = .ok (.aload_n 0, 1) := by decide +kernel
theorem dX7_add_42 : decode cX7_add 42 = .ok (.getfield 23, 3) := by decide +kernel
theorem dX7_add_45 : decode cX7_add 45 = .ok (.aload_n 0, 1) := by decide +kernel
theorem dX7_add_46 : decode cX7_add 46 = .ok (.getfield 26, 3) := by decide +kernel
theorem dX7_add_49 : decode cX7_add 49 = .ok (.iload 5, 2) := by decide +kernel
theorem dX7_add_51 : decode cX7_add 51 = .ok (.iastore, 1) := by decide +kernel
theorem dX7_add_52 : decode cX7_add 52 = .ok (.aload_n 0, 1) := by decide +kernel
theorem dX7_add_53 : decode cX7_add 53 = .ok (.dup, 1) := by decide +kernel
theorem dX7_add_54 : decode cX7_add 54 = .ok (.getfield 26, 3) := by decide +kernel
theorem dX7_add_57 : decode cX7_add 57 = .ok (.iconst 1, 1) := by decide +kernel
theorem dX7_add_58 : decode cX7_add 58 = .ok (.iadd, 1) := by decide +kernel
theorem dX7_add_59 : decode cX7_add 59 = .ok (.putfield 26, 3) := by decide +kernel
theorem dX7_add_62 : decode cX7_add 62 = .ok (.aload_n 0, 1) := by decide +kernel
theorem dX7_add_63 : decode cX7_add 63 = .ok (.getfield 26, 3) := by decide +kernel
theorem dX7_add_66 : decode cX7_add 66 = .ok (.iconst 1, 1) := by decide +kernel
theorem dX7_add_67 : decode cX7_add 67 = .ok (.isub, 1) := by decide +kernel
theorem dX7_add_68 : decode cX7_add 68 = .ok (.ireturn, 1) := by decide +kernel
theorem dX7_origin_0 : decode cX7_origin 0 = .ok (.iload_n 1, 1) := by decide +kernel
theorem dX7_origin_1 : decode cX7_origin 1 = .ok (.istore_n 2, 1) := by decide +kernel
theorem dX7_origin_2 : decode cX7_origin 2 = .ok (.iconst 0, 1) := by decide +kernel
theorem dX7_origin_3 : decode cX7_origin 3 = .ok (.istore_n 3, 1) := by decide +kernel
theorem dX7_origin_4 : decode cX7_origin 4 = .ok (.iload_n 3, 1) := by decide +kernel
theorem dX7_origin_5 : decode cX7_origin 5 = .ok (.aload_n 0, 1) := by decide +kernel
theorem dX7_origin_6 : decode cX7_origin 6 = .ok (.getfield 26, 3) := by decide +kernel
theorem dX7_origin_9 : decode cX7_origin 9 = .ok (.if_icmp .ge 27, 3) := by decide +kernel
theorem dX7_origin_12 : decode cX7_origin 12 = .ok (.aload_n 0, 1) := by decide +kernel
theorem dX7_origin_13 : decode cX7_origin 13 = .ok (.getfield 9, 3) := by decide +kernel
theorem dX7_origin_16 : decode cX7_origin 16 = .ok (.iload_n 2, 1) := by decide +kernel
theorem dX7_origin_17 : decode cX7_origin 17 = .ok (.caload, 1) := by decide +kernel
theorem dX7_origin_18 : decode cX7_origin 18 = .ok (.bipush 119, 2) := by decide +kernel
theorem dX7_origin_20 : decode cX7_origin 20 = .ok (.if_icmp .ne 16, 3) := by decide +kernel
theorem dX7_origin_23 : decode cX7_origin 23 = .ok (.aload_n 0, 1) := by decide +kernel
theorem dX7_origin_24 : decode cX7_origin 24 = .ok (.getfield 17, 3) := by decide +kernel
theorem dX7_origin_27 : decode cX7_origin 27 = .ok (.iload_n 2, 1) := by decide +kernel
theorem dX7_origin_28 : decode cX7_origin 28 = .ok (.iaload, 1) := by decide +kernel
theorem dX7_origin_29 : decode cX7_origin 29 = .ok (.istore_n 2, 1) := by decide +kernel
theorem dX7_origin_30 : decode cX7_origin 30 = .ok (.iinc 3 1, 3) := by decide +kernel
theorem dX7_origin_33 : decode cX7_origin 33 = .ok (.goto (-29), 3) := by decide +kernel
theorem dX7_origin_36 : decode cX7_origin 36 = .ok (.iload_n 2, 1) := by decide +kernel
theorem dX7_origin_37 : decode cX7_origin 37 = .ok (.ireturn, 1) := by decide +kernel
theorem dX7_haveOneOrigin_0 : decode cX7_haveOneOrigin 0 = .ok (.aload_n 0, 1) := by decide +kernel
theorem dX7_haveOneOrigin_1 : decode cX7_haveOneOrigin 1 = .ok (.getfield 9, 3) := by decide +kernel
theorem dX7_haveOneOrigin_4 : decode cX7_haveOneOrigin 4 = .ok (.iload_n 1, 1) := by decide +kernel
theorem dX7_haveOneOrigin_5 : decode cX7_haveOneOrigin 5 = .ok (.caload, 1) := by decide +kernel
theorem dX7_haveOneOrigin_6 : decode cX7_haveOneOrigin 6 = .ok (.bipush 114, 2) := by decide +kernel
theorem dX7_haveOneOrigin_8 : decode cX7_haveOneOrigin 8 = .ok (.if_icmp .ne 14, 3) := by decide +kernel
theorem dX7_haveOneOrigin_11 : decode cX7_haveOneOrigin 11 = .ok (.aload_n 0, 1) := by decide +kernel
theorem dX7_haveOneOrigin_12 : decode cX7_haveOneOrigin 12 = .ok (.getfield 9, 3) := by decide +kernel
theorem dX7_haveOneOrigin_15 : decode cX7_haveOneOrigin 15 = .ok (.iload_n 2, 1) := by decide +kernel
theorem dX7_haveOneOrigin_16 : decode cX7_haveOneOrigin 16 = .ok (.caload, 1) := by decide +kernel
theorem dX7_haveOneOrigin_17 : decode cX7_haveOneOrigin 17 = .ok (.bipush 114, 2) := by decide +kernel
theorem dX7_haveOneOrigin_19 : decode cX7_haveOneOrigin 19 = .ok (.if_icmp .eq 5, 3) := by decide +kernel
theorem dX7_haveOneOrigin_22 : decode cX7_haveOneOrigin 22 = .ok (.iconst 0, 1) := by decide +kernel
theorem dX7_haveOneOrigin_23 : decode cX7_haveOneOrigin 23 = .ok (.ireturn, 1) := by decide +kernel
theorem dX7_haveOneOrigin_24 : decode cX7_haveOneOrigin 24 = .ok (.aload_n 0, 1) := by decide +kernel
theorem dX7_haveOneOrigin_25 : decode cX7_haveOneOrigin 25 = .ok (.aload_n 0, 1) := by decide +kernel
theorem dX7_haveOneOrigin_26 : decode cX7_haveOneOrigin 26 = .ok (.getfield 17, 3) := by decide +kernel
theorem dX7_haveOneOrigin_29 : decode cX7_haveOneOrigin 29 = .ok (.iload_n 1, 1) := by decide +kernel
theorem dX7_haveOneOrigin_30 : decode cX7_haveOneOrigin 30 = .ok (.iaload, 1) := by decide +kernel
theorem dX7_haveOneOrigin_31 : decode cX7_haveOneOrigin 31 = .ok (.invokevirtual 34, 3) := by decide +kernel
theorem dX7_haveOneOrigin_34 : decode cX7_haveOneOrigin 34 = .ok (.aload_n 0, 1) := by decide +kernel
theorem dX7_haveOneOrigin_35 : decode cX7_haveOneOrigin 35 = .ok (.aload_n 0, 1) := by decide +kernel
theorem dX7_haveOneOrigin_36 : decode cX7_haveOneOrigin 36 = .ok (.getfield 17, 3) := by decide +kernel
theorem dX7_haveOneOrigin_39 : decode cX7_haveOneOrigin 39 = .ok (.iload_n 2, 1) := by decide +kernel
theorem dX7_haveOneOrigin_40 : decode cX7_haveOneOrigin 40 = .ok (.iaload, 1) := by decide +kernel
theorem dX7_haveOneOrigin_41 : decode cX7_haveOneOrigin 41 = .ok (.invokevirtual 34, 3) := by decide +kernel
theorem dX7_haveOneOrigin_44 : decode cX7_haveOneOrigin 44 = .ok (.if_icmp .ne 7, 3) := by decide +kernel
theorem dX7_haveOneOrigin_47 : decode cX7_haveOneOrigin 47 = .ok (.iconst 1, 1) := by decide +kernel
theorem dX7_haveOneOrigin_48 : decode cX7_haveOneOrigin 48 = .ok (.goto 4, 3) := by decide +kernel
theorem dX7_haveOneOrigin_51 : decode cX7_haveOneOrigin 51 = .ok (.iconst 0, 1) := by decide +kernel
theorem dX7_haveOneOrigin_52 : decode cX7_haveOneOrigin 52 = .ok (.ireturn, 1) := by decide +kernel
theorem dX7_isOfFunction_0 : decode cX7_isOfFunction 0 = .ok (.aload_n 0, 1) := by decide +kernel
theorem dX7_isOfFunction_1 : decode cX7_isOfFunction 1 = .ok (.getfield 9, 3) := by decide +kernel
theorem dX7_isOfFunction_4 : decode cX7_isOfFunction 4 = .ok (.iload_n 1, 1) := by decide +kernel
theorem dX7_isOfFunction_5 : decode cX7_isOfFunction 5 = .ok (.caload, 1) := by decide +kernel
theorem dX7_isOfFunction_6 : decode cX7_isOfFunction 6 = .ok (.bipush 102, 2) := by decide +kernel
theorem dX7_isOfFunction_8 : decode cX7_isOfFunction 8 = .ok (.if_icmp .ne 17, 3) := by decide +kernel
theorem dX7_isOfFunction_11 : decode cX7_isOfFunction 11 = .ok (.aload_n 0, 1) := by decide +kernel
theorem dX7_isOfFunction_12 : decode cX7_isOfFunction 12 = .ok (.getfield 13, 3) := by decide +kernel
theorem dX7_isOfFunction_15 : decode cX7_isOfFunction 15 = .ok (.iload_n 1, 1) := by decide +kernel
theorem dX7_isOfFunction_16 : decode cX7_isOfFunction 16 = .ok (.iaload, 1) := by decide +kernel
theorem dX7_isOfFunction_17 : decode cX7_isOfFunction 17 = .ok (.iload_n 2, 1) := by decide +kernel
theorem dX7_isOfFunction_18 : decode cX7_isOfFunction 18 = .ok (.if_icmp .ne 7, 3) := by decide +kernel
theorem dX7_isOfFunction_21 : decode cX7_isOfFunction 21 = .ok (.iconst 1, 1) := by decide +kernel
theorem dX7_isOfFunction_22 : decode cX7_isOfFunction 22 = .ok (.goto 4, 3) := by decide +kernel
theorem dX7_isOfFunction_25 : decode cX7_isOfFunction 25 = .ok (.iconst 0, 1) := by decide +kernel
theorem dX7_isOfFunction_26 : decode cX7_isOfFunction 26 = .ok (.ireturn, 1) := by decide +kernel
theorem dX8_init_0 : decode cX8_init 0 = .ok (.aload_n 0, 1) := by decide +kernel
theorem dX8_init_1 : decode cX8_init 1 = .ok (.invokespecial 1, 3) := by decide +kernel
theorem dX8_init_4 : decode cX8_init 4 = .ok (.aload_n 0, 1) := by decide +kernel
theorem dX8_init_5 : decode cX8_init 5 = .ok (.new 7, 3) := by decide +kernel
theorem dX8_init_8 : decode cX8_init 8 = .ok (.dup, 1) := by decide +kernel
theorem dX8_init_9 : decode cX8_init 9 = .ok (.invokespecial 9, 3) := by decide +kernel
theorem dX8_init_12 : decode cX8_init 12 = .ok (.putfield 10, 3) := by decide +kernel
theorem dX8_init_15 : decode cX8_init 15 = .ok (.aload_n 0, 1) := by decide +kernel
theorem dX8_init_16 : decode cX8_init 16 = .ok (.new 16, 3) := by decide +kernel
theorem dX8_init_19 : decode cX8_init 19 = .ok (.dup, 1) := by decide +kernel
theorem dX8_init_20 : decode cX8_init 20 = .ok (.invokespecial 18, 3) := by decide +kernel
theorem dX8_init_23 : decode cX8_init 23 = .ok (.putfield 19, 3) := by decide +kernel
theorem dX8_init_26 : decode cX8_init 26 = .ok (.aload_n 0, 1) := by decide +kernel
theorem dX8_init_27 : decode cX8_init 27 = .ok (.new 23, 3) := by decide +kernel
theorem dX8_init_30 : decode cX8_init 30 = .ok (.dup, 1) := by decide +kernel
theorem dX8_init_31 : decode cX8_init 31 = .ok (.aload_n 0, 1) := by decide +kernel
theorem dX8_init_32 : decode cX8_init 32 = .ok (.getfield 10, 3) := by decide +kernel
theorem dX8_init_35 : decode cX8_init 35 = .ok (.aload_n 0, 1) := by decide +kernel
theorem dX8_init_36 : decode cX8_init 36 = .ok (.getfield 19, 3) := by decide +kernel
theorem dX8_init_39 : decode cX8_init 39 = .ok (.invokespecial 25, 3) := by decide +kernel
theorem dX8_init_42 : decode cX8_init 42 = .ok (.putfield 28, 3) := by decide +kernel
theorem dX8_init_45 : decode cX8_init 45 = .ok (.aload_n 0, 1) := by decide +kernel
theorem dX8_init_46 : decode cX8_init 46 = .ok (.new 32, 3) := by decide +kernel
theorem dX8_init_49 : decode cX8_init 49 = .ok (.dup, 1) := by decide +kernel
theorem dX8_init_50 : decode cX8_init 50 = .ok (.aload_n 0, 1) := by decide +kernel
theorem dX8_init_51 : decode cX8_init 51 = .ok (.getfield 10, 3) := by decide +kernel
theorem dX8_init_54 : decode cX8_init 54 = .ok (.aload_n 0, 1) := by decide +kernel
theorem dX8_init_55 : decode cX8_init 55 = .ok (.getfield 19, 3) := by decide +kernel
theorem dX8_init_58 : decode cX8_init 58 = .ok (.aload_n 0, 1) := by decide +kernel
theorem dX8_init_59 : decode cX8_init 59 = .ok (.getfield 28, 3) := by decide +kernel
theorem dX8_init_62 : decode cX8_init 62 = .ok (.getfield 34, 3) := by decide +kernel
theorem dX8_init_65 : decode cX8_init 65 = .ok (.invokespecial 38, 3) := by decide +kernel
theorem dX8_init_68 : decode cX8_init 68 = .ok (.putfield 41, 3) := by decide +kernel
theorem dX8_init_71 : decode cX8_init 71 = .ok (.aload_n 0, 1) := by decide +kernel
theorem dX8_init_72 : decode cX8_init 72 = .ok (.bipush 6, 2) := by decide +kernel
theorem dX8_init_74 : decode cX8_init 74 = .ok (.newarray .int, 2) := by decide +kernel
theorem dX8_init_76 : decode cX8_init 76 = .ok (.putfield 45, 3) := by decide +kernel
theorem dX8_init_79 : decode cX8_init 79 = .ok (.aload_n 0, 1) := by decide +kernel
theorem dX8_init_80 : decode cX8_init 80 = .ok (.bipush 6, 2) := by decide +kernel
theorem dX8_init_82 : decode cX8_init 82 = .ok (.newarray .int, 2) := by decide +kernel
theorem dX8_init_84 : decode cX8_init 84 = .ok (.putfield 48, 3) := by decide +kernel
theorem dX8_init_87 : decode cX8_init 87 = .ok (.aload_n 0, 1) := by decide +kernel
theorem dX8_init_88 : decode cX8_init 88 = .ok (.bipush 6, 2) := by decide +kernel
theorem dX8_init_90 : decode cX8_init 90 = .ok (.newarray .int, 2) := by decide +kernel
theorem dX8_init_92 : decode cX8_init 92 = .ok (.putfield 51, 3) := by decide +kernel
theorem dX8_init_95 : decode cX8_init 95 = .ok (.aload_n 0, 1) := by decide +kernel
theorem dX8_init_96 : decode cX8_init 96 = .ok (.bipush 6, 2) := by decide +kernel
theorem dX8_init_98 : decode cX8_init 98 = .ok (.newarray .int, 2) := by decide +kernel
theorem dX8_init_100 : decode cX8_init 100 = .ok (.putfield 54, 3) := by decide +kernel
theorem dX8_init_103 : decode cX8_init 103 = .ok (.return_, 1) := by decide +kernel
theorem dX8_constant_0 : decode cX8_constant 0 = .ok (.aload_n 0, 1) := by decide +kernel
theorem dX8_constant_1 : decode cX8_constant 1 = .ok (.getfield 10, 3) := by decide +kernel
theorem dX8_constant_4 : decode cX8_constant 4 = .ok (.invokevirtual 57, 3) := by decide +kernel
theorem dX8_constant_7 : decode cX8_constant 7 = .ok (.ifCond .eq 11, 3) := by decide +kernel
theorem dX8_constant_10 : decode cX8_constant 10 = .ok (.new 61, 3) := by decide +kernel
theorem dX8_constant_13 : decode cX8_constant 13 = .ok (.dup, 1) := by decide +kernel
theorem dX8_constant_14 : decode cX8_constant 14 = .ok (.invokespecial 63, 3) := by decide +kernel
theorem dX8_constant_17 : decode cX8_constant 17 = .ok (.athrow, 1) := by decide +kernel
theorem dX8_constant_18 : decode cX8_constant 18 = .ok (.aload_n 0, 1) := by decide +kernel
theorem dX8_constant_19 : decode cX8_constant 19 = .ok (.getfield 28, 3) := by decide +kernel
theorem dX8_constant_22 : decode cX8_constant 22 = .ok (.invokevirtual 64, 3) := by decide +kernel
theorem dX8_constant_25 : decode cX8_constant 25 = .ok (.aload_n 0, 1) := by decide +kernel
theorem dX8_constant_26 : decode cX8_constant 26 = .ok (.getfield 10, 3) := by decide +kernel
theorem dX8_constant_29 : decode cX8_constant 29 = .ok (.bipush 99, 2) := by decide +kernel
theorem dX8_constant_31 : decode cX8_constant 31 = .ok (.iconst (-1), 1) := by decide +kernel
theorem dX8_constant_32 : decode cX8_constant 32 = .ok (.iconst (-1), 1) := by decide +kernel
theorem dX8_constant_33 : decode cX8_constant 33 = .ok (.iconst (-1), 1) := by decide +kernel
theorem dX8_constant_34 : decode cX8_constant 34 = .ok (.iconst (-1), 1) := by decide +kernel
theorem dX8_constant_35 : decode cX8_constant 35 = .ok (.invokevirtual 67, 3) := by decide +kernel
theorem dX8_constant_38 : decode cX8_constant 38 = .ok (.ireturn, 1) := by decide +kernel
theorem dX8_array_0 : decode cX8_array 0 = .ok (.aload_n 0, 1) := by decide +kernel
theorem dX8_array_1 : decode cX8_array 1 = .ok (.getfield 10, 3) := by decide +kernel
theorem dX8_array_4 : decode cX8_array 4 = .ok (.invokevirtual 57, 3) := by decide +kernel
theorem dX8_array_7 : decode cX8_array 7 = .ok (.ifCond .eq 11, 3) := by decide +kernel
theorem dX8_array_10 : decode cX8_array 10 = .ok (.new 61, 3) := by decide +kernel
theorem dX8_array_13 : decode cX8_array 13 = .ok (.dup, 1) := by decide +kernel
theorem dX8_array_14 : decode cX8_array 14 = .ok (.invokespecial 63, 3) := by decide +kernel
theorem dX8_array_17 : decode cX8_array 17 = .ok (.athrow, 1) := by decide +kernel
theorem dX8_array_18 : decode cX8_array 18 = .ok (.aload_n 0, 1) := by decide +kernel
theorem dX8_array_19 : decode cX8_array 19 = .ok (.getfield 28, 3) := by decide +kernel
theorem dX8_array_22 : decode cX8_array 22 = .ok (.invokevirtual 64, 3) := by decide +kernel
theorem dX8_array_25 : decode cX8_array 25 = .ok (.aload_n 0, 1) := by decide +kernel
theorem dX8_array_26 : decode cX8_array 26 = .ok (.getfield 10, 3) := by decide +kernel
theorem dX8_array_29 : decode cX8_array 29 = .ok (.bipush 97, 2) := by decide +kernel
theorem dX8_array_31 : decode cX8_array 31 = .ok (.iconst (-1), 1) := by decide +kernel
theorem dX8_array_32 : decode cX8_array 32 = .ok (.iconst (-1), 1) := by decide +kernel
theorem dX8_array_33 : decode cX8_array 33 = .ok (.iconst (-1), 1) := by decide +kernel
theorem dX8_array_34 : decode cX8_array 34 = .ok (.iconst (-1), 1) := by decide +kernel
theorem dX8_array_35 : decode cX8_array 35 = .ok (.invokevirtual 67, 3) := by decide +kernel
theorem dX8_array_38 : decode cX8_array 38 = .ok (.ireturn, 1) := by decide +kernel
theorem dX8_apply_0 : decode cX8_apply 0 = .ok (.iload_n 1, 1) := by decide +kernel
theorem dX8_apply_1 : decode cX8_apply 1 = .ok (.ifCond .lt 8, 3) := by decide +kernel
theorem dX8_apply_4 : decode cX8_apply 4 = .ok (.iload_n 1, 1) := by decide +kernel
theorem dX8_apply_5 : decode cX8_apply 5 = .ok (.iconst 4, 1) := by decide +kernel
theorem dX8_apply_6 : decode cX8_apply 6 = .ok (.if_icmp .lt 11, 3) := by decide +kernel
theorem dX8_apply_9 : decode cX8_apply 9 = .ok (.new 71, 3) := by decide +kernel
theorem dX8_apply_12 : decode cX8_apply 12 = .ok (.dup, 1) := by decide +kernel
theorem dX8_apply_13 : decode cX8_apply 13 = .ok (.invokespecial 73, 3) := by decide +kernel
theorem dX8_apply_16 : decode cX8_apply 16 = .ok (.athrow, 1) := by decide +kernel
theorem dX8_apply_17 : decode cX8_apply 17 = .ok (.iload_n 1, 1) := by decide +kernel
theorem dX8_apply_18 : decode cX8_apply 18 = .ok (.iconst 2, 1) := by decide +kernel
theorem dX8_apply_19 : decode cX8_apply 19 = .ok (.if_icmp .ge 7, 3) := by decide +kernel
theorem dX8_apply_22 : decode cX8_apply 22 = .ok (.iconst 1, 1) := by decide +kernel
theorem dX8_apply_23 : decode cX8_apply 23 = .ok (.goto 4, 3) := by decide +kernel
theorem dX8_apply_26 : decode cX8_apply 26 = .ok (.iconst 0, 1) := by decide +kernel
theorem dX8_apply_27 : decode cX8_apply 27 = .ok (.istore 4, 2) := by decide +kernel
theorem dX8_apply_29 : decode cX8_apply 29 = .ok (.iload 4, 2) := by decide +kernel
theorem dX8_apply_31 : decode cX8_apply 31 = .ok (.ifCond .eq 16, 3) := by decide +kernel
theorem dX8_apply_34 : decode cX8_apply 34 = .ok (.iload_n 3, 1) := by decide +kernel
theorem dX8_apply_35 : decode cX8_apply 35 = .ok (.iconst (-1), 1) := by decide +kernel
theorem dX8_apply_36 : decode cX8_apply 36 = .ok (.if_icmp .eq 11, 3) := by decide +kernel
theorem dX8_apply_39 : decode cX8_apply 39 = .ok (.new 71, 3) := by decide +kernel
theorem dX8_apply_42 : decode cX8_apply 42 = .ok (.dup, 1) := by decide +kernel
theorem dX8_apply_43 : decode cX8_apply 43 = .ok (.invokespecial 73, 3) := by decide +kernel
theorem dX8_apply_46 : decode cX8_apply 46 = .ok (.athrow, 1) := by decide +kernel
theorem dX8_apply_47 : decode cX8_apply 47 = .ok (.aload_n 0, 1) := by decide +kernel
theorem dX8_apply_48 : decode cX8_apply 48 = .ok (.getfield 10, 3) := by decide +kernel
theorem dX8_apply_51 : decode cX8_apply 51 = .ok (.iload_n 2, 1) := by decide +kernel
theorem dX8_apply_52 : decode cX8_apply 52 = .ok (.invokevirtual 74, 3) := by decide +kernel
theorem dX8_apply_55 : decode cX8_apply 55 = .ok (.ifCond .ne 11, 3) := by decide +kernel
theorem dX8_apply_58 : decode cX8_apply 58 = .ok (.new 78, 3) := by decide +kernel
theorem dX8_apply_61 : decode cX8_apply 61 = .ok (.dup, 1) := by decide +kernel
theorem dX8_apply_62 : decode cX8_apply 62 = .ok (.invokespecial 80, 3) := by decide +kernel
theorem dX8_apply_65 : decode cX8_apply 65 = .ok (.athrow, 1) := by decide +kernel
theorem dX8_apply_66 : decode cX8_apply 66 = .ok (.iload 4, 2) := by decide +kernel
theorem dX8_apply_68 : decode cX8_apply 68 = .ok (.ifCond .ne 22, 3) := by decide +kernel
theorem dX8_apply_71 : decode cX8_apply 71 = .ok (.aload_n 0, 1) := by decide +kernel
theorem dX8_apply_72 : decode cX8_apply 72 = .ok (.getfield 10, 3) := by decide +kernel
theorem dX8_apply_75 : decode cX8_apply 75 = .ok (.iload_n 3, 1) := by decide +kernel
theorem dX8_apply_76 : decode cX8_apply 76 = .ok (.invokevirtual 74, 3) := by decide +kernel
theorem dX8_apply_79 : decode cX8_apply 79 = .ok (.ifCond .ne 11, 3) := by decide +kernel
theorem dX8_apply_82 : decode cX8_apply 82 = .ok (.new 78, 3) := by decide +kernel
theorem dX8_apply_85 : decode cX8_apply 85 = .ok (.dup, 1) := by decide +kernel
theorem dX8_apply_86 : decode cX8_apply 86 = .ok (.invokespecial 80, 3) := by decide +kernel
theorem dX8_apply_89 : decode cX8_apply 89 = .ok (.athrow, 1) := by decide +kernel
theorem dX8_apply_90 : decode cX8_apply 90 = .ok (.aload_n 0, 1) := by decide +kernel
theorem dX8_apply_91 : decode cX8_apply 91 = .ok (.getfield 10, 3) := by decide +kernel
theorem dX8_apply_94 : decode cX8_apply 94 = .ok (.bipush 102, 2) := by decide +kernel
theorem dX8_apply_96 : decode cX8_apply 96 = .ok (.iload_n 1, 1) := by decide +kernel
theorem dX8_apply_97 : decode cX8_apply 97 = .ok (.iload_n 2, 1) := by decide +kernel
theorem dX8_apply_98 : decode cX8_apply 98 = .ok (.iload_n 3, 1) := by decide +kernel
theorem dX8_apply_99 : decode cX8_apply 99 = .ok (.iconst (-1), 1) := by decide +kernel
theorem dX8_apply_100 : decode cX8_apply 100 = .ok (.invokevirtual 81, 3) := by decide +kernel
theorem dX8_apply_103 : decode cX8_apply 103 = .ok (.istore 5, 2) := by decide +kernel
theorem dX8_apply_105 : decode cX8_apply 105 = .ok (.iload 5, 2) := by decide +kernel
theorem dX8_apply_107 : decode cX8_apply 107 = .ok (.iconst (-1), 1) := by decide +kernel
theorem dX8_apply_108 : decode cX8_apply 108 = .ok (.if_icmp .eq 6, 3) := by decide +kernel
theorem dX8_apply_111 : decode cX8_apply 111 = .ok (.iload 5, 2) := by decide +kernel
theorem dX8_apply_113 : decode cX8_apply 113 = .ok (.ireturn, 1) := by decide +kernel
theorem dX8_apply_114 : decode cX8_apply 114 = .ok (.aload_n 0, 1) := by decide +kernel
theorem dX8_apply_115 : decode cX8_apply 115 = .ok (.getfield 10, 3) := by decide +kernel
theorem dX8_apply_118 : decode cX8_apply 118 = .ok (.invokevirtual 57, 3) := by decide +kernel
theorem dX8_apply_121 : decode cX8_apply 121 = .ok (.ifCond .eq 11, 3) := by decide +kernel
theorem dX8_apply_124 : decode cX8_apply 124 = .ok (.new 61, 3) := by decide +kernel
theorem dX8_apply_127 : decode cX8_apply 127 = .ok (.dup, 1) := by decide +kernel
theorem dX8_apply_128 : decode cX8_apply 128 = .ok (.invokespecial 63, 3) := by decide +kernel
theorem dX8_apply_131 : decode cX8_apply 131 = .ok (.athrow, 1) := by decide +kernel
theorem dX8_apply_132 : decode cX8_apply 132 = .ok (.aload_n 0, 1) := by decide +kernel
theorem dX8_apply_133 : decode cX8_apply 133 = .ok (.getfield 28, 3) := by decide +kernel
theorem dX8_apply_136 : decode cX8_apply 136 = .ok (.invokevirtual 64, 3) := by decide +kernel
theorem dX8_apply_139 : decode cX8_apply 139 = .ok (.aload_n 0, 1) := by decide +kernel
theorem dX8_apply_140 : decode cX8_apply 140 = .ok (.getfield 10, 3) := by decide +kernel
theorem dX8_apply_143 : decode cX8_apply 143 = .ok (.bipush 102, 2) := by decide +kernel
theorem dX8_apply_145 : decode cX8_apply 145 = .ok (.iload_n 1, 1) := by decide +kernel
theorem dX8_apply_146 : decode cX8_apply 146 = .ok (.iload_n 2, 1) := by decide +kernel
theorem dX8_apply_147 : decode cX8_apply 147 = .ok (.iload_n 3, 1) := by decide +kernel
theorem dX8_apply_148 : decode cX8_apply 148 = .ok (.iconst (-1), 1) := by decide +kernel
theorem dX8_apply_149 : decode cX8_apply 149 = .ok (.invokevirtual 67, 3) := by decide +kernel
theorem dX8_apply_152 : decode cX8_apply 152 = .ok (.ireturn, 1) := by decide +kernel
theorem dX8_read_0 : decode cX8_read 0 = .ok (.aload_n 0, 1) := by decide +kernel
theorem dX8_read_1 : decode cX8_read 1 = .ok (.getfield 10, 3) := by decide +kernel
theorem dX8_read_4 : decode cX8_read 4 = .ok (.iload_n 1, 1) := by decide +kernel
theorem dX8_read_5 : decode cX8_read 5 = .ok (.invokevirtual 84, 3) := by decide +kernel
theorem dX8_read_8 : decode cX8_read 8 = .ok (.ifCond .eq 14, 3) := by decide +kernel
theorem dX8_read_11 : decode cX8_read 11 = .ok (.aload_n 0, 1) := by decide +kernel
theorem dX8_read_12 : decode cX8_read 12 = .ok (.getfield 10, 3) := by decide +kernel
theorem dX8_read_15 : decode cX8_read 15 = .ok (.iload_n 2, 1) := by decide +kernel
theorem dX8_read_16 : decode cX8_read 16 = .ok (.invokevirtual 74, 3) := by decide +kernel
theorem dX8_read_19 : decode cX8_read 19 = .ok (.ifCond .ne 11, 3) := by decide +kernel
theorem dX8_read_22 : decode cX8_read 22 = .ok (.new 78, 3) := by decide +kernel
theorem dX8_read_25 : decode cX8_read 25 = .ok (.dup, 1) := by decide +kernel
theorem dX8_read_26 : decode cX8_read 26 = .ok (.invokespecial 80, 3) := by decide +kernel
theorem dX8_read_29 : decode cX8_read 29 = .ok (.athrow, 1) := by decide +kernel
theorem dX8_read_30 : decode cX8_read 30 = .ok (.aload_n 0, 1) := by decide +kernel
theorem dX8_read_31 : decode cX8_read 31 = .ok (.getfield 10, 3) := by decide +kernel
theorem dX8_read_34 : decode cX8_read 34 = .ok (.bipush 114, 2) := by decide +kernel
theorem dX8_read_36 : decode cX8_read 36 = .ok (.iconst (-1), 1) := by decide +kernel
theorem dX8_read_37 : decode cX8_read 37 = .ok (.iload_n 1, 1) := by decide +kernel
theorem dX8_read_38 : decode cX8_read 38 = .ok (.iload_n 2, 1) := by decide +kernel
theorem dX8_read_39 : decode cX8_read 39 = .ok (.iconst (-1), 1) := by decide +kernel
theorem dX8_read_40 : decode cX8_read 40 = .ok (.invokevirtual 81, 3) := by decide +kernel
theorem dX8_read_43 : decode cX8_read 43 = .ok (.istore_n 3, 1) := by decide +kernel
theorem dX8_read_44 : decode cX8_read 44 = .ok (.iload_n 3, 1) := by decide +kernel
theorem dX8_read_45 : decode cX8_read 45 = .ok (.iconst (-1), 1) := by decide +kernel
theorem dX8_read_46 : decode cX8_read 46 = .ok (.if_icmp .eq 5, 3) := by decide +kernel
theorem dX8_read_49 : decode cX8_read 49 = .ok (.iload_n 3, 1) := by decide +kernel
theorem dX8_read_50 : decode cX8_read 50 = .ok (.ireturn, 1) := by decide +kernel
theorem dX8_read_51 : decode cX8_read 51 = .ok (.aload_n 0, 1) := by decide +kernel
theorem dX8_read_52 : decode cX8_read 52 = .ok (.getfield 10, 3) := by decide +kernel
theorem dX8_read_55 : decode cX8_read 55 = .ok (.invokevirtual 57, 3) := by decide +kernel
theorem dX8_read_58 : decode cX8_read 58 = .ok (.ifCond .eq 11, 3) := by decide +kernel
theorem dX8_read_61 : decode cX8_read 61 = .ok (.new 61, 3) := by decide +kernel
theorem dX8_read_64 : decode cX8_read 64 = .ok (.dup, 1) := by decide +kernel
theorem dX8_read_65 : decode cX8_read 65 = .ok (.invokespecial 63, 3) := by decide +kernel
theorem dX8_read_68 : decode cX8_read 68 = .ok (.athrow, 1) := by decide +kernel
theorem dX8_read_69 : decode cX8_read 69 = .ok (.aload_n 0, 1) := by decide +kernel
theorem dX8_read_70 : decode cX8_read 70 = .ok (.getfield 28, 3) := by decide +kernel
theorem dX8_read_73 : decode cX8_read 73 = .ok (.invokevirtual 64, 3) := by decide +kernel
theorem dX8_read_76 : decode cX8_read 76 = .ok (.aload_n 0, 1) := by decide +kernel
theorem dX8_read_77 : decode cX8_read 77 = .ok (.getfield 10, 3) := by decide +kernel
theorem dX8_read_80 : decode cX8_read 80 = .ok (.bipush 114, 2) := by decide +kernel
theorem dX8_read_82 : decode cX8_read 82 = .ok (.iconst (-1), 1) := by decide +kernel
theorem dX8_read_83 : decode cX8_read 83 = .ok (.iload_n 1, 1) := by decide +kernel
theorem dX8_read_84 : decode cX8_read 84 = .ok (.iload_n 2, 1) := by decide +kernel
theorem dX8_read_85 : decode cX8_read 85 = .ok (.iconst (-1), 1) := by decide +kernel
theorem dX8_read_86 : decode cX8_read 86 = .ok (.invokevirtual 67, 3) := by decide +kernel
theorem dX8_read_89 : decode cX8_read 89 = .ok (.ireturn, 1) := by decide +kernel
theorem dX8_write_0 : decode cX8_write 0 = .ok (.aload_n 0, 1) := by decide +kernel
theorem dX8_write_1 : decode cX8_write 1 = .ok (.getfield 10, 3) := by decide +kernel
theorem dX8_write_4 : decode cX8_write 4 = .ok (.iload_n 1, 1) := by decide +kernel
theorem dX8_write_5 : decode cX8_write 5 = .ok (.invokevirtual 84, 3) := by decide +kernel
theorem dX8_write_8 : decode cX8_write 8 = .ok (.ifCond .ne 11, 3) := by decide +kernel
theorem dX8_write_11 : decode cX8_write 11 = .ok (.new 78, 3) := by decide +kernel
theorem dX8_write_14 : decode cX8_write 14 = .ok (.dup, 1) := by decide +kernel
theorem dX8_write_15 : decode cX8_write 15 = .ok (.invokespecial 80, 3) := by decide +kernel
theorem dX8_write_18 : decode cX8_write 18 = .ok (.athrow, 1) := by decide +kernel
theorem dX8_write_19 : decode cX8_write 19 = .ok (.aload_n 0, 1) := by decide +kernel
theorem dX8_write_20 : decode cX8_write 20 = .ok (.getfield 10, 3) := by decide +kernel
theorem dX8_write_23 : decode cX8_write 23 = .ok (.iload_n 2, 1) := by decide +kernel
theorem dX8_write_24 : decode cX8_write 24 = .ok (.invokevirtual 74, 3) := by decide +kernel
theorem dX8_write_27 : decode cX8_write 27 = .ok (.ifCond .eq 14, 3) := by decide +kernel
theorem dX8_write_30 : decode cX8_write 30 = .ok (.aload_n 0, 1) := by decide +kernel
theorem dX8_write_31 : decode cX8_write 31 = .ok (.getfield 10, 3) := by decide +kernel
theorem dX8_write_34 : decode cX8_write 34 = .ok (.iload_n 3, 1) := by decide +kernel
theorem dX8_write_35 : decode cX8_write 35 = .ok (.invokevirtual 74, 3) := by decide +kernel
theorem dX8_write_38 : decode cX8_write 38 = .ok (.ifCond .ne 11, 3) := by decide +kernel
theorem dX8_write_41 : decode cX8_write 41 = .ok (.new 78, 3) := by decide +kernel
theorem dX8_write_44 : decode cX8_write 44 = .ok (.dup, 1) := by decide +kernel
theorem dX8_write_45 : decode cX8_write 45 = .ok (.invokespecial 80, 3) := by decide +kernel
theorem dX8_write_48 : decode cX8_write 48 = .ok (.athrow, 1) := by decide +kernel
theorem dX8_write_49 : decode cX8_write 49 = .ok (.aload_n 0, 1) := by decide +kernel
theorem dX8_write_50 : decode cX8_write 50 = .ok (.getfield 10, 3) := by decide +kernel
theorem dX8_write_53 : decode cX8_write 53 = .ok (.bipush 119, 2) := by decide +kernel
theorem dX8_write_55 : decode cX8_write 55 = .ok (.iconst (-1), 1) := by decide +kernel
theorem dX8_write_56 : decode cX8_write 56 = .ok (.iload_n 1, 1) := by decide +kernel
theorem dX8_write_57 : decode cX8_write 57 = .ok (.iload_n 2, 1) := by decide +kernel
theorem dX8_write_58 : decode cX8_write 58 = .ok (.iload_n 3, 1) := by decide +kernel
theorem dX8_write_59 : decode cX8_write 59 = .ok (.invokevirtual 81, 3) := by decide +kernel
theorem dX8_write_62 : decode cX8_write 62 = .ok (.istore 4, 2) := by decide +kernel
theorem dX8_write_64 : decode cX8_write 64 = .ok (.iload 4, 2) := by decide +kernel
theorem dX8_write_66 : decode cX8_write 66 = .ok (.iconst (-1), 1) := by decide +kernel
theorem dX8_write_67 : decode cX8_write 67 = .ok (.if_icmp .eq 6, 3) := by decide +kernel
theorem dX8_write_70 : decode cX8_write 70 = .ok (.iload 4, 2) := by decide +kernel
theorem dX8_write_72 : decode cX8_write 72 = .ok (.ireturn, 1) := by decide +kernel
theorem dX8_write_73 : decode cX8_write 73 = .ok (.aload_n 0, 1) := by decide +kernel
theorem dX8_write_74 : decode cX8_write 74 = .ok (.getfield 10, 3) := by decide +kernel
theorem dX8_write_77 : decode cX8_write 77 = .ok (.invokevirtual 57, 3) := by decide +kernel
theorem dX8_write_80 : decode cX8_write 80 = .ok (.ifCond .eq 11, 3) := by decide +kernel
theorem dX8_write_83 : decode cX8_write 83 = .ok (.new 61, 3) := by decide +kernel
theorem dX8_write_86 : decode cX8_write 86 = .ok (.dup, 1) := by decide +kernel
theorem dX8_write_87 : decode cX8_write 87 = .ok (.invokespecial 63, 3) := by decide +kernel
theorem dX8_write_90 : decode cX8_write 90 = .ok (.athrow, 1) := by decide +kernel
theorem dX8_write_91 : decode cX8_write 91 = .ok (.aload_n 0, 1) := by decide +kernel
theorem dX8_write_92 : decode cX8_write 92 = .ok (.getfield 28, 3) := by decide +kernel
theorem dX8_write_95 : decode cX8_write 95 = .ok (.invokevirtual 64, 3) := by decide +kernel
theorem dX8_write_98 : decode cX8_write 98 = .ok (.aload_n 0, 1) := by decide +kernel
theorem dX8_write_99 : decode cX8_write 99 = .ok (.getfield 10, 3) := by decide +kernel
theorem dX8_write_102 : decode cX8_write 102 = .ok (.bipush 119, 2) := by decide +kernel
theorem dX8_write_104 : decode cX8_write 104 = .ok (.iconst (-1), 1) := by decide +kernel
theorem dX8_write_105 : decode cX8_write 105 = .ok (.iload_n 1, 1) := by decide +kernel
theorem dX8_write_106 : decode cX8_write 106 = .ok (.iload_n 2, 1) := by decide +kernel
theorem dX8_write_107 : decode cX8_write 107 = .ok (.iload_n 3, 1) := by decide +kernel
theorem dX8_write_108 : decode cX8_write 108 = .ok (.invokevirtual 67, 3) := by decide +kernel
theorem dX8_write_111 : decode cX8_write 111 = .ok (.ireturn, 1) := by decide +kernel
theorem dX8_terms_0 : decode cX8_terms 0 = .ok (.aload_n 0, 1) := by decide +kernel
theorem dX8_terms_1 : decode cX8_terms 1 = .ok (.getfield 10, 3) := by decide +kernel
theorem dX8_terms_4 : decode cX8_terms 4 = .ok (.getfield 87, 3) := by decide +kernel
theorem dX8_terms_7 : decode cX8_terms 7 = .ok (.ireturn, 1) := by decide +kernel
theorem dX8_kindOf_0 : decode cX8_kindOf 0 = .ok (.aload_n 0, 1) := by decide +kernel
theorem dX8_kindOf_1 : decode cX8_kindOf 1 = .ok (.getfield 10, 3) := by decide +kernel
theorem dX8_kindOf_4 : decode cX8_kindOf 4 = .ok (.iload_n 1, 1) := by decide +kernel
theorem dX8_kindOf_5 : decode cX8_kindOf 5 = .ok (.invokevirtual 91, 3) := by decide +kernel
theorem dX8_kindOf_8 : decode cX8_kindOf 8 = .ok (.ifCond .ne 11, 3) := by decide +kernel
theorem dX8_kindOf_11 : decode cX8_kindOf 11 = .ok (.new 78, 3) := by decide +kernel
theorem dX8_kindOf_14 : decode cX8_kindOf 14 = .ok (.dup, 1) := by decide +kernel
theorem dX8_kindOf_15 : decode cX8_kindOf 15 = .ok (.invokespecial 80, 3) := by decide +kernel
theorem dX8_kindOf_18 : decode cX8_kindOf 18 = .ok (.athrow, 1) := by decide +kernel
theorem dX8_kindOf_19 : decode cX8_kindOf 19 = .ok (.aload_n 0, 1) := by decide +kernel
theorem dX8_kindOf_20 : decode cX8_kindOf 20 = .ok (.getfield 10, 3) := by decide +kernel
theorem dX8_kindOf_23 : decode cX8_kindOf 23 = .ok (.getfield 94, 3) := by decide +kernel
theorem dX8_kindOf_26 : decode cX8_kindOf 26 = .ok (.iload_n 1, 1) := by decide +kernel
theorem dX8_kindOf_27 : decode cX8_kindOf 27 = .ok (.caload, 1) := by decide +kernel
theorem dX8_kindOf_28 : decode cX8_kindOf 28 = .ok (.ireturn, 1) := by decide +kernel
theorem dX8_equal_0 : decode cX8_equal 0 = .ok (.aload_n 0, 1) := by decide +kernel
theorem dX8_equal_1 : decode cX8_equal 1 = .ok (.getfield 10, 3) := by decide +kernel
theorem dX8_equal_4 : decode cX8_equal 4 = .ok (.iload_n 1, 1) := by decide +kernel
theorem dX8_equal_5 : decode cX8_equal 5 = .ok (.invokevirtual 74, 3) := by decide +kernel
theorem dX8_equal_8 : decode cX8_equal 8 = .ok (.ifCond .eq 14, 3) := by decide +kernel
theorem dX8_equal_11 : decode cX8_equal 11 = .ok (.aload_n 0, 1) := by decide +kernel
theorem dX8_equal_12 : decode cX8_equal 12 = .ok (.getfield 10, 3) := by decide +kernel
theorem dX8_equal_15 : decode cX8_equal 15 = .ok (.iload_n 2, 1) := by decide +kernel
theorem dX8_equal_16 : decode cX8_equal 16 = .ok (.invokevirtual 74, 3) := by decide +kernel
theorem dX8_equal_19 : decode cX8_equal 19 = .ok (.ifCond .ne 11, 3) := by decide +kernel
theorem dX8_equal_22 : decode cX8_equal 22 = .ok (.new 78, 3) := by decide +kernel
theorem dX8_equal_25 : decode cX8_equal 25 = .ok (.dup, 1) := by decide +kernel
theorem dX8_equal_26 : decode cX8_equal 26 = .ok (.invokespecial 80, 3) := by decide +kernel
theorem dX8_equal_29 : decode cX8_equal 29 = .ok (.athrow, 1) := by decide +kernel
theorem dX8_equal_30 : decode cX8_equal 30 = .ok (.iload_n 1, 1) := by decide +kernel
theorem dX8_equal_31 : decode cX8_equal 31 = .ok (.iload_n 2, 1) := by decide +kernel
theorem dX8_equal_32 : decode cX8_equal 32 = .ok (.invokestatic 98, 3) := by decide +kernel
theorem dX8_equal_35 : decode cX8_equal 35 = .ok (.istore_n 3, 1) := by decide +kernel
theorem dX8_equal_36 : decode cX8_equal 36 = .ok (.aload_n 0, 1) := by decide +kernel
theorem dX8_equal_37 : decode cX8_equal 37 = .ok (.getfield 19, 3) := by decide +kernel
theorem dX8_equal_40 : decode cX8_equal 40 = .ok (.iload_n 3, 1) := by decide +kernel
theorem dX8_equal_41 : decode cX8_equal 41 = .ok (.invokevirtual 104, 3) := by decide +kernel
theorem dX8_equal_44 : decode cX8_equal 44 = .ok (.istore 4, 2) := by decide +kernel
theorem dX8_equal_46 : decode cX8_equal 46 = .ok (.iload 4, 2) := by decide +kernel
theorem dX8_equal_48 : decode cX8_equal 48 = .ok (.ifCond .lt 6, 3) := by decide +kernel
theorem dX8_equal_51 : decode cX8_equal 51 = .ok (.iload 4, 2) := by decide +kernel
theorem dX8_equal_53 : decode cX8_equal 53 = .ok (.ireturn, 1) := by decide +kernel
theorem dX8_equal_54 : decode cX8_equal 54 = .ok (.aload_n 0, 1) := by decide +kernel
theorem dX8_equal_55 : decode cX8_equal 55 = .ok (.getfield 19, 3) := by decide +kernel
theorem dX8_equal_58 : decode cX8_equal 58 = .ok (.invokevirtual 108, 3) := by decide +kernel
theorem dX8_equal_61 : decode cX8_equal 61 = .ok (.ifCond .eq 11, 3) := by decide +kernel
theorem dX8_equal_64 : decode cX8_equal 64 = .ok (.new 61, 3) := by decide +kernel
theorem dX8_equal_67 : decode cX8_equal 67 = .ok (.dup, 1) := by decide +kernel
theorem dX8_equal_68 : decode cX8_equal 68 = .ok (.invokespecial 63, 3) := by decide +kernel
theorem dX8_equal_71 : decode cX8_equal 71 = .ok (.athrow, 1) := by decide +kernel
theorem dX8_equal_72 : decode cX8_equal 72 = .ok (.aload_n 0, 1) := by decide +kernel
theorem dX8_equal_73 : decode cX8_equal 73 = .ok (.getfield 19, 3) := by decide +kernel
theorem dX8_equal_76 : decode cX8_equal 76 = .ok (.iload_n 3, 1) := by decide +kernel
theorem dX8_equal_77 : decode cX8_equal 77 = .ok (.invokevirtual 111, 3) := by decide +kernel
theorem dX8_equal_80 : decode cX8_equal 80 = .ok (.ireturn, 1) := by decide +kernel
theorem dX8_atMost_0 : decode cX8_atMost 0 = .ok (.aload_n 0, 1) := by decide +kernel
theorem dX8_atMost_1 : decode cX8_atMost 1 = .ok (.getfield 10, 3) := by decide +kernel
theorem dX8_atMost_4 : decode cX8_atMost 4 = .ok (.iload_n 1, 1) := by decide +kernel
theorem dX8_atMost_5 : decode cX8_atMost 5 = .ok (.invokevirtual 74, 3) := by decide +kernel
theorem dX8_atMost_8 : decode cX8_atMost 8 = .ok (.ifCond .eq 14, 3) := by decide +kernel
theorem dX8_atMost_11 : decode cX8_atMost 11 = .ok (.aload_n 0, 1) := by decide +kernel
theorem dX8_atMost_12 : decode cX8_atMost 12 = .ok (.getfield 10, 3) := by decide +kernel
theorem dX8_atMost_15 : decode cX8_atMost 15 = .ok (.iload_n 2, 1) := by decide +kernel
theorem dX8_atMost_16 : decode cX8_atMost 16 = .ok (.invokevirtual 74, 3) := by decide +kernel
theorem dX8_atMost_19 : decode cX8_atMost 19 = .ok (.ifCond .ne 11, 3) := by decide +kernel
theorem dX8_atMost_22 : decode cX8_atMost 22 = .ok (.new 78, 3) := by decide +kernel
theorem dX8_atMost_25 : decode cX8_atMost 25 = .ok (.dup, 1) := by decide +kernel
theorem dX8_atMost_26 : decode cX8_atMost 26 = .ok (.invokespecial 80, 3) := by decide +kernel
theorem dX8_atMost_29 : decode cX8_atMost 29 = .ok (.athrow, 1) := by decide +kernel
theorem dX8_atMost_30 : decode cX8_atMost 30 = .ok (.iload_n 3, 1) := by decide +kernel
theorem dX8_atMost_31 : decode cX8_atMost 31 = .ok (.bipush (-20), 2) := by decide +kernel
theorem dX8_atMost_33 : decode cX8_atMost 33 = .ok (.if_icmp .lt 9, 3) := by decide +kernel
theorem dX8_atMost_36 : decode cX8_atMost 36 = .ok (.iload_n 3, 1) := by decide +kernel
theorem dX8_atMost_37 : decode cX8_atMost 37 = .ok (.bipush 20, 2) := by decide +kernel
theorem dX8_atMost_39 : decode cX8_atMost 39 = .ok (.if_icmp .le 11, 3) := by decide +kernel
theorem dX8_atMost_42 : decode cX8_atMost 42 = .ok (.new 71, 3) := by decide +kernel
theorem dX8_atMost_45 : decode cX8_atMost 45 = .ok (.dup, 1) := by decide +kernel
theorem dX8_atMost_46 : decode cX8_atMost 46 = .ok (.invokespecial 73, 3) := by decide +kernel
theorem dX8_atMost_49 : decode cX8_atMost 49 = .ok (.athrow, 1) := by decide +kernel
theorem dX8_atMost_50 : decode cX8_atMost 50 = .ok (.iload_n 1, 1) := by decide +kernel
theorem dX8_atMost_51 : decode cX8_atMost 51 = .ok (.iload_n 2, 1) := by decide +kernel
theorem dX8_atMost_52 : decode cX8_atMost 52 = .ok (.iload_n 3, 1) := by decide +kernel
theorem dX8_atMost_53 : decode cX8_atMost 53 = .ok (.invokestatic 114, 3) := by decide +kernel
theorem dX8_atMost_56 : decode cX8_atMost 56 = .ok (.istore 4, 2) := by decide +kernel
theorem dX8_atMost_58 : decode cX8_atMost 58 = .ok (.aload_n 0, 1) := by decide +kernel
theorem dX8_atMost_59 : decode cX8_atMost 59 = .ok (.getfield 19, 3) := by decide +kernel
theorem dX8_atMost_62 : decode cX8_atMost 62 = .ok (.iload 4, 2) := by decide +kernel
theorem dX8_atMost_64 : decode cX8_atMost 64 = .ok (.invokevirtual 104, 3) := by decide +kernel
theorem dX8_atMost_67 : decode cX8_atMost 67 = .ok (.istore 5, 2) := by decide +kernel
theorem dX8_atMost_69 : decode cX8_atMost 69 = .ok (.iload 5, 2) := by decide +kernel
theorem dX8_atMost_71 : decode cX8_atMost 71 = .ok (.ifCond .lt 6, 3) := by decide +kernel
theorem dX8_atMost_74 : decode cX8_atMost 74 = .ok (.iload 5, 2) := by decide +kernel
theorem dX8_atMost_76 : decode cX8_atMost 76 = .ok (.ireturn, 1) := by decide +kernel
theorem dX8_atMost_77 : decode cX8_atMost 77 = .ok (.aload_n 0, 1) := by decide +kernel
theorem dX8_atMost_78 : decode cX8_atMost 78 = .ok (.getfield 19, 3) := by decide +kernel
theorem dX8_atMost_81 : decode cX8_atMost 81 = .ok (.invokevirtual 108, 3) := by decide +kernel
theorem dX8_atMost_84 : decode cX8_atMost 84 = .ok (.ifCond .eq 11, 3) := by decide +kernel
theorem dX8_atMost_87 : decode cX8_atMost 87 = .ok (.new 61, 3) := by decide +kernel
theorem dX8_atMost_90 : decode cX8_atMost 90 = .ok (.dup, 1) := by decide +kernel
theorem dX8_atMost_91 : decode cX8_atMost 91 = .ok (.invokespecial 63, 3) := by decide +kernel
theorem dX8_atMost_94 : decode cX8_atMost 94 = .ok (.athrow, 1) := by decide +kernel
theorem dX8_atMost_95 : decode cX8_atMost 95 = .ok (.aload_n 0, 1) := by decide +kernel
theorem dX8_atMost_96 : decode cX8_atMost 96 = .ok (.getfield 19, 3) := by decide +kernel
theorem dX8_atMost_99 : decode cX8_atMost 99 = .ok (.iload 4, 2) := by decide +kernel
theorem dX8_atMost_101 : decode cX8_atMost 101 = .ok (.invokevirtual 111, 3) := by decide +kernel
theorem dX8_atMost_104 : decode cX8_atMost 104 = .ok (.ireturn, 1) := by decide +kernel
theorem dX8_atoms_0 : decode cX8_atoms 0 = .ok (.aload_n 0, 1) := by decide +kernel
theorem dX8_atoms_1 : decode cX8_atoms 1 = .ok (.getfield 19, 3) := by decide +kernel
theorem dX8_atoms_4 : decode cX8_atoms 4 = .ok (.getfield 118, 3) := by decide +kernel
theorem dX8_atoms_7 : decode cX8_atoms 7 = .ok (.ireturn, 1) := by decide +kernel
theorem dX8_clause_0 : decode cX8_clause 0 = .ok (.aload_n 0, 1) := by decide +kernel
theorem dX8_clause_1 : decode cX8_clause 1 = .ok (.getfield 19, 3) := by decide +kernel
theorem dX8_clause_4 : decode cX8_clause 4 = .ok (.iload_n 1, 1) := by decide +kernel
theorem dX8_clause_5 : decode cX8_clause 5 = .ok (.invokevirtual 121, 3) := by decide +kernel
theorem dX8_clause_8 : decode cX8_clause 8 = .ok (.ifCond .ne 11, 3) := by decide +kernel
theorem dX8_clause_11 : decode cX8_clause 11 = .ok (.new 78, 3) := by decide +kernel
theorem dX8_clause_14 : decode cX8_clause 14 = .ok (.dup, 1) := by decide +kernel
theorem dX8_clause_15 : decode cX8_clause 15 = .ok (.invokespecial 80, 3) := by decide +kernel
theorem dX8_clause_18 : decode cX8_clause 18 = .ok (.athrow, 1) := by decide +kernel
theorem dX8_clause_19 : decode cX8_clause 19 = .ok (.iload_n 2, 1) := by decide +kernel
theorem dX8_clause_20 : decode cX8_clause 20 = .ok (.iconst (-1), 1) := by decide +kernel
theorem dX8_clause_21 : decode cX8_clause 21 = .ok (.if_icmp .eq 22, 3) := by decide +kernel
theorem dX8_clause_24 : decode cX8_clause 24 = .ok (.aload_n 0, 1) := by decide +kernel
theorem dX8_clause_25 : decode cX8_clause 25 = .ok (.getfield 19, 3) := by decide +kernel
theorem dX8_clause_28 : decode cX8_clause 28 = .ok (.iload_n 2, 1) := by decide +kernel
theorem dX8_clause_29 : decode cX8_clause 29 = .ok (.invokevirtual 121, 3) := by decide +kernel
theorem dX8_clause_32 : decode cX8_clause 32 = .ok (.ifCond .ne 11, 3) := by decide +kernel
theorem dX8_clause_35 : decode cX8_clause 35 = .ok (.new 78, 3) := by decide +kernel
theorem dX8_clause_38 : decode cX8_clause 38 = .ok (.dup, 1) := by decide +kernel
theorem dX8_clause_39 : decode cX8_clause 39 = .ok (.invokespecial 80, 3) := by decide +kernel
theorem dX8_clause_42 : decode cX8_clause 42 = .ok (.athrow, 1) := by decide +kernel
theorem dX8_clause_43 : decode cX8_clause 43 = .ok (.iload_n 3, 1) := by decide +kernel
theorem dX8_clause_44 : decode cX8_clause 44 = .ok (.iconst (-1), 1) := by decide +kernel
theorem dX8_clause_45 : decode cX8_clause 45 = .ok (.if_icmp .eq 22, 3) := by decide +kernel
theorem dX8_clause_48 : decode cX8_clause 48 = .ok (.aload_n 0, 1) := by decide +kernel
theorem dX8_clause_49 : decode cX8_clause 49 = .ok (.getfield 19, 3) := by decide +kernel
theorem dX8_clause_52 : decode cX8_clause 52 = .ok (.iload_n 3, 1) := by decide +kernel
theorem dX8_clause_53 : decode cX8_clause 53 = .ok (.invokevirtual 121, 3) := by decide +kernel
theorem dX8_clause_56 : decode cX8_clause 56 = .ok (.ifCond .ne 11, 3) := by decide +kernel
theorem dX8_clause_59 : decode cX8_clause 59 = .ok (.new 78, 3) := by decide +kernel
theorem dX8_clause_62 : decode cX8_clause 62 = .ok (.dup, 1) := by decide +kernel
theorem dX8_clause_63 : decode cX8_clause 63 = .ok (.invokespecial 80, 3) := by decide +kernel
theorem dX8_clause_66 : decode cX8_clause 66 = .ok (.athrow, 1) := by decide +kernel
theorem dX8_clause_67 : decode cX8_clause 67 = .ok (.aload_n 0, 1) := by decide +kernel
theorem dX8_clause_68 : decode cX8_clause 68 = .ok (.getfield 19, 3) := by decide +kernel
theorem dX8_clause_71 : decode cX8_clause 71 = .ok (.invokevirtual 124, 3) := by decide +kernel
theorem dX8_clause_74 : decode cX8_clause 74 = .ok (.ifCond .eq 11, 3) := by decide +kernel
theorem dX8_clause_77 : decode cX8_clause 77 = .ok (.new 61, 3) := by decide +kernel
theorem dX8_clause_80 : decode cX8_clause 80 = .ok (.dup, 1) := by decide +kernel
theorem dX8_clause_81 : decode cX8_clause 81 = .ok (.invokespecial 63, 3) := by decide +kernel
theorem dX8_clause_84 : decode cX8_clause 84 = .ok (.athrow, 1) := by decide +kernel
theorem dX8_clause_85 : decode cX8_clause 85 = .ok (.aload_n 0, 1) := by decide +kernel
theorem dX8_clause_86 : decode cX8_clause 86 = .ok (.getfield 28, 3) := by decide +kernel
theorem dX8_clause_89 : decode cX8_clause 89 = .ok (.invokevirtual 64, 3) := by decide +kernel
theorem dX8_clause_92 : decode cX8_clause 92 = .ok (.aload_n 0, 1) := by decide +kernel
theorem dX8_clause_93 : decode cX8_clause 93 = .ok (.getfield 19, 3) := by decide +kernel
theorem dX8_clause_96 : decode cX8_clause 96 = .ok (.iload_n 1, 1) := by decide +kernel
theorem dX8_clause_97 : decode cX8_clause 97 = .ok (.iload_n 2, 1) := by decide +kernel
theorem dX8_clause_98 : decode cX8_clause 98 = .ok (.iload_n 3, 1) := by decide +kernel
theorem dX8_clause_99 : decode cX8_clause 99 = .ok (.invokevirtual 127, 3) := by decide +kernel
theorem dX8_clause_102 : decode cX8_clause 102 = .ok (.ireturn, 1) := by decide +kernel
theorem dX8_clauses_0 : decode cX8_clauses 0 = .ok (.aload_n 0, 1) := by decide +kernel
theorem dX8_clauses_1 : decode cX8_clauses 1 = .ok (.getfield 19, 3) := by decide +kernel
theorem dX8_clauses_4 : decode cX8_clauses 4 = .ok (.getfield 130, 3) := by decide +kernel
theorem dX8_clauses_7 : decode cX8_clauses 7 = .ok (.ireturn, 1) := by decide +kernel
theorem dX8_rule_0 : decode cX8_rule 0 = .ok (.iload_n 1, 1) := by decide +kernel
theorem dX8_rule_1 : decode cX8_rule 1 = .ok (.bipush 105, 2) := by decide +kernel
theorem dX8_rule_3 : decode cX8_rule 3 = .ok (.if_icmp .eq 15, 3) := by decide +kernel
theorem dX8_rule_6 : decode cX8_rule 6 = .ok (.iload_n 1, 1) := by decide +kernel
theorem dX8_rule_7 : decode cX8_rule 7 = .ok (.bipush 115, 2) := by decide +kernel
theorem dX8_rule_9 : decode cX8_rule 9 = .ok (.if_icmp .eq 9, 3) := by decide +kernel
theorem dX8_rule_12 : decode cX8_rule 12 = .ok (.iload_n 1, 1) := by decide +kernel
theorem dX8_rule_13 : decode cX8_rule 13 = .ok (.bipush 109, 2) := by decide +kernel
theorem dX8_rule_15 : decode cX8_rule 15 = .ok (.if_icmp .ne 7, 3) := by decide +kernel
theorem dX8_rule_18 : decode cX8_rule 18 = .ok (.iconst 1, 1) := by decide +kernel
theorem dX8_rule_19 : decode cX8_rule 19 = .ok (.goto 4, 3) := by decide +kernel
theorem dX8_rule_22 : decode cX8_rule 22 = .ok (.iconst 0, 1) := by decide +kernel
theorem dX8_rule_23 : decode cX8_rule 23 = .ok (.istore_n 3, 1) := by decide +kernel
theorem dX8_rule_24 : decode cX8_rule 24 = .ok (.iload_n 3, 1) := by decide +kernel
theorem dX8_rule_25 : decode cX8_rule 25 = .ok (.ifCond .ne 17, 3) := by decide +kernel
theorem dX8_rule_28 : decode cX8_rule 28 = .ok (.iload_n 1, 1) := by decide +kernel
theorem dX8_rule_29 : decode cX8_rule 29 = .ok (.bipush 99, 2) := by decide +kernel
theorem dX8_rule_31 : decode cX8_rule 31 = .ok (.if_icmp .eq 11, 3) := by decide +kernel
theorem dX8_rule_34 : decode cX8_rule 34 = .ok (.new 71, 3) := by decide +kernel
theorem dX8_rule_37 : decode cX8_rule 37 = .ok (.dup, 1) := by decide +kernel
theorem dX8_rule_38 : decode cX8_rule 38 = .ok (.invokespecial 73, 3) := by decide +kernel
theorem dX8_rule_41 : decode cX8_rule 41 = .ok (.athrow, 1) := by decide +kernel
theorem dX8_rule_42 : decode cX8_rule 42 = .ok (.iload_n 2, 1) := by decide +kernel
theorem dX8_rule_43 : decode cX8_rule 43 = .ok (.ifCond .lt 8, 3) := by decide +kernel
theorem dX8_rule_46 : decode cX8_rule 46 = .ok (.iload_n 2, 1) := by decide +kernel
theorem dX8_rule_47 : decode cX8_rule 47 = .ok (.iconst 4, 1) := by decide +kernel
theorem dX8_rule_48 : decode cX8_rule 48 = .ok (.if_icmp .lt 11, 3) := by decide +kernel
theorem dX8_rule_51 : decode cX8_rule 51 = .ok (.new 71, 3) := by decide +kernel
theorem dX8_rule_54 : decode cX8_rule 54 = .ok (.dup, 1) := by decide +kernel
theorem dX8_rule_55 : decode cX8_rule 55 = .ok (.invokespecial 73, 3) := by decide +kernel
theorem dX8_rule_58 : decode cX8_rule 58 = .ok (.athrow, 1) := by decide +kernel
theorem dX8_rule_59 : decode cX8_rule 59 = .ok (.iload_n 3, 1) := by decide +kernel
theorem dX8_rule_60 : decode cX8_rule 60 = .ok (.iload_n 2, 1) := by decide +kernel
theorem dX8_rule_61 : decode cX8_rule 61 = .ok (.iconst 2, 1) := by decide +kernel
theorem dX8_rule_62 : decode cX8_rule 62 = .ok (.if_icmp .ge 7, 3) := by decide +kernel
theorem dX8_rule_65 : decode cX8_rule 65 = .ok (.iconst 1, 1) := by decide +kernel
theorem dX8_rule_66 : decode cX8_rule 66 = .ok (.goto 4, 3) := by decide +kernel
theorem dX8_rule_69 : decode cX8_rule 69 = .ok (.iconst 0, 1) := by decide +kernel
theorem dX8_rule_70 : decode cX8_rule 70 = .ok (.if_icmp .eq 11, 3) := by decide +kernel
theorem dX8_rule_73 : decode cX8_rule 73 = .ok (.new 71, 3) := by decide +kernel
theorem dX8_rule_76 : decode cX8_rule 76 = .ok (.dup, 1) := by decide +kernel
theorem dX8_rule_77 : decode cX8_rule 77 = .ok (.invokespecial 73, 3) := by decide +kernel
theorem dX8_rule_80 : decode cX8_rule 80 = .ok (.athrow, 1) := by decide +kernel
theorem dX8_rule_81 : decode cX8_rule 81 = .ok (.aload_n 0, 1) := by decide +kernel
theorem dX8_rule_82 : decode cX8_rule 82 = .ok (.getfield 19, 3) := by decide +kernel
theorem dX8_rule_85 : decode cX8_rule 85 = .ok (.invokevirtual 133, 3) := by decide +kernel
theorem dX8_rule_88 : decode cX8_rule 88 = .ok (.ifCond .eq 11, 3) := by decide +kernel
theorem dX8_rule_91 : decode cX8_rule 91 = .ok (.new 61, 3) := by decide +kernel
theorem dX8_rule_94 : decode cX8_rule 94 = .ok (.dup, 1) := by decide +kernel
theorem dX8_rule_95 : decode cX8_rule 95 = .ok (.invokespecial 63, 3) := by decide +kernel
theorem dX8_rule_98 : decode cX8_rule 98 = .ok (.athrow, 1) := by decide +kernel
theorem dX8_rule_99 : decode cX8_rule 99 = .ok (.aload_n 0, 1) := by decide +kernel
theorem dX8_rule_100 : decode cX8_rule 100 = .ok (.getfield 28, 3) := by decide +kernel
theorem dX8_rule_103 : decode cX8_rule 103 = .ok (.invokevirtual 64, 3) := by decide +kernel
theorem dX8_rule_106 : decode cX8_rule 106 = .ok (.aload_n 0, 1) := by decide +kernel
theorem dX8_rule_107 : decode cX8_rule 107 = .ok (.getfield 19, 3) := by decide +kernel
theorem dX8_rule_110 : decode cX8_rule 110 = .ok (.iload_n 1, 1) := by decide +kernel
theorem dX8_rule_111 : decode cX8_rule 111 = .ok (.iload_n 2, 1) := by decide +kernel
theorem dX8_rule_112 : decode cX8_rule 112 = .ok (.invokevirtual 136, 3) := by decide +kernel
theorem dX8_rule_115 : decode cX8_rule 115 = .ok (.ireturn, 1) := by decide +kernel
theorem dX8_push_0 : decode cX8_push 0 = .ok (.aload_n 0, 1) := by decide +kernel
theorem dX8_push_1 : decode cX8_push 1 = .ok (.getfield 140, 3) := by decide +kernel
theorem dX8_push_4 : decode cX8_push 4 = .ok (.bipush 6, 2) := by decide +kernel
theorem dX8_push_6 : decode cX8_push 6 = .ok (.if_icmp .lt 11, 3) := by decide +kernel
theorem dX8_push_9 : decode cX8_push 9 = .ok (.new 61, 3) := by decide +kernel
theorem dX8_push_12 : decode cX8_push 12 = .ok (.dup, 1) := by decide +kernel
theorem dX8_push_13 : decode cX8_push 13 = .ok (.invokespecial 63, 3) := by decide +kernel
theorem dX8_push_16 : decode cX8_push 16 = .ok (.athrow, 1) := by decide +kernel
theorem dX8_push_17 : decode cX8_push 17 = .ok (.aload_n 0, 1) := by decide +kernel
theorem dX8_push_18 : decode cX8_push 18 = .ok (.getfield 45, 3) := by decide +kernel
theorem dX8_push_21 : decode cX8_push 21 = .ok (.aload_n 0, 1) := by decide +kernel
theorem dX8_push_22 : decode cX8_push 22 = .ok (.getfield 140, 3) := by decide +kernel
theorem dX8_push_25 : decode cX8_push 25 = .ok (.aload_n 0, 1) := by decide +kernel
theorem dX8_push_26 : decode cX8_push 26 = .ok (.getfield 10, 3) := by decide +kernel
theorem dX8_push_29 : decode cX8_push 29 = .ok (.getfield 87, 3) := by decide +kernel
theorem dX8_push_32 : decode cX8_push 32 = .ok (.iastore, 1) := by decide +kernel
theorem dX8_push_33 : decode cX8_push 33 = .ok (.aload_n 0, 1) := by decide +kernel
theorem dX8_push_34 : decode cX8_push 34 = .ok (.getfield 48, 3) := by decide +kernel
theorem dX8_push_37 : decode cX8_push 37 = .ok (.aload_n 0, 1) := by decide +kernel
theorem dX8_push_38 : decode cX8_push 38 = .ok (.getfield 140, 3) := by decide +kernel
theorem dX8_push_41 : decode cX8_push 41 = .ok (.aload_n 0, 1) := by decide +kernel
theorem dX8_push_42 : decode cX8_push 42 = .ok (.getfield 19, 3) := by decide +kernel
theorem dX8_push_45 : decode cX8_push 45 = .ok (.getfield 118, 3) := by decide +kernel
theorem dX8_push_48 : decode cX8_push 48 = .ok (.iastore, 1) := by decide +kernel
theorem dX8_push_49 : decode cX8_push 49 = .ok (.aload_n 0, 1) := by decide +kernel
theorem dX8_push_50 : decode cX8_push 50 = .ok (.getfield 51, 3) := by decide +kernel
theorem dX8_push_53 : decode cX8_push 53 = .ok (.aload_n 0, 1) := by decide +kernel
theorem dX8_push_54 : decode cX8_push 54 = .ok (.getfield 140, 3) := by decide +kernel
theorem dX8_push_57 : decode cX8_push 57 = .ok (.aload_n 0, 1) := by decide +kernel
theorem dX8_push_58 : decode cX8_push 58 = .ok (.getfield 19, 3) := by decide +kernel
theorem dX8_push_61 : decode cX8_push 61 = .ok (.getfield 130, 3) := by decide +kernel
theorem dX8_push_64 : decode cX8_push 64 = .ok (.iastore, 1) := by decide +kernel
theorem dX8_push_65 : decode cX8_push 65 = .ok (.aload_n 0, 1) := by decide +kernel
theorem dX8_push_66 : decode cX8_push 66 = .ok (.getfield 54, 3) := by decide +kernel
theorem dX8_push_69 : decode cX8_push 69 = .ok (.aload_n 0, 1) := by decide +kernel
theorem dX8_push_70 : decode cX8_push 70 = .ok (.getfield 140, 3) := by decide +kernel
theorem dX8_push_73 : decode cX8_push 73 = .ok (.aload_n 0, 1) := by decide +kernel
theorem dX8_push_74 : decode cX8_push 74 = .ok (.getfield 19, 3) := by decide +kernel
theorem dX8_push_77 : decode cX8_push 77 = .ok (.getfield 143, 3) := by decide +kernel
theorem dX8_push_80 : decode cX8_push 80 = .ok (.iastore, 1) := by decide +kernel
theorem dX8_push_81 : decode cX8_push 81 = .ok (.aload_n 0, 1) := by decide +kernel
theorem dX8_push_82 : decode cX8_push 82 = .ok (.dup, 1) := by decide +kernel
theorem dX8_push_83 : decode cX8_push 83 = .ok (.getfield 140, 3) := by decide +kernel
theorem dX8_push_86 : decode cX8_push 86 = .ok (.iconst 1, 1) := by decide +kernel
theorem dX8_push_87 : decode cX8_push 87 = .ok (.iadd, 1) := by decide +kernel
theorem dX8_push_88 : decode cX8_push 88 = .ok (.putfield 140, 3) := by decide +kernel
theorem dX8_push_91 : decode cX8_push 91 = .ok (.aload_n 0, 1) := by decide +kernel
theorem dX8_push_92 : decode cX8_push 92 = .ok (.getfield 140, 3) := by decide +kernel
theorem dX8_push_95 : decode cX8_push 95 = .ok (.ireturn, 1) := by decide +kernel
theorem dX8_pop_0 : decode cX8_pop 0 = .ok (.aload_n 0, 1) := by decide +kernel
theorem dX8_pop_1 : decode cX8_pop 1 = .ok (.getfield 140, 3) := by decide +kernel
theorem dX8_pop_4 : decode cX8_pop 4 = .ok (.ifCond .gt 11, 3) := by decide +kernel
theorem dX8_pop_7 : decode cX8_pop 7 = .ok (.new 61, 3) := by decide +kernel
theorem dX8_pop_10 : decode cX8_pop 10 = .ok (.dup, 1) := by decide +kernel
theorem dX8_pop_11 : decode cX8_pop 11 = .ok (.invokespecial 63, 3) := by decide +kernel
theorem dX8_pop_14 : decode cX8_pop 14 = .ok (.athrow, 1) := by decide +kernel
theorem dX8_pop_15 : decode cX8_pop 15 = .ok (.aload_n 0, 1) := by decide +kernel
theorem dX8_pop_16 : decode cX8_pop 16 = .ok (.dup, 1) := by decide +kernel
theorem dX8_pop_17 : decode cX8_pop 17 = .ok (.getfield 140, 3) := by decide +kernel
theorem dX8_pop_20 : decode cX8_pop 20 = .ok (.iconst 1, 1) := by decide +kernel
theorem dX8_pop_21 : decode cX8_pop 21 = .ok (.isub, 1) := by decide +kernel
theorem dX8_pop_22 : decode cX8_pop 22 = .ok (.putfield 140, 3) := by decide +kernel
theorem dX8_pop_25 : decode cX8_pop 25 = .ok (.aload_n 0, 1) := by decide +kernel
theorem dX8_pop_26 : decode cX8_pop 26 = .ok (.getfield 10, 3) := by decide +kernel
theorem dX8_pop_29 : decode cX8_pop 29 = .ok (.aload_n 0, 1) := by decide +kernel
theorem dX8_pop_30 : decode cX8_pop 30 = .ok (.getfield 45, 3) := by decide +kernel
theorem dX8_pop_33 : decode cX8_pop 33 = .ok (.aload_n 0, 1) := by decide +kernel
theorem dX8_pop_34 : decode cX8_pop 34 = .ok (.getfield 140, 3) := by decide +kernel
theorem dX8_pop_37 : decode cX8_pop 37 = .ok (.iaload, 1) := by decide +kernel
theorem dX8_pop_38 : decode cX8_pop 38 = .ok (.putfield 87, 3) := by decide +kernel
theorem dX8_pop_41 : decode cX8_pop 41 = .ok (.aload_n 0, 1) := by decide +kernel
theorem dX8_pop_42 : decode cX8_pop 42 = .ok (.getfield 19, 3) := by decide +kernel
theorem dX8_pop_45 : decode cX8_pop 45 = .ok (.aload_n 0, 1) := by decide +kernel
theorem dX8_pop_46 : decode cX8_pop 46 = .ok (.getfield 48, 3) := by decide +kernel
theorem dX8_pop_49 : decode cX8_pop 49 = .ok (.aload_n 0, 1) := by decide +kernel
theorem dX8_pop_50 : decode cX8_pop 50 = .ok (.getfield 140, 3) := by decide +kernel
theorem dX8_pop_53 : decode cX8_pop 53 = .ok (.iaload, 1) := by decide +kernel
theorem dX8_pop_54 : decode cX8_pop 54 = .ok (.putfield 118, 3) := by decide +kernel
theorem dX8_pop_57 : decode cX8_pop 57 = .ok (.aload_n 0, 1) := by decide +kernel
theorem dX8_pop_58 : decode cX8_pop 58 = .ok (.getfield 19, 3) := by decide +kernel
theorem dX8_pop_61 : decode cX8_pop 61 = .ok (.aload_n 0, 1) := by decide +kernel
theorem dX8_pop_62 : decode cX8_pop 62 = .ok (.getfield 51, 3) := by decide +kernel
theorem dX8_pop_65 : decode cX8_pop 65 = .ok (.aload_n 0, 1) := by decide +kernel
theorem dX8_pop_66 : decode cX8_pop 66 = .ok (.getfield 140, 3) := by decide +kernel
theorem dX8_pop_69 : decode cX8_pop 69 = .ok (.iaload, 1) := by decide +kernel
theorem dX8_pop_70 : decode cX8_pop 70 = .ok (.putfield 130, 3) := by decide +kernel
theorem dX8_pop_73 : decode cX8_pop 73 = .ok (.aload_n 0, 1) := by decide +kernel
theorem dX8_pop_74 : decode cX8_pop 74 = .ok (.getfield 19, 3) := by decide +kernel
theorem dX8_pop_77 : decode cX8_pop 77 = .ok (.aload_n 0, 1) := by decide +kernel
theorem dX8_pop_78 : decode cX8_pop 78 = .ok (.getfield 54, 3) := by decide +kernel
theorem dX8_pop_81 : decode cX8_pop 81 = .ok (.aload_n 0, 1) := by decide +kernel
theorem dX8_pop_82 : decode cX8_pop 82 = .ok (.getfield 140, 3) := by decide +kernel
theorem dX8_pop_85 : decode cX8_pop 85 = .ok (.iaload, 1) := by decide +kernel
theorem dX8_pop_86 : decode cX8_pop 86 = .ok (.putfield 143, 3) := by decide +kernel
theorem dX8_pop_89 : decode cX8_pop 89 = .ok (.aload_n 0, 1) := by decide +kernel
theorem dX8_pop_90 : decode cX8_pop 90 = .ok (.getfield 28, 3) := by decide +kernel
theorem dX8_pop_93 : decode cX8_pop 93 = .ok (.invokevirtual 64, 3) := by decide +kernel
theorem dX8_pop_96 : decode cX8_pop 96 = .ok (.aload_n 0, 1) := by decide +kernel
theorem dX8_pop_97 : decode cX8_pop 97 = .ok (.getfield 19, 3) := by decide +kernel
theorem dX8_pop_100 : decode cX8_pop 100 = .ok (.getfield 130, 3) := by decide +kernel
theorem dX8_pop_103 : decode cX8_pop 103 = .ok (.ireturn, 1) := by decide +kernel
theorem dX8_check_0 : decode cX8_check 0 = .ok (.aload_n 0, 1) := by decide +kernel
theorem dX8_check_1 : decode cX8_check 1 = .ok (.getfield 28, 3) := by decide +kernel
theorem dX8_check_4 : decode cX8_check 4 = .ok (.invokevirtual 146, 3) := by decide +kernel
theorem dX8_check_7 : decode cX8_check 7 = .ok (.ireturn, 1) := by decide +kernel
theorem dX8_core_0 : decode cX8_core 0 = .ok (.aload_n 0, 1) := by decide +kernel
theorem dX8_core_1 : decode cX8_core 1 = .ok (.getfield 28, 3) := by decide +kernel
theorem dX8_core_4 : decode cX8_core 4 = .ok (.invokevirtual 146, 3) := by decide +kernel
theorem dX8_core_7 : decode cX8_core 7 = .ok (.ifCond .eq 11, 3) := by decide +kernel
theorem dX8_core_10 : decode cX8_core 10 = .ok (.new 61, 3) := by decide +kernel
theorem dX8_core_13 : decode cX8_core 13 = .ok (.dup, 1) := by decide +kernel
theorem dX8_core_14 : decode cX8_core 14 = .ok (.invokespecial 63, 3) := by decide +kernel
theorem dX8_core_17 : decode cX8_core 17 = .ok (.athrow, 1) := by decide +kernel
theorem dX8_core_18 : decode cX8_core 18 = .ok (.aload_n 0, 1) := by decide +kernel
theorem dX8_core_19 : decode cX8_core 19 = .ok (.getfield 28, 3) := by decide +kernel
theorem dX8_core_22 : decode cX8_core 22 = .ok (.iconst (-1), 1) := by decide +kernel
theorem dX8_core_23 : decode cX8_core 23 = .ok (.invokevirtual 149, 3) := by decide +kernel
theorem dX8_core_26 : decode cX8_core 26 = .ok (.invokestatic 152, 3) := by decide +kernel
theorem dX8_core_29 : decode cX8_core 29 = .ok (.ireturn, 1) := by decide +kernel
theorem dX8_coreAt_0 : decode cX8_coreAt 0 = .ok (.aload_n 0, 1) := by decide +kernel
theorem dX8_coreAt_1 : decode cX8_coreAt 1 = .ok (.getfield 28, 3) := by decide +kernel
theorem dX8_coreAt_4 : decode cX8_coreAt 4 = .ok (.invokevirtual 146, 3) := by decide +kernel
theorem dX8_coreAt_7 : decode cX8_coreAt 7 = .ok (.ifCond .eq 11, 3) := by decide +kernel
theorem dX8_coreAt_10 : decode cX8_coreAt 10 = .ok (.new 61, 3) := by decide +kernel
theorem dX8_coreAt_13 : decode cX8_coreAt 13 = .ok (.dup, 1) := by decide +kernel
theorem dX8_coreAt_14 : decode cX8_coreAt 14 = .ok (.invokespecial 63, 3) := by decide +kernel
theorem dX8_coreAt_17 : decode cX8_coreAt 17 = .ok (.athrow, 1) := by decide +kernel
theorem dX8_coreAt_18 : decode cX8_coreAt 18 = .ok (.aload_n 0, 1) := by decide +kernel
theorem dX8_coreAt_19 : decode cX8_coreAt 19 = .ok (.getfield 28, 3) := by decide +kernel
theorem dX8_coreAt_22 : decode cX8_coreAt 22 = .ok (.iconst (-1), 1) := by decide +kernel
theorem dX8_coreAt_23 : decode cX8_coreAt 23 = .ok (.invokevirtual 149, 3) := by decide +kernel
theorem dX8_coreAt_26 : decode cX8_coreAt 26 = .ok (.istore_n 2, 1) := by decide +kernel
theorem dX8_coreAt_27 : decode cX8_coreAt 27 = .ok (.iload_n 1, 1) := by decide +kernel
theorem dX8_coreAt_28 : decode cX8_coreAt 28 = .ok (.ifCond .lt 11, 3) := by decide +kernel
theorem dX8_coreAt_31 : decode cX8_coreAt 31 = .ok (.iload_n 1, 1) := by decide +kernel
theorem dX8_coreAt_32 : decode cX8_coreAt 32 = .ok (.iload_n 2, 1) := by decide +kernel
theorem dX8_coreAt_33 : decode cX8_coreAt 33 = .ok (.invokestatic 152, 3) := by decide +kernel
theorem dX8_coreAt_36 : decode cX8_coreAt 36 = .ok (.if_icmp .lt 11, 3) := by decide +kernel
theorem dX8_coreAt_39 : decode cX8_coreAt 39 = .ok (.new 157, 3) := by decide +kernel
theorem dX8_coreAt_42 : decode cX8_coreAt 42 = .ok (.dup, 1) := by decide +kernel
theorem dX8_coreAt_43 : decode cX8_coreAt 43 = .ok (.invokespecial 159, 3) := by decide +kernel
theorem dX8_coreAt_46 : decode cX8_coreAt 46 = .ok (.athrow, 1) := by decide +kernel
theorem dX8_coreAt_47 : decode cX8_coreAt 47 = .ok (.iload_n 2, 1) := by decide +kernel
theorem dX8_coreAt_48 : decode cX8_coreAt 48 = .ok (.iload_n 1, 1) := by decide +kernel
theorem dX8_coreAt_49 : decode cX8_coreAt 49 = .ok (.invokestatic 160, 3) := by decide +kernel
theorem dX8_coreAt_52 : decode cX8_coreAt 52 = .ok (.ireturn, 1) := by decide +kernel
theorem dX8_follows_0 : decode cX8_follows 0 = .ok (.aload_n 0, 1) := by decide +kernel
theorem dX8_follows_1 : decode cX8_follows 1 = .ok (.getfield 19, 3) := by decide +kernel
theorem dX8_follows_4 : decode cX8_follows 4 = .ok (.iload_n 1, 1) := by decide +kernel
theorem dX8_follows_5 : decode cX8_follows 5 = .ok (.invokevirtual 121, 3) := by decide +kernel
theorem dX8_follows_8 : decode cX8_follows 8 = .ok (.ifCond .ne 11, 3) := by decide +kernel
theorem dX8_follows_11 : decode cX8_follows 11 = .ok (.new 78, 3) := by decide +kernel
theorem dX8_follows_14 : decode cX8_follows 14 = .ok (.dup, 1) := by decide +kernel
theorem dX8_follows_15 : decode cX8_follows 15 = .ok (.invokespecial 80, 3) := by decide +kernel
theorem dX8_follows_18 : decode cX8_follows 18 = .ok (.athrow, 1) := by decide +kernel
theorem dX8_follows_19 : decode cX8_follows 19 = .ok (.aload_n 0, 1) := by decide +kernel
theorem dX8_follows_20 : decode cX8_follows 20 = .ok (.getfield 28, 3) := by decide +kernel
theorem dX8_follows_23 : decode cX8_follows 23 = .ok (.invokevirtual 146, 3) := by decide +kernel
theorem dX8_follows_26 : decode cX8_follows 26 = .ok (.ifCond .eq 14, 3) := by decide +kernel
theorem dX8_follows_29 : decode cX8_follows 29 = .ok (.aload_n 0, 1) := by decide +kernel
theorem dX8_follows_30 : decode cX8_follows 30 = .ok (.getfield 28, 3) := by decide +kernel
theorem dX8_follows_33 : decode cX8_follows 33 = .ok (.iload_n 1, 1) := by decide +kernel
theorem dX8_follows_34 : decode cX8_follows 34 = .ok (.invokevirtual 163, 3) := by decide +kernel
theorem dX8_follows_37 : decode cX8_follows 37 = .ok (.ifCond .eq 7, 3) := by decide +kernel
theorem dX8_follows_40 : decode cX8_follows 40 = .ok (.iconst 1, 1) := by decide +kernel
theorem dX8_follows_41 : decode cX8_follows 41 = .ok (.goto 4, 3) := by decide +kernel
theorem dX8_follows_44 : decode cX8_follows 44 = .ok (.iconst 0, 1) := by decide +kernel
theorem dX8_follows_45 : decode cX8_follows 45 = .ok (.ireturn, 1) := by decide +kernel
theorem dX8_reasons_0 : decode cX8_reasons 0 = .ok (.aload_n 0, 1) := by decide +kernel
theorem dX8_reasons_1 : decode cX8_reasons 1 = .ok (.getfield 19, 3) := by decide +kernel
theorem dX8_reasons_4 : decode cX8_reasons 4 = .ok (.iload_n 1, 1) := by decide +kernel
theorem dX8_reasons_5 : decode cX8_reasons 5 = .ok (.invokevirtual 121, 3) := by decide +kernel
theorem dX8_reasons_8 : decode cX8_reasons 8 = .ok (.ifCond .ne 11, 3) := by decide +kernel
theorem dX8_reasons_11 : decode cX8_reasons 11 = .ok (.new 78, 3) := by decide +kernel
theorem dX8_reasons_14 : decode cX8_reasons 14 = .ok (.dup, 1) := by decide +kernel
theorem dX8_reasons_15 : decode cX8_reasons 15 = .ok (.invokespecial 80, 3) := by decide +kernel
theorem dX8_reasons_18 : decode cX8_reasons 18 = .ok (.athrow, 1) := by decide +kernel
theorem dX8_reasons_19 : decode cX8_reasons 19 = .ok (.aload_n 0, 1) := by decide +kernel
theorem dX8_reasons_20 : decode cX8_reasons 20 = .ok (.getfield 28, 3) := by decide +kernel
theorem dX8_reasons_23 : decode cX8_reasons 23 = .ok (.invokevirtual 146, 3) := by decide +kernel
theorem dX8_reasons_26 : decode cX8_reasons 26 = .ok (.ifCond .eq 22, 3) := by decide +kernel
theorem dX8_reasons_29 : decode cX8_reasons 29 = .ok (.aload_n 0, 1) := by decide +kernel
theorem dX8_reasons_30 : decode cX8_reasons 30 = .ok (.getfield 28, 3) := by decide +kernel
theorem dX8_reasons_33 : decode cX8_reasons 33 = .ok (.iload_n 1, 1) := by decide +kernel
theorem dX8_reasons_34 : decode cX8_reasons 34 = .ok (.invokevirtual 163, 3) := by decide +kernel
theorem dX8_reasons_37 : decode cX8_reasons 37 = .ok (.ifCond .ne 11, 3) := by decide +kernel
theorem dX8_reasons_40 : decode cX8_reasons 40 = .ok (.new 61, 3) := by decide +kernel
theorem dX8_reasons_43 : decode cX8_reasons 43 = .ok (.dup, 1) := by decide +kernel
theorem dX8_reasons_44 : decode cX8_reasons 44 = .ok (.invokespecial 63, 3) := by decide +kernel
theorem dX8_reasons_47 : decode cX8_reasons 47 = .ok (.athrow, 1) := by decide +kernel
theorem dX8_reasons_48 : decode cX8_reasons 48 = .ok (.aload_n 0, 1) := by decide +kernel
theorem dX8_reasons_49 : decode cX8_reasons 49 = .ok (.getfield 28, 3) := by decide +kernel
theorem dX8_reasons_52 : decode cX8_reasons 52 = .ok (.iload_n 1, 1) := by decide +kernel
theorem dX8_reasons_53 : decode cX8_reasons 53 = .ok (.invokevirtual 149, 3) := by decide +kernel
theorem dX8_reasons_56 : decode cX8_reasons 56 = .ok (.invokestatic 152, 3) := by decide +kernel
theorem dX8_reasons_59 : decode cX8_reasons 59 = .ok (.ireturn, 1) := by decide +kernel
theorem dX8_reasonAt_0 : decode cX8_reasonAt 0 = .ok (.aload_n 0, 1) := by decide +kernel
theorem dX8_reasonAt_1 : decode cX8_reasonAt 1 = .ok (.getfield 19, 3) := by decide +kernel
theorem dX8_reasonAt_4 : decode cX8_reasonAt 4 = .ok (.iload_n 1, 1) := by decide +kernel
theorem dX8_reasonAt_5 : decode cX8_reasonAt 5 = .ok (.invokevirtual 121, 3) := by decide +kernel
theorem dX8_reasonAt_8 : decode cX8_reasonAt 8 = .ok (.ifCond .ne 11, 3) := by decide +kernel
theorem dX8_reasonAt_11 : decode cX8_reasonAt 11 = .ok (.new 78, 3) := by decide +kernel
theorem dX8_reasonAt_14 : decode cX8_reasonAt 14 = .ok (.dup, 1) := by decide +kernel
theorem dX8_reasonAt_15 : decode cX8_reasonAt 15 = .ok (.invokespecial 80, 3) := by decide +kernel
theorem dX8_reasonAt_18 : decode cX8_reasonAt 18 = .ok (.athrow, 1) := by decide +kernel
theorem dX8_reasonAt_19 : decode cX8_reasonAt 19 = .ok (.aload_n 0, 1) := by decide +kernel
theorem dX8_reasonAt_20 : decode cX8_reasonAt 20 = .ok (.getfield 28, 3) := by decide +kernel
theorem dX8_reasonAt_23 : decode cX8_reasonAt 23 = .ok (.invokevirtual 146, 3) := by decide +kernel
theorem dX8_reasonAt_26 : decode cX8_reasonAt 26 = .ok (.ifCond .eq 22, 3) := by decide +kernel
theorem dX8_reasonAt_29 : decode cX8_reasonAt 29 = .ok (.aload_n 0, 1) := by decide +kernel
theorem dX8_reasonAt_30 : decode cX8_reasonAt 30 = .ok (.getfield 28, 3) := by decide +kernel
theorem dX8_reasonAt_33 : decode cX8_reasonAt 33 = .ok (.iload_n 1, 1) := by decide +kernel
theorem dX8_reasonAt_34 : decode cX8_reasonAt 34 = .ok (.invokevirtual 163, 3) := by decide +kernel
theorem dX8_reasonAt_37 : decode cX8_reasonAt 37 = .ok (.ifCond .ne 11, 3) := by decide +kernel
theorem dX8_reasonAt_40 : decode cX8_reasonAt 40 = .ok (.new 61, 3) := by decide +kernel
theorem dX8_reasonAt_43 : decode cX8_reasonAt 43 = .ok (.dup, 1) := by decide +kernel
theorem dX8_reasonAt_44 : decode cX8_reasonAt 44 = .ok (.invokespecial 63, 3) := by decide +kernel
theorem dX8_reasonAt_47 : decode cX8_reasonAt 47 = .ok (.athrow, 1) := by decide +kernel
theorem dX8_reasonAt_48 : decode cX8_reasonAt 48 = .ok (.aload_n 0, 1) := by decide +kernel
theorem dX8_reasonAt_49 : decode cX8_reasonAt 49 = .ok (.getfield 28, 3) := by decide +kernel
theorem dX8_reasonAt_52 : decode cX8_reasonAt 52 = .ok (.iload_n 1, 1) := by decide +kernel
theorem dX8_reasonAt_53 : decode cX8_reasonAt 53 = .ok (.invokevirtual 149, 3) := by decide +kernel
theorem dX8_reasonAt_56 : decode cX8_reasonAt 56 = .ok (.istore_n 3, 1) := by decide +kernel
theorem dX8_reasonAt_57 : decode cX8_reasonAt 57 = .ok (.iload_n 2, 1) := by decide +kernel
theorem dX8_reasonAt_58 : decode cX8_reasonAt 58 = .ok (.ifCond .lt 11, 3) := by decide +kernel
theorem dX8_reasonAt_61 : decode cX8_reasonAt 61 = .ok (.iload_n 2, 1) := by decide +kernel
theorem dX8_reasonAt_62 : decode cX8_reasonAt 62 = .ok (.iload_n 3, 1) := by decide +kernel
theorem dX8_reasonAt_63 : decode cX8_reasonAt 63 = .ok (.invokestatic 152, 3) := by decide +kernel
theorem dX8_reasonAt_66 : decode cX8_reasonAt 66 = .ok (.if_icmp .lt 11, 3) := by decide +kernel
theorem dX8_reasonAt_69 : decode cX8_reasonAt 69 = .ok (.new 157, 3) := by decide +kernel
theorem dX8_reasonAt_72 : decode cX8_reasonAt 72 = .ok (.dup, 1) := by decide +kernel
theorem dX8_reasonAt_73 : decode cX8_reasonAt 73 = .ok (.invokespecial 159, 3) := by decide +kernel
theorem dX8_reasonAt_76 : decode cX8_reasonAt 76 = .ok (.athrow, 1) := by decide +kernel
theorem dX8_reasonAt_77 : decode cX8_reasonAt 77 = .ok (.iload_n 3, 1) := by decide +kernel
theorem dX8_reasonAt_78 : decode cX8_reasonAt 78 = .ok (.iload_n 2, 1) := by decide +kernel
theorem dX8_reasonAt_79 : decode cX8_reasonAt 79 = .ok (.invokestatic 160, 3) := by decide +kernel
theorem dX8_reasonAt_82 : decode cX8_reasonAt 82 = .ok (.ireturn, 1) := by decide +kernel
theorem dX8_bound_0 : decode cX8_bound 0 = .ok (.aload_n 0, 1) := by decide +kernel
theorem dX8_bound_1 : decode cX8_bound 1 = .ok (.getfield 10, 3) := by decide +kernel
theorem dX8_bound_4 : decode cX8_bound 4 = .ok (.iload_n 1, 1) := by decide +kernel
theorem dX8_bound_5 : decode cX8_bound 5 = .ok (.invokevirtual 74, 3) := by decide +kernel
theorem dX8_bound_8 : decode cX8_bound 8 = .ok (.ifCond .eq 14, 3) := by decide +kernel
theorem dX8_bound_11 : decode cX8_bound 11 = .ok (.aload_n 0, 1) := by decide +kernel
theorem dX8_bound_12 : decode cX8_bound 12 = .ok (.getfield 10, 3) := by decide +kernel
theorem dX8_bound_15 : decode cX8_bound 15 = .ok (.iload_n 2, 1) := by decide +kernel
theorem dX8_bound_16 : decode cX8_bound 16 = .ok (.invokevirtual 74, 3) := by decide +kernel
theorem dX8_bound_19 : decode cX8_bound 19 = .ok (.ifCond .ne 11, 3) := by decide +kernel
theorem dX8_bound_22 : decode cX8_bound 22 = .ok (.new 78, 3) := by decide +kernel
theorem dX8_bound_25 : decode cX8_bound 25 = .ok (.dup, 1) := by decide +kernel
theorem dX8_bound_26 : decode cX8_bound 26 = .ok (.invokespecial 80, 3) := by decide +kernel
theorem dX8_bound_29 : decode cX8_bound 29 = .ok (.athrow, 1) := by decide +kernel
theorem dX8_bound_30 : decode cX8_bound 30 = .ok (.aload_n 0, 1) := by decide +kernel
theorem dX8_bound_31 : decode cX8_bound 31 = .ok (.getfield 28, 3) := by decide +kernel
theorem dX8_bound_34 : decode cX8_bound 34 = .ok (.invokevirtual 146, 3) := by decide +kernel
theorem dX8_bound_37 : decode cX8_bound 37 = .ok (.ifCond .ne 11, 3) := by decide +kernel
theorem dX8_bound_40 : decode cX8_bound 40 = .ok (.new 61, 3) := by decide +kernel
theorem dX8_bound_43 : decode cX8_bound 43 = .ok (.dup, 1) := by decide +kernel
theorem dX8_bound_44 : decode cX8_bound 44 = .ok (.invokespecial 63, 3) := by decide +kernel
theorem dX8_bound_47 : decode cX8_bound 47 = .ok (.athrow, 1) := by decide +kernel
theorem dX8_bound_48 : decode cX8_bound 48 = .ok (.aload_n 0, 1) := by decide +kernel
theorem dX8_bound_49 : decode cX8_bound 49 = .ok (.getfield 28, 3) := by decide +kernel
theorem dX8_bound_52 : decode cX8_bound 52 = .ok (.iload_n 1, 1) := by decide +kernel
theorem dX8_bound_53 : decode cX8_bound 53 = .ok (.iload_n 2, 1) := by decide +kernel
theorem dX8_bound_54 : decode cX8_bound 54 = .ok (.invokevirtual 166, 3) := by decide +kernel
theorem dX8_bound_57 : decode cX8_bound 57 = .ok (.istore_n 3, 1) := by decide +kernel
theorem dX8_bound_58 : decode cX8_bound 58 = .ok (.iload_n 3, 1) := by decide +kernel
theorem dX8_bound_59 : decode cX8_bound 59 = .ok (.sipush 400, 3) := by decide +kernel
theorem dX8_bound_62 : decode cX8_bound 62 = .ok (.if_icmp .le 11, 3) := by decide +kernel
theorem dX8_bound_65 : decode cX8_bound 65 = .ok (.new 169, 3) := by decide +kernel
theorem dX8_bound_68 : decode cX8_bound 68 = .ok (.dup, 1) := by decide +kernel
theorem dX8_bound_69 : decode cX8_bound 69 = .ok (.invokespecial 171, 3) := by decide +kernel
theorem dX8_bound_72 : decode cX8_bound 72 = .ok (.athrow, 1) := by decide +kernel
theorem dX8_bound_73 : decode cX8_bound 73 = .ok (.iload_n 3, 1) := by decide +kernel
theorem dX8_bound_74 : decode cX8_bound 74 = .ok (.ireturn, 1) := by decide +kernel
theorem dX8_classOf_0 : decode cX8_classOf 0 = .ok (.aload_n 0, 1) := by decide +kernel
theorem dX8_classOf_1 : decode cX8_classOf 1 = .ok (.getfield 10, 3) := by decide +kernel
theorem dX8_classOf_4 : decode cX8_classOf 4 = .ok (.iload_n 1, 1) := by decide +kernel
theorem dX8_classOf_5 : decode cX8_classOf 5 = .ok (.invokevirtual 74, 3) := by decide +kernel
theorem dX8_classOf_8 : decode cX8_classOf 8 = .ok (.ifCond .ne 11, 3) := by decide +kernel
theorem dX8_classOf_11 : decode cX8_classOf 11 = .ok (.new 78, 3) := by decide +kernel
theorem dX8_classOf_14 : decode cX8_classOf 14 = .ok (.dup, 1) := by decide +kernel
theorem dX8_classOf_15 : decode cX8_classOf 15 = .ok (.invokespecial 80, 3) := by decide +kernel
theorem dX8_classOf_18 : decode cX8_classOf 18 = .ok (.athrow, 1) := by decide +kernel
theorem dX8_classOf_19 : decode cX8_classOf 19 = .ok (.aload_n 0, 1) := by decide +kernel
theorem dX8_classOf_20 : decode cX8_classOf 20 = .ok (.getfield 28, 3) := by decide +kernel
theorem dX8_classOf_23 : decode cX8_classOf 23 = .ok (.invokevirtual 146, 3) := by decide +kernel
theorem dX8_classOf_26 : decode cX8_classOf 26 = .ok (.ifCond .ne 11, 3) := by decide +kernel
theorem dX8_classOf_29 : decode cX8_classOf 29 = .ok (.new 61, 3) := by decide +kernel
theorem dX8_classOf_32 : decode cX8_classOf 32 = .ok (.dup, 1) := by decide +kernel
theorem dX8_classOf_33 : decode cX8_classOf 33 = .ok (.invokespecial 63, 3) := by decide +kernel
theorem dX8_classOf_36 : decode cX8_classOf 36 = .ok (.athrow, 1) := by decide +kernel
theorem dX8_classOf_37 : decode cX8_classOf 37 = .ok (.aload_n 0, 1) := by decide +kernel
theorem dX8_classOf_38 : decode cX8_classOf 38 = .ok (.getfield 28, 3) := by decide +kernel
theorem dX8_classOf_41 : decode cX8_classOf 41 = .ok (.invokevirtual 172, 3) := by decide +kernel
theorem dX8_classOf_44 : decode cX8_classOf 44 = .ok (.aload_n 0, 1) := by decide +kernel
theorem dX8_classOf_45 : decode cX8_classOf 45 = .ok (.getfield 28, 3) := by decide +kernel
theorem dX8_classOf_48 : decode cX8_classOf 48 = .ok (.getfield 175, 3) := by decide +kernel
theorem dX8_classOf_51 : decode cX8_classOf 51 = .ok (.iload_n 1, 1) := by decide +kernel
theorem dX8_classOf_52 : decode cX8_classOf 52 = .ok (.iaload, 1) := by decide +kernel
theorem dX8_classOf_53 : decode cX8_classOf 53 = .ok (.ireturn, 1) := by decide +kernel
theorem dX8_classes_0 : decode cX8_classes 0 = .ok (.aload_n 0, 1) := by decide +kernel
theorem dX8_classes_1 : decode cX8_classes 1 = .ok (.getfield 28, 3) := by decide +kernel
theorem dX8_classes_4 : decode cX8_classes 4 = .ok (.invokevirtual 146, 3) := by decide +kernel
theorem dX8_classes_7 : decode cX8_classes 7 = .ok (.ifCond .ne 11, 3) := by decide +kernel
theorem dX8_classes_10 : decode cX8_classes 10 = .ok (.new 61, 3) := by decide +kernel
theorem dX8_classes_13 : decode cX8_classes 13 = .ok (.dup, 1) := by decide +kernel
theorem dX8_classes_14 : decode cX8_classes 14 = .ok (.invokespecial 63, 3) := by decide +kernel
theorem dX8_classes_17 : decode cX8_classes 17 = .ok (.athrow, 1) := by decide +kernel
theorem dX8_classes_18 : decode cX8_classes 18 = .ok (.aload_n 0, 1) := by decide +kernel
theorem dX8_classes_19 : decode cX8_classes 19 = .ok (.getfield 28, 3) := by decide +kernel
theorem dX8_classes_22 : decode cX8_classes 22 = .ok (.invokevirtual 172, 3) := by decide +kernel
theorem dX8_classes_25 : decode cX8_classes 25 = .ok (.iconst 0, 1) := by decide +kernel
theorem dX8_classes_26 : decode cX8_classes 26 = .ok (.istore_n 1, 1) := by decide +kernel
theorem dX8_classes_27 : decode cX8_classes 27 = .ok (.iconst 0, 1) := by decide +kernel
theorem dX8_classes_28 : decode cX8_classes 28 = .ok (.istore_n 2, 1) := by decide +kernel
theorem dX8_classes_29 : decode cX8_classes 29 = .ok (.iload_n 2, 1) := by decide +kernel
theorem dX8_classes_30 : decode cX8_classes 30 = .ok (.aload_n 0, 1) := by decide +kernel
theorem dX8_classes_31 : decode cX8_classes 31 = .ok (.getfield 10, 3) := by decide +kernel
theorem dX8_classes_34 : decode cX8_classes 34 = .ok (.getfield 87, 3) := by decide +kernel
theorem dX8_classes_37 : decode cX8_classes 37 = .ok (.if_icmp .ge 36, 3) := by decide +kernel
theorem dX8_classes_40 : decode cX8_classes 40 = .ok (.aload_n 0, 1) := by decide +kernel
theorem dX8_classes_41 : decode cX8_classes 41 = .ok (.getfield 10, 3) := by decide +kernel
theorem dX8_classes_44 : decode cX8_classes 44 = .ok (.iload_n 2, 1) := by decide +kernel
theorem dX8_classes_45 : decode cX8_classes 45 = .ok (.invokevirtual 74, 3) := by decide +kernel
theorem dX8_classes_48 : decode cX8_classes 48 = .ok (.ifCond .eq 19, 3) := by decide +kernel
theorem dX8_classes_51 : decode cX8_classes 51 = .ok (.aload_n 0, 1) := by decide +kernel
theorem dX8_classes_52 : decode cX8_classes 52 = .ok (.getfield 28, 3) := by decide +kernel
theorem dX8_classes_55 : decode cX8_classes 55 = .ok (.getfield 175, 3) := by decide +kernel
theorem dX8_classes_58 : decode cX8_classes 58 = .ok (.iload_n 2, 1) := by decide +kernel
theorem dX8_classes_59 : decode cX8_classes 59 = .ok (.iaload, 1) := by decide +kernel
theorem dX8_classes_60 : decode cX8_classes 60 = .ok (.iload_n 2, 1) := by decide +kernel
theorem dX8_classes_61 : decode cX8_classes 61 = .ok (.if_icmp .ne 6, 3) := by decide +kernel
theorem dX8_classes_64 : decode cX8_classes 64 = .ok (.iinc 1 1, 3) := by decide +kernel
theorem dX8_classes_67 : decode cX8_classes 67 = .ok (.iinc 2 1, 3) := by decide +kernel
theorem dX8_classes_70 : decode cX8_classes 70 = .ok (.goto (-41), 3) := by decide +kernel
theorem dX8_classes_73 : decode cX8_classes 73 = .ok (.iload_n 1, 1) := by decide +kernel
theorem dX8_classes_74 : decode cX8_classes 74 = .ok (.ireturn, 1) := by decide +kernel
theorem dX8_valueOf_0 : decode cX8_valueOf 0 = .ok (.aload_n 0, 1) := by decide +kernel
theorem dX8_valueOf_1 : decode cX8_valueOf 1 = .ok (.getfield 10, 3) := by decide +kernel
theorem dX8_valueOf_4 : decode cX8_valueOf 4 = .ok (.iload_n 1, 1) := by decide +kernel
theorem dX8_valueOf_5 : decode cX8_valueOf 5 = .ok (.invokevirtual 74, 3) := by decide +kernel
theorem dX8_valueOf_8 : decode cX8_valueOf 8 = .ok (.ifCond .ne 11, 3) := by decide +kernel
theorem dX8_valueOf_11 : decode cX8_valueOf 11 = .ok (.new 78, 3) := by decide +kernel
theorem dX8_valueOf_14 : decode cX8_valueOf 14 = .ok (.dup, 1) := by decide +kernel
theorem dX8_valueOf_15 : decode cX8_valueOf 15 = .ok (.invokespecial 80, 3) := by decide +kernel
theorem dX8_valueOf_18 : decode cX8_valueOf 18 = .ok (.athrow, 1) := by decide +kernel
theorem dX8_valueOf_19 : decode cX8_valueOf 19 = .ok (.aload_n 0, 1) := by decide +kernel
theorem dX8_valueOf_20 : decode cX8_valueOf 20 = .ok (.getfield 28, 3) := by decide +kernel
theorem dX8_valueOf_23 : decode cX8_valueOf 23 = .ok (.invokevirtual 146, 3) := by decide +kernel
theorem dX8_valueOf_26 : decode cX8_valueOf 26 = .ok (.ifCond .ne 11, 3) := by decide +kernel
theorem dX8_valueOf_29 : decode cX8_valueOf 29 = .ok (.new 61, 3) := by decide +kernel
theorem dX8_valueOf_32 : decode cX8_valueOf 32 = .ok (.dup, 1) := by decide +kernel
theorem dX8_valueOf_33 : decode cX8_valueOf 33 = .ok (.invokespecial 63, 3) := by decide +kernel
theorem dX8_valueOf_36 : decode cX8_valueOf 36 = .ok (.athrow, 1) := by decide +kernel
theorem dX8_valueOf_37 : decode cX8_valueOf 37 = .ok (.aload_n 0, 1) := by decide +kernel
theorem dX8_valueOf_38 : decode cX8_valueOf 38 = .ok (.getfield 28, 3) := by decide +kernel
theorem dX8_valueOf_41 : decode cX8_valueOf 41 = .ok (.invokevirtual 178, 3) := by decide +kernel
theorem dX8_valueOf_44 : decode cX8_valueOf 44 = .ok (.aload_n 0, 1) := by decide +kernel
theorem dX8_valueOf_45 : decode cX8_valueOf 45 = .ok (.getfield 28, 3) := by decide +kernel
theorem dX8_valueOf_48 : decode cX8_valueOf 48 = .ok (.getfield 34, 3) := by decide +kernel
theorem dX8_valueOf_51 : decode cX8_valueOf 51 = .ok (.iload_n 1, 1) := by decide +kernel
theorem dX8_valueOf_52 : decode cX8_valueOf 52 = .ok (.iaload, 1) := by decide +kernel
theorem dX8_valueOf_53 : decode cX8_valueOf 53 = .ok (.ireturn, 1) := by decide +kernel
theorem dX8_functionAt_0 : decode cX8_functionAt 0 = .ok (.iload_n 1, 1) := by decide +kernel
theorem dX8_functionAt_1 : decode cX8_functionAt 1 = .ok (.ifCond .lt 8, 3) := by decide +kernel
theorem dX8_functionAt_4 : decode cX8_functionAt 4 = .ok (.iload_n 1, 1) := by decide +kernel
theorem dX8_functionAt_5 : decode cX8_functionAt 5 = .ok (.iconst 4, 1) := by decide +kernel
theorem dX8_functionAt_6 : decode cX8_functionAt 6 = .ok (.if_icmp .lt 11, 3) := by decide +kernel
theorem dX8_functionAt_9 : decode cX8_functionAt 9 = .ok (.new 71, 3) := by decide +kernel
theorem dX8_functionAt_12 : decode cX8_functionAt 12 = .ok (.dup, 1) := by decide +kernel
theorem dX8_functionAt_13 : decode cX8_functionAt 13 = .ok (.invokespecial 73, 3) := by decide +kernel
theorem dX8_functionAt_16 : decode cX8_functionAt 16 = .ok (.athrow, 1) := by decide +kernel
theorem dX8_functionAt_17 : decode cX8_functionAt 17 = .ok (.aload_n 0, 1) := by decide +kernel
theorem dX8_functionAt_18 : decode cX8_functionAt 18 = .ok (.getfield 28, 3) := by decide +kernel
theorem dX8_functionAt_21 : decode cX8_functionAt 21 = .ok (.invokevirtual 146, 3) := by decide +kernel
theorem dX8_functionAt_24 : decode cX8_functionAt 24 = .ok (.ifCond .ne 11, 3) := by decide +kernel
theorem dX8_functionAt_27 : decode cX8_functionAt 27 = .ok (.new 61, 3) := by decide +kernel
theorem dX8_functionAt_30 : decode cX8_functionAt 30 = .ok (.dup, 1) := by decide +kernel
theorem dX8_functionAt_31 : decode cX8_functionAt 31 = .ok (.invokespecial 63, 3) := by decide +kernel
theorem dX8_functionAt_34 : decode cX8_functionAt 34 = .ok (.athrow, 1) := by decide +kernel
theorem dX8_functionAt_35 : decode cX8_functionAt 35 = .ok (.aload_n 0, 1) := by decide +kernel
theorem dX8_functionAt_36 : decode cX8_functionAt 36 = .ok (.getfield 28, 3) := by decide +kernel
theorem dX8_functionAt_39 : decode cX8_functionAt 39 = .ok (.invokevirtual 178, 3) := by decide +kernel
theorem dX8_functionAt_42 : decode cX8_functionAt 42 = .ok (.aload_n 0, 1) := by decide +kernel
theorem dX8_functionAt_43 : decode cX8_functionAt 43 = .ok (.getfield 41, 3) := by decide +kernel
theorem dX8_functionAt_46 : decode cX8_functionAt 46 = .ok (.iload_n 1, 1) := by decide +kernel
theorem dX8_functionAt_47 : decode cX8_functionAt 47 = .ok (.iload_n 2, 1) := by decide +kernel
theorem dX8_functionAt_48 : decode cX8_functionAt 48 = .ok (.iload_n 3, 1) := by decide +kernel
theorem dX8_functionAt_49 : decode cX8_functionAt 49 = .ok (.invokevirtual 181, 3) := by decide +kernel
theorem dX8_functionAt_52 : decode cX8_functionAt 52 = .ok (.ireturn, 1) := by decide +kernel
theorem dX8_entry_0 : decode cX8_entry 0 = .ok (.aload_n 0, 1) := by decide +kernel
theorem dX8_entry_1 : decode cX8_entry 1 = .ok (.getfield 10, 3) := by decide +kernel
theorem dX8_entry_4 : decode cX8_entry 4 = .ok (.iload_n 1, 1) := by decide +kernel
theorem dX8_entry_5 : decode cX8_entry 5 = .ok (.invokevirtual 84, 3) := by decide +kernel
theorem dX8_entry_8 : decode cX8_entry 8 = .ok (.ifCond .ne 11, 3) := by decide +kernel
theorem dX8_entry_11 : decode cX8_entry 11 = .ok (.new 78, 3) := by decide +kernel
theorem dX8_entry_14 : decode cX8_entry 14 = .ok (.dup, 1) := by decide +kernel
theorem dX8_entry_15 : decode cX8_entry 15 = .ok (.invokespecial 80, 3) := by decide +kernel
theorem dX8_entry_18 : decode cX8_entry 18 = .ok (.athrow, 1) := by decide +kernel
theorem dX8_entry_19 : decode cX8_entry 19 = .ok (.aload_n 0, 1) := by decide +kernel
theorem dX8_entry_20 : decode cX8_entry 20 = .ok (.getfield 28, 3) := by decide +kernel
theorem dX8_entry_23 : decode cX8_entry 23 = .ok (.invokevirtual 146, 3) := by decide +kernel
theorem dX8_entry_26 : decode cX8_entry 26 = .ok (.ifCond .ne 11, 3) := by decide +kernel
theorem dX8_entry_29 : decode cX8_entry 29 = .ok (.new 61, 3) := by decide +kernel
theorem dX8_entry_32 : decode cX8_entry 32 = .ok (.dup, 1) := by decide +kernel
theorem dX8_entry_33 : decode cX8_entry 33 = .ok (.invokespecial 63, 3) := by decide +kernel
theorem dX8_entry_36 : decode cX8_entry 36 = .ok (.athrow, 1) := by decide +kernel
theorem dX8_entry_37 : decode cX8_entry 37 = .ok (.aload_n 0, 1) := by decide +kernel
theorem dX8_entry_38 : decode cX8_entry 38 = .ok (.getfield 28, 3) := by decide +kernel
theorem dX8_entry_41 : decode cX8_entry 41 = .ok (.invokevirtual 178, 3) := by decide +kernel
theorem dX8_entry_44 : decode cX8_entry 44 = .ok (.aload_n 0, 1) := by decide +kernel
theorem dX8_entry_45 : decode cX8_entry 45 = .ok (.getfield 41, 3) := by decide +kernel
theorem dX8_entry_48 : decode cX8_entry 48 = .ok (.iload_n 1, 1) := by decide +kernel
theorem dX8_entry_49 : decode cX8_entry 49 = .ok (.iload_n 2, 1) := by decide +kernel
theorem dX8_entry_50 : decode cX8_entry 50 = .ok (.invokevirtual 184, 3) := by decide +kernel
theorem dX8_entry_53 : decode cX8_entry 53 = .ok (.ireturn, 1) := by decide +kernel
theorem dX8_isTrue_0 : decode cX8_isTrue 0 = .ok (.aload_n 0, 1) := by decide +kernel
theorem dX8_isTrue_1 : decode cX8_isTrue 1 = .ok (.getfield 19, 3) := by decide +kernel
theorem dX8_isTrue_4 : decode cX8_isTrue 4 = .ok (.iload_n 1, 1) := by decide +kernel
theorem dX8_isTrue_5 : decode cX8_isTrue 5 = .ok (.invokevirtual 121, 3) := by decide +kernel
theorem dX8_isTrue_8 : decode cX8_isTrue 8 = .ok (.ifCond .ne 11, 3) := by decide +kernel
theorem dX8_isTrue_11 : decode cX8_isTrue 11 = .ok (.new 78, 3) := by decide +kernel
theorem dX8_isTrue_14 : decode cX8_isTrue 14 = .ok (.dup, 1) := by decide +kernel
theorem dX8_isTrue_15 : decode cX8_isTrue 15 = .ok (.invokespecial 80, 3) := by decide +kernel
theorem dX8_isTrue_18 : decode cX8_isTrue 18 = .ok (.athrow, 1) := by decide +kernel
theorem dX8_isTrue_19 : decode cX8_isTrue 19 = .ok (.aload_n 0, 1) := by decide +kernel
theorem dX8_isTrue_20 : decode cX8_isTrue 20 = .ok (.getfield 28, 3) := by decide +kernel
theorem dX8_isTrue_23 : decode cX8_isTrue 23 = .ok (.invokevirtual 146, 3) := by decide +kernel
theorem dX8_isTrue_26 : decode cX8_isTrue 26 = .ok (.ifCond .ne 11, 3) := by decide +kernel
theorem dX8_isTrue_29 : decode cX8_isTrue 29 = .ok (.new 61, 3) := by decide +kernel
theorem dX8_isTrue_32 : decode cX8_isTrue 32 = .ok (.dup, 1) := by decide +kernel
theorem dX8_isTrue_33 : decode cX8_isTrue 33 = .ok (.invokespecial 63, 3) := by decide +kernel
theorem dX8_isTrue_36 : decode cX8_isTrue 36 = .ok (.athrow, 1) := by decide +kernel
theorem dX8_isTrue_37 : decode cX8_isTrue 37 = .ok (.aload_n 0, 1) := by decide +kernel
theorem dX8_isTrue_38 : decode cX8_isTrue 38 = .ok (.getfield 28, 3) := by decide +kernel
theorem dX8_isTrue_41 : decode cX8_isTrue 41 = .ok (.invokevirtual 178, 3) := by decide +kernel
theorem dX8_isTrue_44 : decode cX8_isTrue 44 = .ok (.aload_n 0, 1) := by decide +kernel
theorem dX8_isTrue_45 : decode cX8_isTrue 45 = .ok (.getfield 41, 3) := by decide +kernel
theorem dX8_isTrue_48 : decode cX8_isTrue 48 = .ok (.iload_n 1, 1) := by decide +kernel
theorem dX8_isTrue_49 : decode cX8_isTrue 49 = .ok (.invokevirtual 187, 3) := by decide +kernel
theorem dX8_isTrue_52 : decode cX8_isTrue 52 = .ok (.ireturn, 1) := by decide +kernel
theorem dX8_trueLiterals_0 : decode cX8_trueLiterals 0 = .ok (.aload_n 0, 1) := by decide +kernel
theorem dX8_trueLiterals_1 : decode cX8_trueLiterals 1 = .ok (.getfield 28, 3) := by decide +kernel
theorem dX8_trueLiterals_4 : decode cX8_trueLiterals 4 = .ok (.invokevirtual 146, 3) := by decide +kernel
theorem dX8_trueLiterals_7 : decode cX8_trueLiterals 7 = .ok (.ifCond .ne 11, 3) := by decide +kernel
theorem dX8_trueLiterals_10 : decode cX8_trueLiterals 10 = .ok (.new 61, 3) := by decide +kernel
theorem dX8_trueLiterals_13 : decode cX8_trueLiterals 13 = .ok (.dup, 1) := by decide +kernel
theorem dX8_trueLiterals_14 : decode cX8_trueLiterals 14 = .ok (.invokespecial 63, 3) := by decide +kernel
theorem dX8_trueLiterals_17 : decode cX8_trueLiterals 17 = .ok (.athrow, 1) := by decide +kernel
theorem dX8_trueLiterals_18 : decode cX8_trueLiterals 18 = .ok (.aload_n 0, 1) := by decide +kernel
theorem dX8_trueLiterals_19 : decode cX8_trueLiterals 19 = .ok (.getfield 28, 3) := by decide +kernel
theorem dX8_trueLiterals_22 : decode cX8_trueLiterals 22 = .ok (.invokevirtual 178, 3) := by decide +kernel
theorem dX8_trueLiterals_25 : decode cX8_trueLiterals 25 = .ok (.lconst 0, 1) := by decide +kernel
theorem dX8_trueLiterals_26 : decode cX8_trueLiterals 26 = .ok (.lstore_n 1, 1) := by decide +kernel
theorem dX8_trueLiterals_27 : decode cX8_trueLiterals 27 = .ok (.iconst 0, 1) := by decide +kernel
theorem dX8_trueLiterals_28 : decode cX8_trueLiterals 28 = .ok (.istore_n 3, 1) := by decide +kernel
theorem dX8_trueLiterals_29 : decode cX8_trueLiterals 29 = .ok (.iload_n 3, 1) := by decide +kernel
theorem dX8_trueLiterals_30 : decode cX8_trueLiterals 30 = .ok (.aload_n 0, 1) := by decide +kernel
theorem dX8_trueLiterals_31 : decode cX8_trueLiterals 31 = .ok (.getfield 19, 3) := by decide +kernel
theorem dX8_trueLiterals_34 : decode cX8_trueLiterals 34 = .ok (.getfield 130, 3) := by decide +kernel
theorem dX8_trueLiterals_37 : decode cX8_trueLiterals 37 = .ok (.if_icmp .ge 21, 3) := by decide +kernel
theorem dX8_trueLiterals_40 : decode cX8_trueLiterals 40 = .ok (.lload_n 1, 1) := by decide +kernel
theorem dX8_trueLiterals_41 : decode cX8_trueLiterals 41 = .ok (.aload_n 0, 1) := by decide +kernel
theorem dX8_trueLiterals_42 : decode cX8_trueLiterals 42 = .ok (.getfield 41, 3) := by decide +kernel
theorem dX8_trueLiterals_45 : decode cX8_trueLiterals 45 = .ok (.iload_n 3, 1) := by decide +kernel
theorem dX8_trueLiterals_46 : decode cX8_trueLiterals 46 = .ok (.invokevirtual 190, 3) := by decide +kernel
theorem dX8_trueLiterals_49 : decode cX8_trueLiterals 49 = .ok (.i2l, 1) := by decide +kernel
theorem dX8_trueLiterals_50 : decode cX8_trueLiterals 50 = .ok (.ladd, 1) := by decide +kernel
theorem dX8_trueLiterals_51 : decode cX8_trueLiterals 51 = .ok (.lstore_n 1, 1) := by decide +kernel
theorem dX8_trueLiterals_52 : decode cX8_trueLiterals 52 = .ok (.iinc 3 1, 3) := by decide +kernel
theorem dX8_trueLiterals_55 : decode cX8_trueLiterals 55 = .ok (.goto (-26), 3) := by decide +kernel
theorem dX8_trueLiterals_58 : decode cX8_trueLiterals 58 = .ok (.lload_n 1, 1) := by decide +kernel
theorem dX8_trueLiterals_59 : decode cX8_trueLiterals 59 = .ok (.lreturn, 1) := by decide +kernel
theorem dX8_coreShare_0 : decode cX8_coreShare 0 = .ok (.aload_n 0, 1) := by decide +kernel
theorem dX8_coreShare_1 : decode cX8_coreShare 1 = .ok (.getfield 28, 3) := by decide +kernel
theorem dX8_coreShare_4 : decode cX8_coreShare 4 = .ok (.invokevirtual 146, 3) := by decide +kernel
theorem dX8_coreShare_7 : decode cX8_coreShare 7 = .ok (.ifCond .eq 11, 3) := by decide +kernel
theorem dX8_coreShare_10 : decode cX8_coreShare 10 = .ok (.new 61, 3) := by decide +kernel
theorem dX8_coreShare_13 : decode cX8_coreShare 13 = .ok (.dup, 1) := by decide +kernel
theorem dX8_coreShare_14 : decode cX8_coreShare 14 = .ok (.invokespecial 63, 3) := by decide +kernel
theorem dX8_coreShare_17 : decode cX8_coreShare 17 = .ok (.athrow, 1) := by decide +kernel
theorem dX8_coreShare_18 : decode cX8_coreShare 18 = .ok (.aload_n 0, 1) := by decide +kernel
theorem dX8_coreShare_19 : decode cX8_coreShare 19 = .ok (.getfield 19, 3) := by decide +kernel
theorem dX8_coreShare_22 : decode cX8_coreShare 22 = .ok (.getfield 130, 3) := by decide +kernel
theorem dX8_coreShare_25 : decode cX8_coreShare 25 = .ok (.ifCond .gt 5, 3) := by decide +kernel
theorem dX8_coreShare_28 : decode cX8_coreShare 28 = .ok (.fconst 0, 1) := by decide +kernel
theorem dX8_coreShare_29 : decode cX8_coreShare 29 = .ok (.freturn, 1) := by decide +kernel
theorem dX8_coreShare_30 : decode cX8_coreShare 30 = .ok (.aload_n 0, 1) := by decide +kernel
theorem dX8_coreShare_31 : decode cX8_coreShare 31 = .ok (.getfield 28, 3) := by decide +kernel
theorem dX8_coreShare_34 : decode cX8_coreShare 34 = .ok (.iconst (-1), 1) := by decide +kernel
theorem dX8_coreShare_35 : decode cX8_coreShare 35 = .ok (.invokevirtual 149, 3) := by decide +kernel
theorem dX8_coreShare_38 : decode cX8_coreShare 38 = .ok (.invokestatic 152, 3) := by decide +kernel
theorem dX8_coreShare_41 : decode cX8_coreShare 41 = .ok (.i2f, 1) := by decide +kernel
theorem dX8_coreShare_42 : decode cX8_coreShare 42 = .ok (.aload_n 0, 1) := by decide +kernel
theorem dX8_coreShare_43 : decode cX8_coreShare 43 = .ok (.getfield 19, 3) := by decide +kernel
theorem dX8_coreShare_46 : decode cX8_coreShare 46 = .ok (.getfield 130, 3) := by decide +kernel
theorem dX8_coreShare_49 : decode cX8_coreShare 49 = .ok (.i2f, 1) := by decide +kernel
theorem dX8_coreShare_50 : decode cX8_coreShare 50 = .ok (.fdiv, 1) := by decide +kernel
theorem dX8_coreShare_51 : decode cX8_coreShare 51 = .ok (.freturn, 1) := by decide +kernel
theorem dX8_meanValue_0 : decode cX8_meanValue 0 = .ok (.aload_n 0, 1) := by decide +kernel
theorem dX8_meanValue_1 : decode cX8_meanValue 1 = .ok (.getfield 28, 3) := by decide +kernel
theorem dX8_meanValue_4 : decode cX8_meanValue 4 = .ok (.invokevirtual 146, 3) := by decide +kernel
theorem dX8_meanValue_7 : decode cX8_meanValue 7 = .ok (.ifCond .ne 11, 3) := by decide +kernel
theorem dX8_meanValue_10 : decode cX8_meanValue 10 = .ok (.new 61, 3) := by decide +kernel
theorem dX8_meanValue_13 : decode cX8_meanValue 13 = .ok (.dup, 1) := by decide +kernel
theorem dX8_meanValue_14 : decode cX8_meanValue 14 = .ok (.invokespecial 63, 3) := by decide +kernel
theorem dX8_meanValue_17 : decode cX8_meanValue 17 = .ok (.athrow, 1) := by decide +kernel
theorem dX8_meanValue_18 : decode cX8_meanValue 18 = .ok (.aload_n 0, 1) := by decide +kernel
theorem dX8_meanValue_19 : decode cX8_meanValue 19 = .ok (.getfield 28, 3) := by decide +kernel
theorem dX8_meanValue_22 : decode cX8_meanValue 22 = .ok (.invokevirtual 178, 3) := by decide +kernel
theorem dX8_meanValue_25 : decode cX8_meanValue 25 = .ok (.lconst 0, 1) := by decide +kernel
theorem dX8_meanValue_26 : decode cX8_meanValue 26 = .ok (.lstore_n 1, 1) := by decide +kernel
theorem dX8_meanValue_27 : decode cX8_meanValue 27 = .ok (.iconst 0, 1) := by decide +kernel
theorem dX8_meanValue_28 : decode cX8_meanValue 28 = .ok (.istore_n 3, 1) := by decide +kernel
theorem dX8_meanValue_29 : decode cX8_meanValue 29 = .ok (.iconst 0, 1) := by decide +kernel
theorem dX8_meanValue_30 : decode cX8_meanValue 30 = .ok (.istore 4, 2) := by decide +kernel
theorem dX8_meanValue_32 : decode cX8_meanValue 32 = .ok (.iload 4, 2) := by decide +kernel
theorem dX8_meanValue_34 : decode cX8_meanValue 34 = .ok (.aload_n 0, 1) := by decide +kernel
theorem dX8_meanValue_35 : decode cX8_meanValue 35 = .ok (.getfield 10, 3) := by decide +kernel
theorem dX8_meanValue_38 : decode cX8_meanValue 38 = .ok (.getfield 87, 3) := by decide +kernel
theorem dX8_meanValue_41 : decode cX8_meanValue 41 = .ok (.if_icmp .ge 38, 3) := by decide +kernel
theorem dX8_meanValue_44 : decode cX8_meanValue 44 = .ok (.aload_n 0, 1) := by decide +kernel
theorem dX8_meanValue_45 : decode cX8_meanValue 45 = .ok (.getfield 10, 3) := by decide +kernel
theorem dX8_meanValue_48 : decode cX8_meanValue 48 = .ok (.iload 4, 2) := by decide +kernel
theorem dX8_meanValue_50 : decode cX8_meanValue 50 = .ok (.invokevirtual 74, 3) := by decide +kernel
theorem dX8_meanValue_53 : decode cX8_meanValue 53 = .ok (.ifCond .eq 20, 3) := by decide +kernel
theorem dX8_meanValue_56 : decode cX8_meanValue 56 = .ok (.lload_n 1, 1) := by decide +kernel
theorem dX8_meanValue_57 : decode cX8_meanValue 57 = .ok (.aload_n 0, 1) := by decide +kernel
theorem dX8_meanValue_58 : decode cX8_meanValue 58 = .ok (.getfield 28, 3) := by decide +kernel
theorem dX8_meanValue_61 : decode cX8_meanValue 61 = .ok (.getfield 34, 3) := by decide +kernel
theorem dX8_meanValue_64 : decode cX8_meanValue 64 = .ok (.iload 4, 2) := by decide +kernel
theorem dX8_meanValue_66 : decode cX8_meanValue 66 = .ok (.iaload, 1) := by decide +kernel
theorem dX8_meanValue_67 : decode cX8_meanValue 67 = .ok (.i2l, 1) := by decide +kernel
theorem dX8_meanValue_68 : decode cX8_meanValue 68 = .ok (.ladd, 1) := by decide +kernel
theorem dX8_meanValue_69 : decode cX8_meanValue 69 = .ok (.lstore_n 1, 1) := by decide +kernel
theorem dX8_meanValue_70 : decode cX8_meanValue 70 = .ok (.iinc 3 1, 3) := by decide +kernel
theorem dX8_meanValue_73 : decode cX8_meanValue 73 = .ok (.iinc 4 1, 3) := by decide +kernel
theorem dX8_meanValue_76 : decode cX8_meanValue 76 = .ok (.goto (-44), 3) := by decide +kernel
theorem dX8_meanValue_79 : decode cX8_meanValue 79 = .ok (.iload_n 3, 1) := by decide +kernel
theorem dX8_meanValue_80 : decode cX8_meanValue 80 = .ok (.ifCond .ne 11, 3) := by decide +kernel
theorem dX8_meanValue_83 : decode cX8_meanValue 83 = .ok (.new 193, 3) := by decide +kernel
theorem dX8_meanValue_86 : decode cX8_meanValue 86 = .ok (.dup, 1) := by decide +kernel
theorem dX8_meanValue_87 : decode cX8_meanValue 87 = .ok (.invokespecial 195, 3) := by decide +kernel
theorem dX8_meanValue_90 : decode cX8_meanValue 90 = .ok (.athrow, 1) := by decide +kernel
theorem dX8_meanValue_91 : decode cX8_meanValue 91 = .ok (.lload_n 1, 1) := by decide +kernel
theorem dX8_meanValue_92 : decode cX8_meanValue 92 = .ok (.l2d, 1) := by decide +kernel
theorem dX8_meanValue_93 : decode cX8_meanValue 93 = .ok (.iload_n 3, 1) := by decide +kernel
theorem dX8_meanValue_94 : decode cX8_meanValue 94 = .ok (.i2d, 1) := by decide +kernel
theorem dX8_meanValue_95 : decode cX8_meanValue 95 = .ok (.ddiv, 1) := by decide +kernel
theorem dX8_meanValue_96 : decode cX8_meanValue 96 = .ok (.dreturn, 1) := by decide +kernel
theorem dX8_isSound_0 : decode cX8_isSound 0 = .ok (.aload_n 0, 1) := by decide +kernel
theorem dX8_isSound_1 : decode cX8_isSound 1 = .ok (.getfield 28, 3) := by decide +kernel
theorem dX8_isSound_4 : decode cX8_isSound 4 = .ok (.invokevirtual 146, 3) := by decide +kernel
theorem dX8_isSound_7 : decode cX8_isSound 7 = .ok (.ifCond .ne 19, 3) := by decide +kernel
theorem dX8_isSound_10 : decode cX8_isSound 10 = .ok (.aload_n 0, 1) := by decide +kernel
theorem dX8_isSound_11 : decode cX8_isSound 11 = .ok (.getfield 28, 3) := by decide +kernel
theorem dX8_isSound_14 : decode cX8_isSound 14 = .ok (.aload_n 0, 1) := by decide +kernel
theorem dX8_isSound_15 : decode cX8_isSound 15 = .ok (.getfield 28, 3) := by decide +kernel
theorem dX8_isSound_18 : decode cX8_isSound 18 = .ok (.iconst (-1), 1) := by decide +kernel
theorem dX8_isSound_19 : decode cX8_isSound 19 = .ok (.invokevirtual 149, 3) := by decide +kernel
theorem dX8_isSound_22 : decode cX8_isSound 22 = .ok (.invokevirtual 196, 3) := by decide +kernel
theorem dX8_isSound_25 : decode cX8_isSound 25 = .ok (.ireturn, 1) := by decide +kernel
theorem dX8_isSound_26 : decode cX8_isSound 26 = .ok (.aload_n 0, 1) := by decide +kernel
theorem dX8_isSound_27 : decode cX8_isSound 27 = .ok (.getfield 28, 3) := by decide +kernel
theorem dX8_isSound_30 : decode cX8_isSound 30 = .ok (.invokevirtual 178, 3) := by decide +kernel
theorem dX8_isSound_33 : decode cX8_isSound 33 = .ok (.aload_n 0, 1) := by decide +kernel
theorem dX8_isSound_34 : decode cX8_isSound 34 = .ok (.getfield 41, 3) := by decide +kernel
theorem dX8_isSound_37 : decode cX8_isSound 37 = .ok (.invokevirtual 199, 3) := by decide +kernel
theorem dX8_isSound_40 : decode cX8_isSound 40 = .ok (.ifCond .eq 27, 3) := by decide +kernel
theorem dX8_isSound_43 : decode cX8_isSound 43 = .ok (.aload_n 0, 1) := by decide +kernel
theorem dX8_isSound_44 : decode cX8_isSound 44 = .ok (.getfield 41, 3) := by decide +kernel
theorem dX8_isSound_47 : decode cX8_isSound 47 = .ok (.invokevirtual 202, 3) := by decide +kernel
theorem dX8_isSound_50 : decode cX8_isSound 50 = .ok (.ifCond .eq 17, 3) := by decide +kernel
theorem dX8_isSound_53 : decode cX8_isSound 53 = .ok (.aload_n 0, 1) := by decide +kernel
theorem dX8_isSound_54 : decode cX8_isSound 54 = .ok (.getfield 41, 3) := by decide +kernel
theorem dX8_isSound_57 : decode cX8_isSound 57 = .ok (.invokevirtual 205, 3) := by decide +kernel
theorem dX8_isSound_60 : decode cX8_isSound 60 = .ok (.ifCond .eq 7, 3) := by decide +kernel
theorem dX8_isSound_63 : decode cX8_isSound 63 = .ok (.iconst 1, 1) := by decide +kernel
theorem dX8_isSound_64 : decode cX8_isSound 64 = .ok (.goto 4, 3) := by decide +kernel
theorem dX8_isSound_67 : decode cX8_isSound 67 = .ok (.iconst 0, 1) := by decide +kernel
theorem dX8_isSound_68 : decode cX8_isSound 68 = .ok (.ireturn, 1) := by decide +kernel
theorem dX8_numberInSet_0 : decode cX8_numberInSet 0 = .ok (.iload_n 0, 1) := by decide +kernel
theorem dX8_numberInSet_1 : decode cX8_numberInSet 1 = .ok (.istore_n 2, 1) := by decide +kernel
theorem dX8_numberInSet_2 : decode cX8_numberInSet 2 = .ok (.iconst 0, 1) := by decide +kernel
theorem dX8_numberInSet_3 : decode cX8_numberInSet 3 = .ok (.istore_n 3, 1) := by decide +kernel
theorem dX8_numberInSet_4 : decode cX8_numberInSet 4 = .ok (.iload_n 3, 1) := by decide +kernel
theorem dX8_numberInSet_5 : decode cX8_numberInSet 5 = .ok (.iload_n 1, 1) := by decide +kernel
theorem dX8_numberInSet_6 : decode cX8_numberInSet 6 = .ok (.if_icmp .ge 15, 3) := by decide +kernel
theorem dX8_numberInSet_9 : decode cX8_numberInSet 9 = .ok (.iload_n 2, 1) := by decide +kernel
theorem dX8_numberInSet_10 : decode cX8_numberInSet 10 = .ok (.iload_n 2, 1) := by decide +kernel
theorem dX8_numberInSet_11 : decode cX8_numberInSet 11 = .ok (.iconst 1, 1) := by decide +kernel
theorem dX8_numberInSet_12 : decode cX8_numberInSet 12 = .ok (.isub, 1) := by decide +kernel
theorem dX8_numberInSet_13 : decode cX8_numberInSet 13 = .ok (.iand, 1) := by decide +kernel
theorem dX8_numberInSet_14 : decode cX8_numberInSet 14 = .ok (.istore_n 2, 1) := by decide +kernel
theorem dX8_numberInSet_15 : decode cX8_numberInSet 15 = .ok (.iinc 3 1, 3) := by decide +kernel
theorem dX8_numberInSet_18 : decode cX8_numberInSet 18 = .ok (.goto (-14), 3) := by decide +kernel
theorem dX8_numberInSet_21 : decode cX8_numberInSet 21 = .ok (.iload_n 2, 1) := by decide +kernel
theorem dX8_numberInSet_22 : decode cX8_numberInSet 22 = .ok (.invokestatic 208, 3) := by decide +kernel
theorem dX8_numberInSet_25 : decode cX8_numberInSet 25 = .ok (.ireturn, 1) := by decide +kernel
theorem dX9_init_0 : decode cX9_init 0 = .ok (.aload_n 0, 1) := by decide +kernel
theorem dX9_init_1 : decode cX9_init 1 = .ok (.invokespecial 1, 3) := by decide +kernel
theorem dX9_init_4 : decode cX9_init 4 = .ok (.aload_n 0, 1) := by decide +kernel
theorem dX9_init_5 : decode cX9_init 5 = .ok (.bipush 14, 2) := by decide +kernel
theorem dX9_init_7 : decode cX9_init 7 = .ok (.newarray .char, 2) := by decide +kernel
theorem dX9_init_9 : decode cX9_init 9 = .ok (.putfield 7, 3) := by decide +kernel
theorem dX9_init_12 : decode cX9_init 12 = .ok (.aload_n 0, 1) := by decide +kernel
theorem dX9_init_13 : decode cX9_init 13 = .ok (.iconst 4, 1) := by decide +kernel
theorem dX9_init_14 : decode cX9_init 14 = .ok (.newarray .char, 2) := by decide +kernel
theorem dX9_init_16 : decode cX9_init 16 = .ok (.putfield 13, 3) := by decide +kernel
theorem dX9_init_19 : decode cX9_init 19 = .ok (.aload_n 0, 1) := by decide +kernel
theorem dX9_init_20 : decode cX9_init 20 = .ok (.bipush 14, 2) := by decide +kernel
theorem dX9_init_22 : decode cX9_init 22 = .ok (.newarray .int, 2) := by decide +kernel
theorem dX9_init_24 : decode cX9_init 24 = .ok (.putfield 16, 3) := by decide +kernel
theorem dX9_init_27 : decode cX9_init 27 = .ok (.aload_n 0, 1) := by decide +kernel
theorem dX9_init_28 : decode cX9_init 28 = .ok (.bipush 14, 2) := by decide +kernel
theorem dX9_init_30 : decode cX9_init 30 = .ok (.newarray .int, 2) := by decide +kernel
theorem dX9_init_32 : decode cX9_init 32 = .ok (.putfield 20, 3) := by decide +kernel
theorem dX9_init_35 : decode cX9_init 35 = .ok (.aload_n 0, 1) := by decide +kernel
theorem dX9_init_36 : decode cX9_init 36 = .ok (.bipush 14, 2) := by decide +kernel
theorem dX9_init_38 : decode cX9_init 38 = .ok (.newarray .int, 2) := by decide +kernel
theorem dX9_init_40 : decode cX9_init 40 = .ok (.putfield 23, 3) := by decide +kernel
theorem dX9_init_43 : decode cX9_init 43 = .ok (.aload_n 0, 1) := by decide +kernel
theorem dX9_init_44 : decode cX9_init 44 = .ok (.bipush 14, 2) := by decide +kernel
theorem dX9_init_46 : decode cX9_init 46 = .ok (.newarray .int, 2) := by decide +kernel
theorem dX9_init_48 : decode cX9_init 48 = .ok (.putfield 26, 3) := by decide +kernel
theorem dX9_init_51 : decode cX9_init 51 = .ok (.aload_n 0, 1) := by decide +kernel
theorem dX9_init_52 : decode cX9_init 52 = .ok (.iconst 4, 1) := by decide +kernel
theorem dX9_init_53 : decode cX9_init 53 = .ok (.newarray .int, 2) := by decide +kernel
theorem dX9_init_55 : decode cX9_init 55 = .ok (.putfield 29, 3) := by decide +kernel
theorem dX9_init_58 : decode cX9_init 58 = .ok (.aload_n 0, 1) := by decide +kernel
theorem dX9_init_59 : decode cX9_init 59 = .ok (.bipush 24, 2) := by decide +kernel
theorem dX9_init_61 : decode cX9_init 61 = .ok (.newarray .int, 2) := by decide +kernel
theorem dX9_init_63 : decode cX9_init 63 = .ok (.putfield 32, 3) := by decide +kernel
theorem dX9_init_66 : decode cX9_init 66 = .ok (.aload_n 0, 1) := by decide +kernel
theorem dX9_init_67 : decode cX9_init 67 = .ok (.bipush 24, 2) := by decide +kernel
theorem dX9_init_69 : decode cX9_init 69 = .ok (.newarray .int, 2) := by decide +kernel
theorem dX9_init_71 : decode cX9_init 71 = .ok (.putfield 35, 3) := by decide +kernel
theorem dX9_init_74 : decode cX9_init 74 = .ok (.aload_n 0, 1) := by decide +kernel
theorem dX9_init_75 : decode cX9_init 75 = .ok (.bipush 24, 2) := by decide +kernel
theorem dX9_init_77 : decode cX9_init 77 = .ok (.newarray .int, 2) := by decide +kernel
theorem dX9_init_79 : decode cX9_init 79 = .ok (.putfield 38, 3) := by decide +kernel
theorem dX9_init_82 : decode cX9_init 82 = .ok (.aload_n 0, 1) := by decide +kernel
theorem dX9_init_83 : decode cX9_init 83 = .ok (.bipush 24, 2) := by decide +kernel
theorem dX9_init_85 : decode cX9_init 85 = .ok (.newarray .boolean, 2) := by decide +kernel
theorem dX9_init_87 : decode cX9_init 87 = .ok (.putfield 41, 3) := by decide +kernel
theorem dX9_init_90 : decode cX9_init 90 = .ok (.aload_n 0, 1) := by decide +kernel
theorem dX9_init_91 : decode cX9_init 91 = .ok (.bipush 14, 2) := by decide +kernel
theorem dX9_init_93 : decode cX9_init 93 = .ok (.newarray .boolean, 2) := by decide +kernel
theorem dX9_init_95 : decode cX9_init 95 = .ok (.putfield 45, 3) := by decide +kernel
theorem dX9_init_98 : decode cX9_init 98 = .ok (.aload_n 0, 1) := by decide +kernel
theorem dX9_init_99 : decode cX9_init 99 = .ok (.bipush 14, 2) := by decide +kernel
theorem dX9_init_101 : decode cX9_init 101 = .ok (.newarray .boolean, 2) := by decide +kernel
theorem dX9_init_103 : decode cX9_init 103 = .ok (.putfield 48, 3) := by decide +kernel
theorem dX9_init_106 : decode cX9_init 106 = .ok (.aload_n 0, 1) := by decide +kernel
theorem dX9_init_107 : decode cX9_init 107 = .ok (.bipush 14, 2) := by decide +kernel
theorem dX9_init_109 : decode cX9_init 109 = .ok (.newarray .boolean, 2) := by decide +kernel
theorem dX9_init_111 : decode cX9_init 111 = .ok (.putfield 51, 3) := by decide +kernel
theorem dX9_init_114 : decode cX9_init 114 = .ok (.aload_n 0, 1) := by decide +kernel
theorem dX9_init_115 : decode cX9_init 115 = .ok (.bipush 42, 2) := by decide +kernel
theorem dX9_init_117 : decode cX9_init 117 = .ok (.newarray .int, 2) := by decide +kernel
theorem dX9_init_119 : decode cX9_init 119 = .ok (.putfield 54, 3) := by decide +kernel
theorem dX9_init_122 : decode cX9_init 122 = .ok (.aload_n 0, 1) := by decide +kernel
theorem dX9_init_123 : decode cX9_init 123 = .ok (.bipush 24, 2) := by decide +kernel
theorem dX9_init_125 : decode cX9_init 125 = .ok (.newarray .int, 2) := by decide +kernel
theorem dX9_init_127 : decode cX9_init 127 = .ok (.putfield 57, 3) := by decide +kernel
theorem dX9_init_130 : decode cX9_init 130 = .ok (.aload_n 0, 1) := by decide +kernel
theorem dX9_init_131 : decode cX9_init 131 = .ok (.sipush 16000, 3) := by decide +kernel
theorem dX9_init_134 : decode cX9_init 134 = .ok (.newarray .int, 2) := by decide +kernel
theorem dX9_init_136 : decode cX9_init 136 = .ok (.putfield 60, 3) := by decide +kernel
theorem dX9_init_139 : decode cX9_init 139 = .ok (.aload_n 0, 1) := by decide +kernel
theorem dX9_init_140 : decode cX9_init 140 = .ok (.sipush 16000, 3) := by decide +kernel
theorem dX9_init_143 : decode cX9_init 143 = .ok (.newarray .int, 2) := by decide +kernel
theorem dX9_init_145 : decode cX9_init 145 = .ok (.putfield 63, 3) := by decide +kernel
theorem dX9_init_148 : decode cX9_init 148 = .ok (.aload_n 0, 1) := by decide +kernel
theorem dX9_init_149 : decode cX9_init 149 = .ok (.sipush 16000, 3) := by decide +kernel
theorem dX9_init_152 : decode cX9_init 152 = .ok (.newarray .int, 2) := by decide +kernel
theorem dX9_init_154 : decode cX9_init 154 = .ok (.putfield 66, 3) := by decide +kernel
theorem dX9_init_157 : decode cX9_init 157 = .ok (.aload_n 0, 1) := by decide +kernel
theorem dX9_init_158 : decode cX9_init 158 = .ok (.sipush 1201, 3) := by decide +kernel
theorem dX9_init_161 : decode cX9_init 161 = .ok (.newarray .int, 2) := by decide +kernel
theorem dX9_init_163 : decode cX9_init 163 = .ok (.putfield 69, 3) := by decide +kernel
theorem dX9_init_166 : decode cX9_init 166 = .ok (.aload_n 0, 1) := by decide +kernel
theorem dX9_init_167 : decode cX9_init 167 = .ok (.bipush 64, 2) := by decide +kernel
theorem dX9_init_169 : decode cX9_init 169 = .ok (.newarray .int, 2) := by decide +kernel
theorem dX9_init_171 : decode cX9_init 171 = .ok (.putfield 72, 3) := by decide +kernel
theorem dX9_init_174 : decode cX9_init 174 = .ok (.aload_n 0, 1) := by decide +kernel
theorem dX9_init_175 : decode cX9_init 175 = .ok (.bipush 64, 2) := by decide +kernel
theorem dX9_init_177 : decode cX9_init 177 = .ok (.newarray .int, 2) := by decide +kernel
theorem dX9_init_179 : decode cX9_init 179 = .ok (.putfield 75, 3) := by decide +kernel
theorem dX9_init_182 : decode cX9_init 182 = .ok (.aload_n 0, 1) := by decide +kernel
theorem dX9_init_183 : decode cX9_init 183 = .ok (.bipush 64, 2) := by decide +kernel
theorem dX9_init_185 : decode cX9_init 185 = .ok (.newarray .int, 2) := by decide +kernel
theorem dX9_init_187 : decode cX9_init 187 = .ok (.putfield 78, 3) := by decide +kernel
theorem dX9_init_190 : decode cX9_init 190 = .ok (.aload_n 0, 1) := by decide +kernel
theorem dX9_init_191 : decode cX9_init 191 = .ok (.ldc 81, 2) := by decide +kernel
theorem dX9_init_193 : decode cX9_init 193 = .ok (.newarray .int, 2) := by decide +kernel
theorem dX9_init_195 : decode cX9_init 195 = .ok (.putfield 82, 3) := by decide +kernel
theorem dX9_init_198 : decode cX9_init 198 = .ok (.aload_n 0, 1) := by decide +kernel
theorem dX9_init_199 : decode cX9_init 199 = .ok (.sipush 260, 3) := by decide +kernel
theorem dX9_init_202 : decode cX9_init 202 = .ok (.newarray .int, 2) := by decide +kernel
theorem dX9_init_204 : decode cX9_init 204 = .ok (.putfield 85, 3) := by decide +kernel
theorem dX9_init_207 : decode cX9_init 207 = .ok (.aload_n 0, 1) := by decide +kernel
theorem dX9_init_208 : decode cX9_init 208 = .ok (.sipush 260, 3) := by decide +kernel
theorem dX9_init_211 : decode cX9_init 211 = .ok (.newarray .int, 2) := by decide +kernel
theorem dX9_init_213 : decode cX9_init 213 = .ok (.putfield 88, 3) := by decide +kernel
theorem dX9_init_216 : decode cX9_init 216 = .ok (.aload_n 0, 1) := by decide +kernel
theorem dX9_init_217 : decode cX9_init 217 = .ok (.bipush 14, 2) := by decide +kernel
theorem dX9_init_219 : decode cX9_init 219 = .ok (.newarray .int, 2) := by decide +kernel
theorem dX9_init_221 : decode cX9_init 221 = .ok (.putfield 91, 3) := by decide +kernel
theorem dX9_init_224 : decode cX9_init 224 = .ok (.aload_n 0, 1) := by decide +kernel
theorem dX9_init_225 : decode cX9_init 225 = .ok (.bipush 14, 2) := by decide +kernel
theorem dX9_init_227 : decode cX9_init 227 = .ok (.newarray .int, 2) := by decide +kernel
theorem dX9_init_229 : decode cX9_init 229 = .ok (.putfield 94, 3) := by decide +kernel
theorem dX9_init_232 : decode cX9_init 232 = .ok (.return_, 1) := by decide +kernel
theorem dX9_thrown_0 : decode cX9_thrown 0 = .ok (.aload_n 0, 1) := by decide +kernel
theorem dX9_thrown_1 : decode cX9_thrown 1 = .ok (.getfield 97, 3) := by decide +kernel
theorem dX9_thrown_4 : decode cX9_thrown 4 = .ok (.ireturn, 1) := by decide +kernel
theorem dX9_refuse_0 : decode cX9_refuse 0 = .ok (.aload_n 0, 1) := by decide +kernel
theorem dX9_refuse_1 : decode cX9_refuse 1 = .ok (.iload_n 1, 1) := by decide +kernel
theorem dX9_refuse_2 : decode cX9_refuse 2 = .ok (.putfield 97, 3) := by decide +kernel
theorem dX9_refuse_5 : decode cX9_refuse 5 = .ok (.iconst 0, 1) := by decide +kernel
theorem dX9_refuse_6 : decode cX9_refuse 6 = .ok (.ireturn, 1) := by decide +kernel
theorem dX9_isValue_0 : decode cX9_isValue 0 = .ok (.iload_n 1, 1) := by decide +kernel
theorem dX9_isValue_1 : decode cX9_isValue 1 = .ok (.ifCond .lt 37, 3) := by decide +kernel
theorem dX9_isValue_4 : decode cX9_isValue 4 = .ok (.iload_n 1, 1) := by decide +kernel
theorem dX9_isValue_5 : decode cX9_isValue 5 = .ok (.aload_n 0, 1) := by decide +kernel
theorem dX9_isValue_6 : decode cX9_isValue 6 = .ok (.getfield 101, 3) := by decide +kernel
theorem dX9_isValue_9 : decode cX9_isValue 9 = .ok (.if_icmp .ge 29, 3) := by decide +kernel
theorem dX9_isValue_12 : decode cX9_isValue 12 = .ok (.aload_n 0, 1) := by decide +kernel
theorem dX9_isValue_13 : decode cX9_isValue 13 = .ok (.getfield 7, 3) := by decide +kernel
theorem dX9_isValue_16 : decode cX9_isValue 16 = .ok (.iload_n 1, 1) := by decide +kernel
theorem dX9_isValue_17 : decode cX9_isValue 17 = .ok (.caload, 1) := by decide +kernel
theorem dX9_isValue_18 : decode cX9_isValue 18 = .ok (.bipush 97, 2) := by decide +kernel
theorem dX9_isValue_20 : decode cX9_isValue 20 = .ok (.if_icmp .eq 18, 3) := by decide +kernel
theorem dX9_isValue_23 : decode cX9_isValue 23 = .ok (.aload_n 0, 1) := by decide +kernel
theorem dX9_isValue_24 : decode cX9_isValue 24 = .ok (.getfield 7, 3) := by decide +kernel
theorem dX9_isValue_27 : decode cX9_isValue 27 = .ok (.iload_n 1, 1) := by decide +kernel
theorem dX9_isValue_28 : decode cX9_isValue 28 = .ok (.caload, 1) := by decide +kernel
theorem dX9_isValue_29 : decode cX9_isValue 29 = .ok (.bipush 119, 2) := by decide +kernel
theorem dX9_isValue_31 : decode cX9_isValue 31 = .ok (.if_icmp .eq 7, 3) := by decide +kernel
theorem dX9_isValue_34 : decode cX9_isValue 34 = .ok (.iconst 1, 1) := by decide +kernel
theorem dX9_isValue_35 : decode cX9_isValue 35 = .ok (.goto 4, 3) := by decide +kernel
theorem dX9_isValue_38 : decode cX9_isValue 38 = .ok (.iconst 0, 1) := by decide +kernel
theorem dX9_isValue_39 : decode cX9_isValue 39 = .ok (.ireturn, 1) := by decide +kernel
theorem dX9_isArray_0 : decode cX9_isArray 0 = .ok (.iload_n 1, 1) := by decide +kernel
theorem dX9_isArray_1 : decode cX9_isArray 1 = .ok (.ifCond .lt 37, 3) := by decide +kernel
theorem dX9_isArray_4 : decode cX9_isArray 4 = .ok (.iload_n 1, 1) := by decide +kernel
theorem dX9_isArray_5 : decode cX9_isArray 5 = .ok (.aload_n 0, 1) := by decide +kernel
theorem dX9_isArray_6 : decode cX9_isArray 6 = .ok (.getfield 101, 3) := by decide +kernel
theorem dX9_isArray_9 : decode cX9_isArray 9 = .ok (.if_icmp .ge 29, 3) := by decide +kernel
theorem dX9_isArray_12 : decode cX9_isArray 12 = .ok (.aload_n 0, 1) := by decide +kernel
theorem dX9_isArray_13 : decode cX9_isArray 13 = .ok (.getfield 7, 3) := by decide +kernel
theorem dX9_isArray_16 : decode cX9_isArray 16 = .ok (.iload_n 1, 1) := by decide +kernel
theorem dX9_isArray_17 : decode cX9_isArray 17 = .ok (.caload, 1) := by decide +kernel
theorem dX9_isArray_18 : decode cX9_isArray 18 = .ok (.bipush 97, 2) := by decide +kernel
theorem dX9_isArray_20 : decode cX9_isArray 20 = .ok (.if_icmp .eq 14, 3) := by decide +kernel
theorem dX9_isArray_23 : decode cX9_isArray 23 = .ok (.aload_n 0, 1) := by decide +kernel
theorem dX9_isArray_24 : decode cX9_isArray 24 = .ok (.getfield 7, 3) := by decide +kernel
theorem dX9_isArray_27 : decode cX9_isArray 27 = .ok (.iload_n 1, 1) := by decide +kernel
theorem dX9_isArray_28 : decode cX9_isArray 28 = .ok (.caload, 1) := by decide +kernel
theorem dX9_isArray_29 : decode cX9_isArray 29 = .ok (.bipush 119, 2) := by decide +kernel
theorem dX9_isArray_31 : decode cX9_isArray 31 = .ok (.if_icmp .ne 7, 3) := by decide +kernel
theorem dX9_isArray_34 : decode cX9_isArray 34 = .ok (.iconst 1, 1) := by decide +kernel
theorem dX9_isArray_35 : decode cX9_isArray 35 = .ok (.goto 4, 3) := by decide +kernel
theorem dX9_isArray_38 : decode cX9_isArray 38 = .ok (.iconst 0, 1) := by decide +kernel
theorem dX9_isArray_39 : decode cX9_isArray 39 = .ok (.ireturn, 1) := by decide +kernel
theorem dX9_told_0 : decode cX9_told 0 = .ok (.aload_n 0, 1) := by decide +kernel
theorem dX9_told_1 : decode cX9_told 1 = .ok (.iconst 0, 1) := by decide +kernel
theorem dX9_told_2 : decode cX9_told 2 = .ok (.putfield 104, 3) := by decide +kernel
theorem dX9_told_5 : decode cX9_told 5 = .ok (.aload_n 0, 1) := by decide +kernel
theorem dX9_told_6 : decode cX9_told 6 = .ok (.iconst 0, 1) := by decide +kernel
theorem dX9_told_7 : decode cX9_told 7 = .ok (.putfield 108, 3) := by decide +kernel
theorem dX9_told_10 : decode cX9_told 10 = .ok (.aload_n 0, 1) := by decide +kernel
theorem dX9_told_11 : decode cX9_told 11 = .ok (.iconst 0, 1) := by decide +kernel
theorem dX9_told_12 : decode cX9_told 12 = .ok (.putfield 111, 3) := by decide +kernel
theorem dX9_told_15 : decode cX9_told 15 = .ok (.return_, 1) := by decide +kernel
theorem dX9_add_0 : decode cX9_add 0 = .ok (.aload_n 0, 1) := by decide +kernel
theorem dX9_add_1 : decode cX9_add 1 = .ok (.getfield 7, 3) := by decide +kernel
theorem dX9_add_4 : decode cX9_add 4 = .ok (.aload_n 0, 1) := by decide +kernel
theorem dX9_add_5 : decode cX9_add 5 = .ok (.getfield 101, 3) := by decide +kernel
theorem dX9_add_8 : decode cX9_add 8 = .ok (.iload_n 1, 1) := by decide +kernel
theorem dX9_add_9 : decode cX9_add 9 = .ok (.castore, 1) := by decide +kernel
theorem dX9_add_10 : decode cX9_add 10 = .ok (.aload_n 0, 1) := by decide +kernel
theorem dX9_add_11 : decode cX9_add 11 = .ok (.getfield 16, 3) := by decide +kernel
theorem dX9_add_14 : decode cX9_add 14 = .ok (.aload_n 0, 1) := by decide +kernel
theorem dX9_add_15 : decode cX9_add 15 = .ok (.getfield 101, 3) := by decide +kernel
theorem dX9_add_18 : decode cX9_add 18 = .ok (.iload_n 2, 1) := by decide +kernel
theorem dX9_add_19 : decode cX9_add 19 = .ok (.iastore, 1) := by decide +kernel
theorem dX9_add_20 : decode cX9_add 20 = .ok (.aload_n 0, 1) := by decide +kernel
theorem dX9_add_21 : decode cX9_add 21 = .ok (.getfield 20, 3) := by decide +kernel
theorem dX9_add_24 : decode cX9_add 24 = .ok (.aload_n 0, 1) := by decide +kernel
theorem dX9_add_25 : decode cX9_add 25 = .ok (.getfield 101, 3) := by decide +kernel
theorem dX9_add_28 : decode cX9_add 28 = .ok (.iload_n 3, 1) := by decide +kernel
theorem dX9_add_29 : decode cX9_add 29 = .ok (.iastore, 1) := by decide +kernel
theorem dX9_add_30 : decode cX9_add 30 = .ok (.aload_n 0, 1) := by decide +kernel
theorem dX9_add_31 : decode cX9_add 31 = .ok (.getfield 23, 3) := by decide +kernel
theorem dX9_add_34 : decode cX9_add 34 = .ok (.aload_n 0, 1) := by decide +kernel
theorem dX9_add_35 : decode cX9_add 35 = .ok (.getfield 101, 3) := by decide +kernel
theorem dX9_add_38 : decode cX9_add 38 = .ok (.iload 4, 2) := by decide +kernel
theorem dX9_add_40 : decode cX9_add 40 = .ok (.iastore, 1) := by decide +kernel
theorem dX9_add_41 : decode cX9_add 41 = .ok (.aload_n 0, 1) := by decide +kernel
theorem dX9_add_42 : decode cX9_add 42 = .ok (.getfield 26, 3) := by decide +kernel
theorem dX9_add_45 : decode cX9_add 45 = .ok (.aload_n 0, 1) := by decide +kernel
theorem dX9_add_46 : decode cX9_add 46 = .ok (.getfield 101, 3) := by decide +kernel
theorem dX9_add_49 : decode cX9_add 49 = .ok (.iload 5, 2) := by decide +kernel
theorem dX9_add_51 : decode cX9_add 51 = .ok (.iastore, 1) := by decide +kernel
theorem dX9_add_52 : decode cX9_add 52 = .ok (.aload_n 0, 1) := by decide +kernel
theorem dX9_add_53 : decode cX9_add 53 = .ok (.invokevirtual 114, 3) := by decide +kernel
theorem dX9_add_56 : decode cX9_add 56 = .ok (.aload_n 0, 1) := by decide +kernel
theorem dX9_add_57 : decode cX9_add 57 = .ok (.dup, 1) := by decide +kernel
theorem dX9_add_58 : decode cX9_add 58 = .ok (.getfield 101, 3) := by decide +kernel
theorem dX9_add_61 : decode cX9_add 61 = .ok (.dup_x1, 1) := by decide +kernel
theorem dX9_add_62 : decode cX9_add 62 = .ok (.iconst 1, 1) := by decide +kernel
theorem dX9_add_63 : decode cX9_add 63 = .ok (.iadd, 1) := by decide +kernel
theorem dX9_add_64 : decode cX9_add 64 = .ok (.putfield 101, 3) := by decide +kernel
theorem dX9_add_67 : decode cX9_add 67 = .ok (.ireturn, 1) := by decide +kernel
theorem dX9_make_0 : decode cX9_make 0 = .ok (.aload_n 0, 1) := by decide +kernel
theorem dX9_make_1 : decode cX9_make 1 = .ok (.iconst 0, 1) := by decide +kernel
theorem dX9_make_2 : decode cX9_make 2 = .ok (.putfield 97, 3) := by decide +kernel
theorem dX9_make_5 : decode cX9_make 5 = .ok (.iconst 0, 1) := by decide +kernel
theorem dX9_make_6 : decode cX9_make 6 = .ok (.istore 7, 2) := by decide +kernel
theorem dX9_make_8 : decode cX9_make 8 = .ok (.iload 7, 2) := by decide +kernel
theorem dX9_make_10 : decode cX9_make 10 = .ok (.aload_n 0, 1) := by decide +kernel
theorem dX9_make_11 : decode cX9_make 11 = .ok (.getfield 101, 3) := by decide +kernel
theorem dX9_make_14 : decode cX9_make 14 = .ok (.if_icmp .ge 69, 3) := by decide +kernel
theorem dX9_make_17 : decode cX9_make 17 = .ok (.aload_n 0, 1) := by decide +kernel
theorem dX9_make_18 : decode cX9_make 18 = .ok (.getfield 7, 3) := by decide +kernel
theorem dX9_make_21 : decode cX9_make 21 = .ok (.iload 7, 2) := by decide +kernel
theorem dX9_make_23 : decode cX9_make 23 = .ok (.caload, 1) := by decide +kernel
theorem dX9_make_24 : decode cX9_make 24 = .ok (.iload_n 1, 1) := by decide +kernel
theorem dX9_make_25 : decode cX9_make 25 = .ok (.if_icmp .ne 52, 3) := by decide +kernel
theorem dX9_make_28 : decode cX9_make 28 = .ok (.aload_n 0, 1) := by decide +kernel
theorem dX9_make_29 : decode cX9_make 29 = .ok (.getfield 16, 3) := by decide +kernel
theorem dX9_make_32 : decode cX9_make 32 = .ok (.iload 7, 2) := by decide +kernel
theorem dX9_make_34 : decode cX9_make 34 = .ok (.iaload, 1) := by decide +kernel
theorem dX9_make_35 : decode cX9_make 35 = .ok (.iload_n 2, 1) := by decide +kernel
theorem dX9_make_36 : decode cX9_make 36 = .ok (.if_icmp .ne 41, 3) := by decide +kernel
theorem dX9_make_39 : decode cX9_make 39 = .ok (.aload_n 0, 1) := by decide +kernel
theorem dX9_make_40 : decode cX9_make 40 = .ok (.getfield 20, 3) := by decide +kernel
theorem dX9_make_43 : decode cX9_make 43 = .ok (.iload 7, 2) := by decide +kernel
theorem dX9_make_45 : decode cX9_make 45 = .ok (.iaload, 1) := by decide +kernel
theorem dX9_make_46 : decode cX9_make 46 = .ok (.iload_n 3, 1) := by decide +kernel
theorem dX9_make_47 : decode cX9_make 47 = .ok (.if_icmp .ne 30, 3) := by decide +kernel
theorem dX9_make_50 : decode cX9_make 50 = .ok (.aload_n 0, 1) := by decide +kernel
theorem dX9_make_51 : decode cX9_make 51 = .ok (.getfield 23, 3) := by decide +kernel
theorem dX9_make_54 : decode cX9_make 54 = .ok (.iload 7, 2) := by decide +kernel
theorem dX9_make_56 : decode cX9_make 56 = .ok (.iaload, 1) := by decide +kernel
theorem dX9_make_57 : decode cX9_make 57 = .ok (.iload 4, 2) := by decide +kernel
theorem dX9_make_59 : decode cX9_make 59 = .ok (.if_icmp .ne 18, 3) := by decide +kernel
theorem dX9_make_62 : decode cX9_make 62 = .ok (.aload_n 0, 1) := by decide +kernel
theorem dX9_make_63 : decode cX9_make 63 = .ok (.getfield 26, 3) := by decide +kernel
theorem dX9_make_66 : decode cX9_make 66 = .ok (.iload 7, 2) := by decide +kernel
theorem dX9_make_68 : decode cX9_make 68 = .ok (.iaload, 1) := by decide +kernel
theorem dX9_make_69 : decode cX9_make 69 = .ok (.iload 5, 2) := by decide +kernel
theorem dX9_make_71 : decode cX9_make 71 = .ok (.if_icmp .ne 6, 3) := by decide +kernel
theorem dX9_make_74 : decode cX9_make 74 = .ok (.iload 7, 2) := by decide +kernel
theorem dX9_make_76 : decode cX9_make 76 = .ok (.ireturn, 1) := by decide +kernel
theorem dX9_make_77 : decode cX9_make 77 = .ok (.iinc 7 1, 3) := by decide +kernel
theorem dX9_make_80 : decode cX9_make 80 = .ok (.goto (-72), 3) := by decide +kernel
theorem dX9_make_83 : decode cX9_make 83 = .ok (.aload_n 0, 1) := by decide +kernel
theorem dX9_make_84 : decode cX9_make 84 = .ok (.getfield 101, 3) := by decide +kernel
theorem dX9_make_87 : decode cX9_make 87 = .ok (.bipush 14, 2) := by decide +kernel
theorem dX9_make_89 : decode cX9_make 89 = .ok (.if_icmp .ne 10, 3) := by decide +kernel
theorem dX9_make_92 : decode cX9_make 92 = .ok (.aload_n 0, 1) := by decide +kernel
theorem dX9_make_93 : decode cX9_make 93 = .ok (.iload 6, 2) := by decide +kernel
theorem dX9_make_95 : decode cX9_make 95 = .ok (.invokevirtual 117, 3) := by decide +kernel
theorem dX9_make_98 : decode cX9_make 98 = .ok (.ireturn, 1) := by decide +kernel
theorem dX9_make_99 : decode cX9_make 99 = .ok (.aload_n 0, 1) := by decide +kernel
theorem dX9_make_100 : decode cX9_make 100 = .ok (.iload_n 1, 1) := by decide +kernel
theorem dX9_make_101 : decode cX9_make 101 = .ok (.iload_n 2, 1) := by decide +kernel
theorem dX9_make_102 : decode cX9_make 102 = .ok (.iload_n 3, 1) := by decide +kernel
theorem dX9_make_103 : decode cX9_make 103 = .ok (.iload 4, 2) := by decide +kernel
theorem dX9_make_105 : decode cX9_make 105 = .ok (.iload 5, 2) := by decide +kernel
theorem dX9_make_107 : decode cX9_make 107 = .ok (.invokevirtual 121, 3) := by decide +kernel
theorem dX9_make_110 : decode cX9_make 110 = .ok (.ireturn, 1) := by decide +kernel
theorem dX9_constant_0 : decode cX9_constant 0 = .ok (.aload_n 0, 1) := by decide +kernel
theorem dX9_constant_1 : decode cX9_constant 1 = .ok (.getfield 101, 3) := by decide +kernel
theorem dX9_constant_4 : decode cX9_constant 4 = .ok (.bipush 14, 2) := by decide +kernel
theorem dX9_constant_6 : decode cX9_constant 6 = .ok (.if_icmp .ne 9, 3) := by decide +kernel
theorem dX9_constant_9 : decode cX9_constant 9 = .ok (.aload_n 0, 1) := by decide +kernel
theorem dX9_constant_10 : decode cX9_constant 10 = .ok (.iconst 1, 1) := by decide +kernel
theorem dX9_constant_11 : decode cX9_constant 11 = .ok (.invokevirtual 117, 3) := by decide +kernel
theorem dX9_constant_14 : decode cX9_constant 14 = .ok (.ireturn, 1) := by decide +kernel
theorem dX9_constant_15 : decode cX9_constant 15 = .ok (.aload_n 0, 1) := by decide +kernel
theorem dX9_constant_16 : decode cX9_constant 16 = .ok (.iconst 0, 1) := by decide +kernel
theorem dX9_constant_17 : decode cX9_constant 17 = .ok (.putfield 97, 3) := by decide +kernel
theorem dX9_constant_20 : decode cX9_constant 20 = .ok (.aload_n 0, 1) := by decide +kernel
theorem dX9_constant_21 : decode cX9_constant 21 = .ok (.bipush 99, 2) := by decide +kernel
theorem dX9_constant_23 : decode cX9_constant 23 = .ok (.iconst (-1), 1) := by decide +kernel
theorem dX9_constant_24 : decode cX9_constant 24 = .ok (.iconst (-1), 1) := by decide +kernel
theorem dX9_constant_25 : decode cX9_constant 25 = .ok (.iconst (-1), 1) := by decide +kernel
theorem dX9_constant_26 : decode cX9_constant 26 = .ok (.iconst (-1), 1) := by decide +kernel
theorem dX9_constant_27 : decode cX9_constant 27 = .ok (.invokevirtual 121, 3) := by decide +kernel
theorem dX9_constant_30 : decode cX9_constant 30 = .ok (.ireturn, 1) := by decide +kernel
theorem dX9_array_0 : decode cX9_array 0 = .ok (.aload_n 0, 1) := by decide +kernel
theorem dX9_array_1 : decode cX9_array 1 = .ok (.getfield 101, 3) := by decide +kernel
theorem dX9_array_4 : decode cX9_array 4 = .ok (.bipush 14, 2) := by decide +kernel
theorem dX9_array_6 : decode cX9_array 6 = .ok (.if_icmp .ne 9, 3) := by decide +kernel
theorem dX9_array_9 : decode cX9_array 9 = .ok (.aload_n 0, 1) := by decide +kernel
theorem dX9_array_10 : decode cX9_array 10 = .ok (.iconst 1, 1) := by decide +kernel
theorem dX9_array_11 : decode cX9_array 11 = .ok (.invokevirtual 117, 3) := by decide +kernel
theorem dX9_array_14 : decode cX9_array 14 = .ok (.ireturn, 1) := by decide +kernel
theorem dX9_array_15 : decode cX9_array 15 = .ok (.aload_n 0, 1) := by decide +kernel
theorem dX9_array_16 : decode cX9_array 16 = .ok (.iconst 0, 1) := by decide +kernel
theorem dX9_array_17 : decode cX9_array 17 = .ok (.putfield 97, 3) := by decide +kernel
theorem dX9_array_20 : decode cX9_array 20 = .ok (.aload_n 0, 1) := by decide +kernel
theorem dX9_array_21 : decode cX9_array 21 = .ok (.bipush 97, 2) := by decide +kernel
theorem dX9_array_23 : decode cX9_array 23 = .ok (.iconst (-1), 1) := by decide +kernel
theorem dX9_array_24 : decode cX9_array 24 = .ok (.iconst (-1), 1) := by decide +kernel
theorem dX9_array_25 : decode cX9_array 25 = .ok (.iconst (-1), 1) := by decide +kernel
theorem dX9_array_26 : decode cX9_array 26 = .ok (.iconst (-1), 1) := by decide +kernel
theorem dX9_array_27 : decode cX9_array 27 = .ok (.invokevirtual 121, 3) := by decide +kernel
theorem dX9_array_30 : decode cX9_array 30 = .ok (.ireturn, 1) := by decide +kernel
theorem dX9_apply_0 : decode cX9_apply 0 = .ok (.iload_n 1, 1) := by decide +kernel
theorem dX9_apply_1 : decode cX9_apply 1 = .ok (.ifCond .lt 18, 3) := by decide +kernel
theorem dX9_apply_4 : decode cX9_apply 4 = .ok (.iload_n 1, 1) := by decide +kernel
theorem dX9_apply_5 : decode cX9_apply 5 = .ok (.iconst 3, 1) := by decide +kernel
theorem dX9_apply_6 : decode cX9_apply 6 = .ok (.if_icmp .gt 13, 3) := by decide +kernel
theorem dX9_apply_9 : decode cX9_apply 9 = .ok (.iload_n 1, 1) := by decide +kernel
theorem dX9_apply_10 : decode cX9_apply 10 = .ok (.iconst 2, 1) := by decide +kernel
theorem dX9_apply_11 : decode cX9_apply 11 = .ok (.if_icmp .ge 14, 3) := by decide +kernel
theorem dX9_apply_14 : decode cX9_apply 14 = .ok (.iload_n 3, 1) := by decide +kernel
theorem dX9_apply_15 : decode cX9_apply 15 = .ok (.iconst (-1), 1) := by decide +kernel
theorem dX9_apply_16 : decode cX9_apply 16 = .ok (.if_icmp .eq 9, 3) := by decide +kernel
theorem dX9_apply_19 : decode cX9_apply 19 = .ok (.aload_n 0, 1) := by decide +kernel
theorem dX9_apply_20 : decode cX9_apply 20 = .ok (.iconst 1, 1) := by decide +kernel
theorem dX9_apply_21 : decode cX9_apply 21 = .ok (.invokevirtual 117, 3) := by decide +kernel
theorem dX9_apply_24 : decode cX9_apply 24 = .ok (.ireturn, 1) := by decide +kernel
theorem dX9_apply_25 : decode cX9_apply 25 = .ok (.aload_n 0, 1) := by decide +kernel
theorem dX9_apply_26 : decode cX9_apply 26 = .ok (.iload_n 2, 1) := by decide +kernel
theorem dX9_apply_27 : decode cX9_apply 27 = .ok (.invokevirtual 125, 3) := by decide +kernel
theorem dX9_apply_30 : decode cX9_apply 30 = .ok (.ifCond .eq 16, 3) := by decide +kernel
theorem dX9_apply_33 : decode cX9_apply 33 = .ok (.iload_n 1, 1) := by decide +kernel
theorem dX9_apply_34 : decode cX9_apply 34 = .ok (.iconst 2, 1) := by decide +kernel
theorem dX9_apply_35 : decode cX9_apply 35 = .ok (.if_icmp .lt 17, 3) := by decide +kernel
theorem dX9_apply_38 : decode cX9_apply 38 = .ok (.aload_n 0, 1) := by decide +kernel
theorem dX9_apply_39 : decode cX9_apply 39 = .ok (.iload_n 3, 1) := by decide +kernel
theorem dX9_apply_40 : decode cX9_apply 40 = .ok (.invokevirtual 125, 3) := by decide +kernel
theorem dX9_apply_43 : decode cX9_apply 43 = .ok (.ifCond .ne 9, 3) := by decide +kernel
theorem dX9_apply_46 : decode cX9_apply 46 = .ok (.aload_n 0, 1) := by decide +kernel
theorem dX9_apply_47 : decode cX9_apply 47 = .ok (.iconst 2, 1) := by decide +kernel
theorem dX9_apply_48 : decode cX9_apply 48 = .ok (.invokevirtual 117, 3) := by decide +kernel
theorem dX9_apply_51 : decode cX9_apply 51 = .ok (.ireturn, 1) := by decide +kernel
theorem dX9_apply_52 : decode cX9_apply 52 = .ok (.aload_n 0, 1) := by decide +kernel
theorem dX9_apply_53 : decode cX9_apply 53 = .ok (.bipush 102, 2) := by decide +kernel
theorem dX9_apply_55 : decode cX9_apply 55 = .ok (.iload_n 1, 1) := by decide +kernel
theorem dX9_apply_56 : decode cX9_apply 56 = .ok (.iload_n 2, 1) := by decide +kernel
theorem dX9_apply_57 : decode cX9_apply 57 = .ok (.iload_n 3, 1) := by decide +kernel
theorem dX9_apply_58 : decode cX9_apply 58 = .ok (.iconst (-1), 1) := by decide +kernel
theorem dX9_apply_59 : decode cX9_apply 59 = .ok (.iconst 3, 1) := by decide +kernel
theorem dX9_apply_60 : decode cX9_apply 60 = .ok (.invokevirtual 129, 3) := by decide +kernel
theorem dX9_apply_63 : decode cX9_apply 63 = .ok (.ireturn, 1) := by decide +kernel
theorem dX9_read_0 : decode cX9_read 0 = .ok (.aload_n 0, 1) := by decide +kernel
theorem dX9_read_1 : decode cX9_read 1 = .ok (.iload_n 1, 1) := by decide +kernel
theorem dX9_read_2 : decode cX9_read 2 = .ok (.invokevirtual 133, 3) := by decide +kernel
theorem dX9_read_5 : decode cX9_read 5 = .ok (.ifCond .eq 11, 3) := by decide +kernel
theorem dX9_read_8 : decode cX9_read 8 = .ok (.aload_n 0, 1) := by decide +kernel
theorem dX9_read_9 : decode cX9_read 9 = .ok (.iload_n 2, 1) := by decide +kernel
theorem dX9_read_10 : decode cX9_read 10 = .ok (.invokevirtual 125, 3) := by decide +kernel
theorem dX9_read_13 : decode cX9_read 13 = .ok (.ifCond .ne 9, 3) := by decide +kernel
theorem dX9_read_16 : decode cX9_read 16 = .ok (.aload_n 0, 1) := by decide +kernel
theorem dX9_read_17 : decode cX9_read 17 = .ok (.iconst 1, 1) := by decide +kernel
theorem dX9_read_18 : decode cX9_read 18 = .ok (.invokevirtual 117, 3) := by decide +kernel
theorem dX9_read_21 : decode cX9_read 21 = .ok (.ireturn, 1) := by decide +kernel
theorem dX9_read_22 : decode cX9_read 22 = .ok (.aload_n 0, 1) := by decide +kernel
theorem dX9_read_23 : decode cX9_read 23 = .ok (.bipush 114, 2) := by decide +kernel
theorem dX9_read_25 : decode cX9_read 25 = .ok (.iconst (-1), 1) := by decide +kernel
theorem dX9_read_26 : decode cX9_read 26 = .ok (.iload_n 1, 1) := by decide +kernel
theorem dX9_read_27 : decode cX9_read 27 = .ok (.iload_n 2, 1) := by decide +kernel
theorem dX9_read_28 : decode cX9_read 28 = .ok (.iconst (-1), 1) := by decide +kernel
theorem dX9_read_29 : decode cX9_read 29 = .ok (.iconst 2, 1) := by decide +kernel
theorem dX9_read_30 : decode cX9_read 30 = .ok (.invokevirtual 129, 3) := by decide +kernel
theorem dX9_read_33 : decode cX9_read 33 = .ok (.ireturn, 1) := by decide +kernel
theorem dX9_write_0 : decode cX9_write 0 = .ok (.aload_n 0, 1) := by decide +kernel
theorem dX9_write_1 : decode cX9_write 1 = .ok (.iload_n 1, 1) := by decide +kernel
theorem dX9_write_2 : decode cX9_write 2 = .ok (.invokevirtual 133, 3) := by decide +kernel
theorem dX9_write_5 : decode cX9_write 5 = .ok (.ifCond .eq 19, 3) := by decide +kernel
theorem dX9_write_8 : decode cX9_write 8 = .ok (.aload_n 0, 1) := by decide +kernel
theorem dX9_write_9 : decode cX9_write 9 = .ok (.iload_n 2, 1) := by decide +kernel
theorem dX9_write_10 : decode cX9_write 10 = .ok (.invokevirtual 125, 3) := by decide +kernel
theorem dX9_write_13 : decode cX9_write 13 = .ok (.ifCond .eq 11, 3) := by decide +kernel
theorem dX9_write_16 : decode cX9_write 16 = .ok (.aload_n 0, 1) := by decide +kernel
theorem dX9_write_17 : decode cX9_write 17 = .ok (.iload_n 3, 1) := by decide +kernel
theorem dX9_write_18 : decode cX9_write 18 = .ok (.invokevirtual 125, 3) := by decide +kernel
theorem dX9_write_21 : decode cX9_write 21 = .ok (.ifCond .ne 9, 3) := by decide +kernel
theorem dX9_write_24 : decode cX9_write 24 = .ok (.aload_n 0, 1) := by decide +kernel
theorem dX9_write_25 : decode cX9_write 25 = .ok (.iconst 1, 1) := by decide +kernel
theorem dX9_write_26 : decode cX9_write 26 = .ok (.invokevirtual 117, 3) := by decide +kernel
theorem dX9_write_29 : decode cX9_write 29 = .ok (.ireturn, 1) := by decide +kernel
theorem dX9_write_30 : decode cX9_write 30 = .ok (.aload_n 0, 1) := by decide +kernel
theorem dX9_write_31 : decode cX9_write 31 = .ok (.bipush 119, 2) := by decide +kernel
theorem dX9_write_33 : decode cX9_write 33 = .ok (.iconst (-1), 1) := by decide +kernel
theorem dX9_write_34 : decode cX9_write 34 = .ok (.iload_n 1, 1) := by decide +kernel
theorem dX9_write_35 : decode cX9_write 35 = .ok (.iload_n 2, 1) := by decide +kernel
theorem dX9_write_36 : decode cX9_write 36 = .ok (.iload_n 3, 1) := by decide +kernel
theorem dX9_write_37 : decode cX9_write 37 = .ok (.iconst 2, 1) := by decide +kernel
theorem dX9_write_38 : decode cX9_write 38 = .ok (.invokevirtual 129, 3) := by decide +kernel
theorem dX9_write_41 : decode cX9_write 41 = .ok (.ireturn, 1) := by decide +kernel
theorem dX9_terms_0 : decode cX9_terms 0 = .ok (.aload_n 0, 1) := by decide +kernel
theorem dX9_terms_1 : decode cX9_terms 1 = .ok (.getfield 101, 3) := by decide +kernel
theorem dX9_terms_4 : decode cX9_terms 4 = .ok (.ireturn, 1) := by decide +kernel
theorem dX9_kindOf_0 : decode cX9_kindOf 0 = .ok (.aload_n 0, 1) := by decide +kernel
theorem dX9_kindOf_1 : decode cX9_kindOf 1 = .ok (.iload_n 1, 1) := by decide +kernel
theorem dX9_kindOf_2 : decode cX9_kindOf 2 = .ok (.ifCond .lt 15, 3) := by decide +kernel
theorem dX9_kindOf_5 : decode cX9_kindOf 5 = .ok (.iload_n 1, 1) := by decide +kernel
theorem dX9_kindOf_6 : decode cX9_kindOf 6 = .ok (.aload_n 0, 1) := by decide +kernel
theorem dX9_kindOf_7 : decode cX9_kindOf 7 = .ok (.getfield 101, 3) := by decide +kernel
theorem dX9_kindOf_10 : decode cX9_kindOf 10 = .ok (.if_icmp .ge 7, 3) := by decide +kernel
theorem dX9_kindOf_13 : decode cX9_kindOf 13 = .ok (.iconst 0, 1) := by decide +kernel
theorem dX9_kindOf_14 : decode cX9_kindOf 14 = .ok (.goto 4, 3) := by decide +kernel
theorem dX9_kindOf_17 : decode cX9_kindOf 17 = .ok (.iconst 1, 1) := by decide +kernel
theorem dX9_kindOf_18 : decode cX9_kindOf 18 = .ok (.putfield 97, 3) := by decide +kernel
theorem dX9_kindOf_21 : decode cX9_kindOf 21 = .ok (.aload_n 0, 1) := by decide +kernel
theorem dX9_kindOf_22 : decode cX9_kindOf 22 = .ok (.getfield 97, 3) := by decide +kernel
theorem dX9_kindOf_25 : decode cX9_kindOf 25 = .ok (.ifCond .ne 12, 3) := by decide +kernel
theorem dX9_kindOf_28 : decode cX9_kindOf 28 = .ok (.aload_n 0, 1) := by decide +kernel
theorem dX9_kindOf_29 : decode cX9_kindOf 29 = .ok (.getfield 7, 3) := by decide +kernel
theorem dX9_kindOf_32 : decode cX9_kindOf 32 = .ok (.iload_n 1, 1) := by decide +kernel
theorem dX9_kindOf_33 : decode cX9_kindOf 33 = .ok (.caload, 1) := by decide +kernel
theorem dX9_kindOf_34 : decode cX9_kindOf 34 = .ok (.goto 5, 3) := by decide +kernel
theorem dX9_kindOf_37 : decode cX9_kindOf 37 = .ok (.bipush 99, 2) := by decide +kernel
theorem dX9_kindOf_39 : decode cX9_kindOf 39 = .ok (.ireturn, 1) := by decide +kernel
theorem dX9_atom_0 : decode cX9_atom 0 = .ok (.aload_n 0, 1) := by decide +kernel
theorem dX9_atom_1 : decode cX9_atom 1 = .ok (.iconst 0, 1) := by decide +kernel
theorem dX9_atom_2 : decode cX9_atom 2 = .ok (.putfield 97, 3) := by decide +kernel
theorem dX9_atom_5 : decode cX9_atom 5 = .ok (.iconst 0, 1) := by decide +kernel
theorem dX9_atom_6 : decode cX9_atom 6 = .ok (.istore 6, 2) := by decide +kernel
theorem dX9_atom_8 : decode cX9_atom 8 = .ok (.iload 6, 2) := by decide +kernel
theorem dX9_atom_10 : decode cX9_atom 10 = .ok (.aload_n 0, 1) := by decide +kernel
theorem dX9_atom_11 : decode cX9_atom 11 = .ok (.getfield 136, 3) := by decide +kernel
theorem dX9_atom_14 : decode cX9_atom 14 = .ok (.if_icmp .ge 57, 3) := by decide +kernel
theorem dX9_atom_17 : decode cX9_atom 17 = .ok (.aload_n 0, 1) := by decide +kernel
theorem dX9_atom_18 : decode cX9_atom 18 = .ok (.getfield 41, 3) := by decide +kernel
theorem dX9_atom_21 : decode cX9_atom 21 = .ok (.iload 6, 2) := by decide +kernel
theorem dX9_atom_23 : decode cX9_atom 23 = .ok (.baload, 1) := by decide +kernel
theorem dX9_atom_24 : decode cX9_atom 24 = .ok (.iload_n 1, 1) := by decide +kernel
theorem dX9_atom_25 : decode cX9_atom 25 = .ok (.if_icmp .ne 40, 3) := by decide +kernel
theorem dX9_atom_28 : decode cX9_atom 28 = .ok (.aload_n 0, 1) := by decide +kernel
theorem dX9_atom_29 : decode cX9_atom 29 = .ok (.getfield 32, 3) := by decide +kernel
theorem dX9_atom_32 : decode cX9_atom 32 = .ok (.iload 6, 2) := by decide +kernel
theorem dX9_atom_34 : decode cX9_atom 34 = .ok (.iaload, 1) := by decide +kernel
theorem dX9_atom_35 : decode cX9_atom 35 = .ok (.iload_n 2, 1) := by decide +kernel
theorem dX9_atom_36 : decode cX9_atom 36 = .ok (.if_icmp .ne 29, 3) := by decide +kernel
theorem dX9_atom_39 : decode cX9_atom 39 = .ok (.aload_n 0, 1) := by decide +kernel
theorem dX9_atom_40 : decode cX9_atom 40 = .ok (.getfield 35, 3) := by decide +kernel
theorem dX9_atom_43 : decode cX9_atom 43 = .ok (.iload 6, 2) := by decide +kernel
theorem dX9_atom_45 : decode cX9_atom 45 = .ok (.iaload, 1) := by decide +kernel
theorem dX9_atom_46 : decode cX9_atom 46 = .ok (.iload_n 3, 1) := by decide +kernel
theorem dX9_atom_47 : decode cX9_atom 47 = .ok (.if_icmp .ne 18, 3) := by decide +kernel
theorem dX9_atom_50 : decode cX9_atom 50 = .ok (.aload_n 0, 1) := by decide +kernel
theorem dX9_atom_51 : decode cX9_atom 51 = .ok (.getfield 38, 3) := by decide +kernel
theorem dX9_atom_54 : decode cX9_atom 54 = .ok (.iload 6, 2) := by decide +kernel
theorem dX9_atom_56 : decode cX9_atom 56 = .ok (.iaload, 1) := by decide +kernel
theorem dX9_atom_57 : decode cX9_atom 57 = .ok (.iload 4, 2) := by decide +kernel
theorem dX9_atom_59 : decode cX9_atom 59 = .ok (.if_icmp .ne 6, 3) := by decide +kernel
theorem dX9_atom_62 : decode cX9_atom 62 = .ok (.iload 6, 2) := by decide +kernel
theorem dX9_atom_64 : decode cX9_atom 64 = .ok (.ireturn, 1) := by decide +kernel
theorem dX9_atom_65 : decode cX9_atom 65 = .ok (.iinc 6 1, 3) := by decide +kernel
theorem dX9_atom_68 : decode cX9_atom 68 = .ok (.goto (-60), 3) := by decide +kernel
theorem dX9_atom_71 : decode cX9_atom 71 = .ok (.aload_n 0, 1) := by decide +kernel
theorem dX9_atom_72 : decode cX9_atom 72 = .ok (.getfield 136, 3) := by decide +kernel
theorem dX9_atom_75 : decode cX9_atom 75 = .ok (.bipush 24, 2) := by decide +kernel
theorem dX9_atom_77 : decode cX9_atom 77 = .ok (.if_icmp .ne 10, 3) := by decide +kernel
theorem dX9_atom_80 : decode cX9_atom 80 = .ok (.aload_n 0, 1) := by decide +kernel
theorem dX9_atom_81 : decode cX9_atom 81 = .ok (.iload 5, 2) := by decide +kernel
theorem dX9_atom_83 : decode cX9_atom 83 = .ok (.invokevirtual 117, 3) := by decide +kernel
theorem dX9_atom_86 : decode cX9_atom 86 = .ok (.ireturn, 1) := by decide +kernel
theorem dX9_atom_87 : decode cX9_atom 87 = .ok (.aload_n 0, 1) := by decide +kernel
theorem dX9_atom_88 : decode cX9_atom 88 = .ok (.getfield 41, 3) := by decide +kernel
theorem dX9_atom_91 : decode cX9_atom 91 = .ok (.aload_n 0, 1) := by decide +kernel
theorem dX9_atom_92 : decode cX9_atom 92 = .ok (.getfield 136, 3) := by decide +kernel
theorem dX9_atom_95 : decode cX9_atom 95 = .ok (.iload_n 1, 1) := by decide +kernel
theorem dX9_atom_96 : decode cX9_atom 96 = .ok (.bastore, 1) := by decide +kernel
theorem dX9_atom_97 : decode cX9_atom 97 = .ok (.aload_n 0, 1) := by decide +kernel
theorem dX9_atom_98 : decode cX9_atom 98 = .ok (.getfield 32, 3) := by decide +kernel
theorem dX9_atom_101 : decode cX9_atom 101 = .ok (.aload_n 0, 1) := by decide +kernel
theorem dX9_atom_102 : decode cX9_atom 102 = .ok (.getfield 136, 3) := by decide +kernel
theorem dX9_atom_105 : decode cX9_atom 105 = .ok (.iload_n 2, 1) := by decide +kernel
theorem dX9_atom_106 : decode cX9_atom 106 = .ok (.iastore, 1) := by decide +kernel
theorem dX9_atom_107 : decode cX9_atom 107 = .ok (.aload_n 0, 1) := by decide +kernel
theorem dX9_atom_108 : decode cX9_atom 108 = .ok (.getfield 35, 3) := by decide +kernel
theorem dX9_atom_111 : decode cX9_atom 111 = .ok (.aload_n 0, 1) := by decide +kernel
theorem dX9_atom_112 : decode cX9_atom 112 = .ok (.getfield 136, 3) := by decide +kernel
theorem dX9_atom_115 : decode cX9_atom 115 = .ok (.iload_n 3, 1) := by decide +kernel
theorem dX9_atom_116 : decode cX9_atom 116 = .ok (.iastore, 1) := by decide +kernel
theorem dX9_atom_117 : decode cX9_atom 117 = .ok (.aload_n 0, 1) := by decide +kernel
theorem dX9_atom_118 : decode cX9_atom 118 = .ok (.getfield 38, 3) := by decide +kernel
theorem dX9_atom_121 : decode cX9_atom 121 = .ok (.aload_n 0, 1) := by decide +kernel
theorem dX9_atom_122 : decode cX9_atom 122 = .ok (.getfield 136, 3) := by decide +kernel
theorem dX9_atom_125 : decode cX9_atom 125 = .ok (.iload 4, 2) := by decide +kernel
theorem dX9_atom_127 : decode cX9_atom 127 = .ok (.iastore, 1) := by decide +kernel
theorem dX9_atom_128 : decode cX9_atom 128 = .ok (.aload_n 0, 1) := by decide +kernel
theorem dX9_atom_129 : decode cX9_atom 129 = .ok (.dup, 1) := by decide +kernel
theorem dX9_atom_130 : decode cX9_atom 130 = .ok (.getfield 136, 3) := by decide +kernel
theorem dX9_atom_133 : decode cX9_atom 133 = .ok (.dup_x1, 1) := by decide +kernel
theorem dX9_atom_134 : decode cX9_atom 134 = .ok (.iconst 1, 1) := by decide +kernel
theorem dX9_atom_135 : decode cX9_atom 135 = .ok (.iadd, 1) := by decide +kernel
theorem dX9_atom_136 : decode cX9_atom 136 = .ok (.putfield 136, 3) := by decide +kernel
theorem dX9_atom_139 : decode cX9_atom 139 = .ok (.ireturn, 1) := by decide +kernel
theorem dX9_equal_0 : decode cX9_equal 0 = .ok (.aload_n 0, 1) := by decide +kernel
theorem dX9_equal_1 : decode cX9_equal 1 = .ok (.iload_n 1, 1) := by decide +kernel
theorem dX9_equal_2 : decode cX9_equal 2 = .ok (.invokevirtual 125, 3) := by decide +kernel
theorem dX9_equal_5 : decode cX9_equal 5 = .ok (.ifCond .eq 11, 3) := by decide +kernel
theorem dX9_equal_8 : decode cX9_equal 8 = .ok (.aload_n 0, 1) := by decide +kernel
theorem dX9_equal_9 : decode cX9_equal 9 = .ok (.iload_n 2, 1) := by decide +kernel
theorem dX9_equal_10 : decode cX9_equal 10 = .ok (.invokevirtual 125, 3) := by decide +kernel
theorem dX9_equal_13 : decode cX9_equal 13 = .ok (.ifCond .ne 9, 3) := by decide +kernel
theorem dX9_equal_16 : decode cX9_equal 16 = .ok (.aload_n 0, 1) := by decide +kernel
theorem dX9_equal_17 : decode cX9_equal 17 = .ok (.iconst 1, 1) := by decide +kernel
theorem dX9_equal_18 : decode cX9_equal 18 = .ok (.invokevirtual 117, 3) := by decide +kernel
theorem dX9_equal_21 : decode cX9_equal 21 = .ok (.ireturn, 1) := by decide +kernel
theorem dX9_equal_22 : decode cX9_equal 22 = .ok (.aload_n 0, 1) := by decide +kernel
theorem dX9_equal_23 : decode cX9_equal 23 = .ok (.iconst 1, 1) := by decide +kernel
theorem dX9_equal_24 : decode cX9_equal 24 = .ok (.iload_n 1, 1) := by decide +kernel
theorem dX9_equal_25 : decode cX9_equal 25 = .ok (.iload_n 2, 1) := by decide +kernel
theorem dX9_equal_26 : decode cX9_equal 26 = .ok (.iconst 0, 1) := by decide +kernel
theorem dX9_equal_27 : decode cX9_equal 27 = .ok (.iconst 2, 1) := by decide +kernel
theorem dX9_equal_28 : decode cX9_equal 28 = .ok (.invokevirtual 139, 3) := by decide +kernel
theorem dX9_equal_31 : decode cX9_equal 31 = .ok (.ireturn, 1) := by decide +kernel
theorem dX9_atMost_0 : decode cX9_atMost 0 = .ok (.aload_n 0, 1) := by decide +kernel
theorem dX9_atMost_1 : decode cX9_atMost 1 = .ok (.iload_n 1, 1) := by decide +kernel
theorem dX9_atMost_2 : decode cX9_atMost 2 = .ok (.invokevirtual 125, 3) := by decide +kernel
theorem dX9_atMost_5 : decode cX9_atMost 5 = .ok (.ifCond .eq 11, 3) := by decide +kernel
theorem dX9_atMost_8 : decode cX9_atMost 8 = .ok (.aload_n 0, 1) := by decide +kernel
theorem dX9_atMost_9 : decode cX9_atMost 9 = .ok (.iload_n 2, 1) := by decide +kernel
theorem dX9_atMost_10 : decode cX9_atMost 10 = .ok (.invokevirtual 125, 3) := by decide +kernel
theorem dX9_atMost_13 : decode cX9_atMost 13 = .ok (.ifCond .ne 9, 3) := by decide +kernel
theorem dX9_atMost_16 : decode cX9_atMost 16 = .ok (.aload_n 0, 1) := by decide +kernel
theorem dX9_atMost_17 : decode cX9_atMost 17 = .ok (.iconst 1, 1) := by decide +kernel
theorem dX9_atMost_18 : decode cX9_atMost 18 = .ok (.invokevirtual 117, 3) := by decide +kernel
theorem dX9_atMost_21 : decode cX9_atMost 21 = .ok (.ireturn, 1) := by decide +kernel
theorem dX9_atMost_22 : decode cX9_atMost 22 = .ok (.iload_n 3, 1) := by decide +kernel
theorem dX9_atMost_23 : decode cX9_atMost 23 = .ok (.bipush (-20), 2) := by decide +kernel
theorem dX9_atMost_25 : decode cX9_atMost 25 = .ok (.if_icmp .lt 9, 3) := by decide +kernel
theorem dX9_atMost_28 : decode cX9_atMost 28 = .ok (.iload_n 3, 1) := by decide +kernel
theorem dX9_atMost_29 : decode cX9_atMost 29 = .ok (.bipush 20, 2) := by decide +kernel
theorem dX9_atMost_31 : decode cX9_atMost 31 = .ok (.if_icmp .le 9, 3) := by decide +kernel
theorem dX9_atMost_34 : decode cX9_atMost 34 = .ok (.aload_n 0, 1) := by decide +kernel
theorem dX9_atMost_35 : decode cX9_atMost 35 = .ok (.iconst 2, 1) := by decide +kernel
theorem dX9_atMost_36 : decode cX9_atMost 36 = .ok (.invokevirtual 117, 3) := by decide +kernel
theorem dX9_atMost_39 : decode cX9_atMost 39 = .ok (.ireturn, 1) := by decide +kernel
theorem dX9_atMost_40 : decode cX9_atMost 40 = .ok (.aload_n 0, 1) := by decide +kernel
theorem dX9_atMost_41 : decode cX9_atMost 41 = .ok (.iconst 0, 1) := by decide +kernel
theorem dX9_atMost_42 : decode cX9_atMost 42 = .ok (.iload_n 1, 1) := by decide +kernel
theorem dX9_atMost_43 : decode cX9_atMost 43 = .ok (.iload_n 2, 1) := by decide +kernel
theorem dX9_atMost_44 : decode cX9_atMost 44 = .ok (.iload_n 3, 1) := by decide +kernel
theorem dX9_atMost_45 : decode cX9_atMost 45 = .ok (.iconst 3, 1) := by decide +kernel
theorem dX9_atMost_46 : decode cX9_atMost 46 = .ok (.invokevirtual 139, 3) := by decide +kernel
theorem dX9_atMost_49 : decode cX9_atMost 49 = .ok (.ireturn, 1) := by decide +kernel
theorem dX9_atoms_0 : decode cX9_atoms 0 = .ok (.aload_n 0, 1) := by decide +kernel
theorem dX9_atoms_1 : decode cX9_atoms 1 = .ok (.getfield 136, 3) := by decide +kernel
theorem dX9_atoms_4 : decode cX9_atoms 4 = .ok (.ireturn, 1) := by decide +kernel
theorem dX9_noLiteral_0 : decode cX9_noLiteral 0 = .ok (.aload_n 0, 1) := by decide +kernel
theorem dX9_noLiteral_1 : decode cX9_noLiteral 1 = .ok (.iload_n 1, 1) := by decide +kernel
theorem dX9_noLiteral_2 : decode cX9_noLiteral 2 = .ok (.ifCond .lt 17, 3) := by decide +kernel
theorem dX9_noLiteral_5 : decode cX9_noLiteral 5 = .ok (.iload_n 1, 1) := by decide +kernel
theorem dX9_noLiteral_6 : decode cX9_noLiteral 6 = .ok (.iconst 2, 1) := by decide +kernel
theorem dX9_noLiteral_7 : decode cX9_noLiteral 7 = .ok (.aload_n 0, 1) := by decide +kernel
theorem dX9_noLiteral_8 : decode cX9_noLiteral 8 = .ok (.getfield 136, 3) := by decide +kernel
theorem dX9_noLiteral_11 : decode cX9_noLiteral 11 = .ok (.imul, 1) := by decide +kernel
theorem dX9_noLiteral_12 : decode cX9_noLiteral 12 = .ok (.if_icmp .ge 7, 3) := by decide +kernel
theorem dX9_noLiteral_15 : decode cX9_noLiteral 15 = .ok (.iconst 0, 1) := by decide +kernel
theorem dX9_noLiteral_16 : decode cX9_noLiteral 16 = .ok (.goto 4, 3) := by decide +kernel
theorem dX9_noLiteral_19 : decode cX9_noLiteral 19 = .ok (.iconst 1, 1) := by decide +kernel
theorem dX9_noLiteral_20 : decode cX9_noLiteral 20 = .ok (.putfield 97, 3) := by decide +kernel
theorem dX9_noLiteral_23 : decode cX9_noLiteral 23 = .ok (.aload_n 0, 1) := by decide +kernel
theorem dX9_noLiteral_24 : decode cX9_noLiteral 24 = .ok (.getfield 97, 3) := by decide +kernel
theorem dX9_noLiteral_27 : decode cX9_noLiteral 27 = .ok (.ifCond .eq 7, 3) := by decide +kernel
theorem dX9_noLiteral_30 : decode cX9_noLiteral 30 = .ok (.iconst 1, 1) := by decide +kernel
theorem dX9_noLiteral_31 : decode cX9_noLiteral 31 = .ok (.goto 4, 3) := by decide +kernel
theorem dX9_noLiteral_34 : decode cX9_noLiteral 34 = .ok (.iconst 0, 1) := by decide +kernel
theorem dX9_noLiteral_35 : decode cX9_noLiteral 35 = .ok (.ireturn, 1) := by decide +kernel
theorem dX9_clause_0 : decode cX9_clause 0 = .ok (.aload_n 0, 1) := by decide +kernel
theorem dX9_clause_1 : decode cX9_clause 1 = .ok (.iload_n 1, 1) := by decide +kernel
theorem dX9_clause_2 : decode cX9_clause 2 = .ok (.invokevirtual 143, 3) := by decide +kernel
theorem dX9_clause_5 : decode cX9_clause 5 = .ok (.ifCond .ne 29, 3) := by decide +kernel
theorem dX9_clause_8 : decode cX9_clause 8 = .ok (.iload_n 2, 1) := by decide +kernel
theorem dX9_clause_9 : decode cX9_clause 9 = .ok (.iconst (-1), 1) := by decide +kernel
theorem dX9_clause_10 : decode cX9_clause 10 = .ok (.if_icmp .eq 11, 3) := by decide +kernel
theorem dX9_clause_13 : decode cX9_clause 13 = .ok (.aload_n 0, 1) := by decide +kernel
theorem dX9_clause_14 : decode cX9_clause 14 = .ok (.iload_n 2, 1) := by decide +kernel
theorem dX9_clause_15 : decode cX9_clause 15 = .ok (.invokevirtual 143, 3) := by decide +kernel
theorem dX9_clause_18 : decode cX9_clause 18 = .ok (.ifCond .ne 16, 3) := by decide +kernel
theorem dX9_clause_21 : decode cX9_clause 21 = .ok (.iload_n 3, 1) := by decide +kernel
theorem dX9_clause_22 : decode cX9_clause 22 = .ok (.iconst (-1), 1) := by decide +kernel
theorem dX9_clause_23 : decode cX9_clause 23 = .ok (.if_icmp .eq 13, 3) := by decide +kernel
theorem dX9_clause_26 : decode cX9_clause 26 = .ok (.aload_n 0, 1) := by decide +kernel
theorem dX9_clause_27 : decode cX9_clause 27 = .ok (.iload_n 3, 1) := by decide +kernel
theorem dX9_clause_28 : decode cX9_clause 28 = .ok (.invokevirtual 143, 3) := by decide +kernel
theorem dX9_clause_31 : decode cX9_clause 31 = .ok (.ifCond .eq 5, 3) := by decide +kernel
theorem dX9_clause_34 : decode cX9_clause 34 = .ok (.iconst 0, 1) := by decide +kernel
theorem dX9_clause_35 : decode cX9_clause 35 = .ok (.ireturn, 1) := by decide +kernel
theorem dX9_clause_36 : decode cX9_clause 36 = .ok (.aload_n 0, 1) := by decide +kernel
theorem dX9_clause_37 : decode cX9_clause 37 = .ok (.getfield 146, 3) := by decide +kernel
theorem dX9_clause_40 : decode cX9_clause 40 = .ok (.bipush 14, 2) := by decide +kernel
theorem dX9_clause_42 : decode cX9_clause 42 = .ok (.if_icmp .ne 9, 3) := by decide +kernel
theorem dX9_clause_45 : decode cX9_clause 45 = .ok (.aload_n 0, 1) := by decide +kernel
theorem dX9_clause_46 : decode cX9_clause 46 = .ok (.iconst 2, 1) := by decide +kernel
theorem dX9_clause_47 : decode cX9_clause 47 = .ok (.invokevirtual 117, 3) := by decide +kernel
theorem dX9_clause_50 : decode cX9_clause 50 = .ok (.ireturn, 1) := by decide +kernel
theorem dX9_clause_51 : decode cX9_clause 51 = .ok (.aload_n 0, 1) := by decide +kernel
theorem dX9_clause_52 : decode cX9_clause 52 = .ok (.iconst 0, 1) := by decide +kernel
theorem dX9_clause_53 : decode cX9_clause 53 = .ok (.putfield 97, 3) := by decide +kernel
theorem dX9_clause_56 : decode cX9_clause 56 = .ok (.aload_n 0, 1) := by decide +kernel
theorem dX9_clause_57 : decode cX9_clause 57 = .ok (.getfield 54, 3) := by decide +kernel
theorem dX9_clause_60 : decode cX9_clause 60 = .ok (.iconst 3, 1) := by decide +kernel
theorem dX9_clause_61 : decode cX9_clause 61 = .ok (.aload_n 0, 1) := by decide +kernel
theorem dX9_clause_62 : decode cX9_clause 62 = .ok (.getfield 146, 3) := by decide +kernel
theorem dX9_clause_65 : decode cX9_clause 65 = .ok (.imul, 1) := by decide +kernel
theorem dX9_clause_66 : decode cX9_clause 66 = .ok (.iload_n 1, 1) := by decide +kernel
theorem dX9_clause_67 : decode cX9_clause 67 = .ok (.iastore, 1) := by decide +kernel
theorem dX9_clause_68 : decode cX9_clause 68 = .ok (.aload_n 0, 1) := by decide +kernel
theorem dX9_clause_69 : decode cX9_clause 69 = .ok (.getfield 54, 3) := by decide +kernel
theorem dX9_clause_72 : decode cX9_clause 72 = .ok (.iconst 3, 1) := by decide +kernel
theorem dX9_clause_73 : decode cX9_clause 73 = .ok (.aload_n 0, 1) := by decide +kernel
theorem dX9_clause_74 : decode cX9_clause 74 = .ok (.getfield 146, 3) := by decide +kernel
theorem dX9_clause_77 : decode cX9_clause 77 = .ok (.imul, 1) := by decide +kernel
theorem dX9_clause_78 : decode cX9_clause 78 = .ok (.iconst 1, 1) := by decide +kernel
theorem dX9_clause_79 : decode cX9_clause 79 = .ok (.iadd, 1) := by decide +kernel
theorem dX9_clause_80 : decode cX9_clause 80 = .ok (.iload_n 2, 1) := by decide +kernel
theorem dX9_clause_81 : decode cX9_clause 81 = .ok (.iastore, 1) := by decide +kernel
theorem dX9_clause_82 : decode cX9_clause 82 = .ok (.aload_n 0, 1) := by decide +kernel
theorem dX9_clause_83 : decode cX9_clause 83 = .ok (.getfield 54, 3) := by decide +kernel
theorem dX9_clause_86 : decode cX9_clause 86 = .ok (.iconst 3, 1) := by decide +kernel
theorem dX9_clause_87 : decode cX9_clause 87 = .ok (.aload_n 0, 1) := by decide +kernel
theorem dX9_clause_88 : decode cX9_clause 88 = .ok (.getfield 146, 3) := by decide +kernel
theorem dX9_clause_91 : decode cX9_clause 91 = .ok (.imul, 1) := by decide +kernel
theorem dX9_clause_92 : decode cX9_clause 92 = .ok (.iconst 2, 1) := by decide +kernel
theorem dX9_clause_93 : decode cX9_clause 93 = .ok (.iadd, 1) := by decide +kernel
theorem dX9_clause_94 : decode cX9_clause 94 = .ok (.iload_n 3, 1) := by decide +kernel
theorem dX9_clause_95 : decode cX9_clause 95 = .ok (.iastore, 1) := by decide +kernel
theorem dX9_clause_96 : decode cX9_clause 96 = .ok (.aload_n 0, 1) := by decide +kernel
theorem dX9_clause_97 : decode cX9_clause 97 = .ok (.invokevirtual 114, 3) := by decide +kernel
theorem dX9_clause_100 : decode cX9_clause 100 = .ok (.aload_n 0, 1) := by decide +kernel
theorem dX9_clause_101 : decode cX9_clause 101 = .ok (.dup, 1) := by decide +kernel
theorem dX9_clause_102 : decode cX9_clause 102 = .ok (.getfield 146, 3) := by decide +kernel
theorem dX9_clause_105 : decode cX9_clause 105 = .ok (.dup_x1, 1) := by decide +kernel
theorem dX9_clause_106 : decode cX9_clause 106 = .ok (.iconst 1, 1) := by decide +kernel
theorem dX9_clause_107 : decode cX9_clause 107 = .ok (.iadd, 1) := by decide +kernel
theorem dX9_clause_108 : decode cX9_clause 108 = .ok (.putfield 146, 3) := by decide +kernel
theorem dX9_clause_111 : decode cX9_clause 111 = .ok (.ireturn, 1) := by decide +kernel
theorem dX9_clauses_0 : decode cX9_clauses 0 = .ok (.aload_n 0, 1) := by decide +kernel
theorem dX9_clauses_1 : decode cX9_clauses 1 = .ok (.getfield 146, 3) := by decide +kernel
theorem dX9_clauses_4 : decode cX9_clauses 4 = .ok (.ireturn, 1) := by decide +kernel
theorem dX9_rule_0 : decode cX9_rule 0 = .ok (.iload_n 1, 1) := by decide +kernel
theorem dX9_rule_1 : decode cX9_rule 1 = .ok (.bipush 105, 2) := by decide +kernel
theorem dX9_rule_3 : decode cX9_rule 3 = .ok (.if_icmp .eq 15, 3) := by decide +kernel
theorem dX9_rule_6 : decode cX9_rule 6 = .ok (.iload_n 1, 1) := by decide +kernel
theorem dX9_rule_7 : decode cX9_rule 7 = .ok (.bipush 115, 2) := by decide +kernel
theorem dX9_rule_9 : decode cX9_rule 9 = .ok (.if_icmp .eq 9, 3) := by decide +kernel
theorem dX9_rule_12 : decode cX9_rule 12 = .ok (.iload_n 1, 1) := by decide +kernel
theorem dX9_rule_13 : decode cX9_rule 13 = .ok (.bipush 109, 2) := by decide +kernel
theorem dX9_rule_15 : decode cX9_rule 15 = .ok (.if_icmp .ne 7, 3) := by decide +kernel
theorem dX9_rule_18 : decode cX9_rule 18 = .ok (.iconst 1, 1) := by decide +kernel
theorem dX9_rule_19 : decode cX9_rule 19 = .ok (.goto 4, 3) := by decide +kernel
theorem dX9_rule_22 : decode cX9_rule 22 = .ok (.iconst 0, 1) := by decide +kernel
theorem dX9_rule_23 : decode cX9_rule 23 = .ok (.istore_n 3, 1) := by decide +kernel
theorem dX9_rule_24 : decode cX9_rule 24 = .ok (.iload_n 3, 1) := by decide +kernel
theorem dX9_rule_25 : decode cX9_rule 25 = .ok (.ifCond .ne 9, 3) := by decide +kernel
theorem dX9_rule_28 : decode cX9_rule 28 = .ok (.iload_n 1, 1) := by decide +kernel
theorem dX9_rule_29 : decode cX9_rule 29 = .ok (.bipush 99, 2) := by decide +kernel
theorem dX9_rule_31 : decode cX9_rule 31 = .ok (.if_icmp .ne 30, 3) := by decide +kernel
theorem dX9_rule_34 : decode cX9_rule 34 = .ok (.iload_n 3, 1) := by decide +kernel
theorem dX9_rule_35 : decode cX9_rule 35 = .ok (.ifCond .eq 12, 3) := by decide +kernel
theorem dX9_rule_38 : decode cX9_rule 38 = .ok (.iload_n 2, 1) := by decide +kernel
theorem dX9_rule_39 : decode cX9_rule 39 = .ok (.ifCond .eq 8, 3) := by decide +kernel
theorem dX9_rule_42 : decode cX9_rule 42 = .ok (.iload_n 2, 1) := by decide +kernel
theorem dX9_rule_43 : decode cX9_rule 43 = .ok (.iconst 1, 1) := by decide +kernel
theorem dX9_rule_44 : decode cX9_rule 44 = .ok (.if_icmp .ne 17, 3) := by decide +kernel
theorem dX9_rule_47 : decode cX9_rule 47 = .ok (.iload_n 3, 1) := by decide +kernel
theorem dX9_rule_48 : decode cX9_rule 48 = .ok (.ifCond .ne 19, 3) := by decide +kernel
theorem dX9_rule_51 : decode cX9_rule 51 = .ok (.iload_n 2, 1) := by decide +kernel
theorem dX9_rule_52 : decode cX9_rule 52 = .ok (.iconst 2, 1) := by decide +kernel
theorem dX9_rule_53 : decode cX9_rule 53 = .ok (.if_icmp .eq 14, 3) := by decide +kernel
theorem dX9_rule_56 : decode cX9_rule 56 = .ok (.iload_n 2, 1) := by decide +kernel
theorem dX9_rule_57 : decode cX9_rule 57 = .ok (.iconst 3, 1) := by decide +kernel
theorem dX9_rule_58 : decode cX9_rule 58 = .ok (.if_icmp .eq 9, 3) := by decide +kernel
theorem dX9_rule_61 : decode cX9_rule 61 = .ok (.aload_n 0, 1) := by decide +kernel
theorem dX9_rule_62 : decode cX9_rule 62 = .ok (.iconst 1, 1) := by decide +kernel
theorem dX9_rule_63 : decode cX9_rule 63 = .ok (.invokevirtual 117, 3) := by decide +kernel
theorem dX9_rule_66 : decode cX9_rule 66 = .ok (.ireturn, 1) := by decide +kernel
theorem dX9_rule_67 : decode cX9_rule 67 = .ok (.aload_n 0, 1) := by decide +kernel
theorem dX9_rule_68 : decode cX9_rule 68 = .ok (.getfield 149, 3) := by decide +kernel
theorem dX9_rule_71 : decode cX9_rule 71 = .ok (.iconst 4, 1) := by decide +kernel
theorem dX9_rule_72 : decode cX9_rule 72 = .ok (.if_icmp .ne 9, 3) := by decide +kernel
theorem dX9_rule_75 : decode cX9_rule 75 = .ok (.aload_n 0, 1) := by decide +kernel
theorem dX9_rule_76 : decode cX9_rule 76 = .ok (.iconst 2, 1) := by decide +kernel
theorem dX9_rule_77 : decode cX9_rule 77 = .ok (.invokevirtual 117, 3) := by decide +kernel
theorem dX9_rule_80 : decode cX9_rule 80 = .ok (.ireturn, 1) := by decide +kernel
theorem dX9_rule_81 : decode cX9_rule 81 = .ok (.aload_n 0, 1) := by decide +kernel
theorem dX9_rule_82 : decode cX9_rule 82 = .ok (.iconst 0, 1) := by decide +kernel
theorem dX9_rule_83 : decode cX9_rule 83 = .ok (.putfield 97, 3) := by decide +kernel
theorem dX9_rule_86 : decode cX9_rule 86 = .ok (.aload_n 0, 1) := by decide +kernel
theorem dX9_rule_87 : decode cX9_rule 87 = .ok (.getfield 13, 3) := by decide +kernel
theorem dX9_rule_90 : decode cX9_rule 90 = .ok (.aload_n 0, 1) := by decide +kernel
theorem dX9_rule_91 : decode cX9_rule 91 = .ok (.getfield 149, 3) := by decide +kernel
theorem dX9_rule_94 : decode cX9_rule 94 = .ok (.iload_n 1, 1) := by decide +kernel
theorem dX9_rule_95 : decode cX9_rule 95 = .ok (.castore, 1) := by decide +kernel
theorem dX9_rule_96 : decode cX9_rule 96 = .ok (.aload_n 0, 1) := by decide +kernel
theorem dX9_rule_97 : decode cX9_rule 97 = .ok (.getfield 29, 3) := by decide +kernel
theorem dX9_rule_100 : decode cX9_rule 100 = .ok (.aload_n 0, 1) := by decide +kernel
theorem dX9_rule_101 : decode cX9_rule 101 = .ok (.getfield 149, 3) := by decide +kernel
theorem dX9_rule_104 : decode cX9_rule 104 = .ok (.iload_n 2, 1) := by decide +kernel
theorem dX9_rule_105 : decode cX9_rule 105 = .ok (.iastore, 1) := by decide +kernel
theorem dX9_rule_106 : decode cX9_rule 106 = .ok (.aload_n 0, 1) := by decide +kernel
theorem dX9_rule_107 : decode cX9_rule 107 = .ok (.invokevirtual 114, 3) := by decide +kernel
theorem dX9_rule_110 : decode cX9_rule 110 = .ok (.aload_n 0, 1) := by decide +kernel
theorem dX9_rule_111 : decode cX9_rule 111 = .ok (.dup, 1) := by decide +kernel
theorem dX9_rule_112 : decode cX9_rule 112 = .ok (.getfield 149, 3) := by decide +kernel
theorem dX9_rule_115 : decode cX9_rule 115 = .ok (.iconst 1, 1) := by decide +kernel
theorem dX9_rule_116 : decode cX9_rule 116 = .ok (.iadd, 1) := by decide +kernel
theorem dX9_rule_117 : decode cX9_rule 117 = .ok (.dup_x1, 1) := by decide +kernel
theorem dX9_rule_118 : decode cX9_rule 118 = .ok (.putfield 149, 3) := by decide +kernel
theorem dX9_rule_121 : decode cX9_rule 121 = .ok (.ireturn, 1) := by decide +kernel
theorem dX9_push_0 : decode cX9_push 0 = .ok (.aload_n 0, 1) := by decide +kernel
theorem dX9_push_1 : decode cX9_push 1 = .ok (.getfield 152, 3) := by decide +kernel
theorem dX9_push_4 : decode cX9_push 4 = .ok (.bipush 6, 2) := by decide +kernel
theorem dX9_push_6 : decode cX9_push 6 = .ok (.if_icmp .ne 9, 3) := by decide +kernel
theorem dX9_push_9 : decode cX9_push 9 = .ok (.aload_n 0, 1) := by decide +kernel
theorem dX9_push_10 : decode cX9_push 10 = .ok (.iconst 1, 1) := by decide +kernel
theorem dX9_push_11 : decode cX9_push 11 = .ok (.invokevirtual 117, 3) := by decide +kernel
theorem dX9_push_14 : decode cX9_push 14 = .ok (.ireturn, 1) := by decide +kernel
theorem dX9_push_15 : decode cX9_push 15 = .ok (.aload_n 0, 1) := by decide +kernel
theorem dX9_push_16 : decode cX9_push 16 = .ok (.iconst 0, 1) := by decide +kernel
theorem dX9_push_17 : decode cX9_push 17 = .ok (.putfield 97, 3) := by decide +kernel
theorem dX9_push_20 : decode cX9_push 20 = .ok (.aload_n 0, 1) := by decide +kernel
theorem dX9_push_21 : decode cX9_push 21 = .ok (.getfield 57, 3) := by decide +kernel
theorem dX9_push_24 : decode cX9_push 24 = .ok (.iconst 4, 1) := by decide +kernel
theorem dX9_push_25 : decode cX9_push 25 = .ok (.aload_n 0, 1) := by decide +kernel
theorem dX9_push_26 : decode cX9_push 26 = .ok (.getfield 152, 3) := by decide +kernel
theorem dX9_push_29 : decode cX9_push 29 = .ok (.imul, 1) := by decide +kernel
theorem dX9_push_30 : decode cX9_push 30 = .ok (.aload_n 0, 1) := by decide +kernel
theorem dX9_push_31 : decode cX9_push 31 = .ok (.getfield 101, 3) := by decide +kernel
theorem dX9_push_34 : decode cX9_push 34 = .ok (.iastore, 1) := by decide +kernel
theorem dX9_push_35 : decode cX9_push 35 = .ok (.aload_n 0, 1) := by decide +kernel
theorem dX9_push_36 : decode cX9_push 36 = .ok (.getfield 57, 3) := by decide +kernel
theorem dX9_push_39 : decode cX9_push 39 = .ok (.iconst 4, 1) := by decide +kernel
theorem dX9_push_40 : decode cX9_push 40 = .ok (.aload_n 0, 1) := by decide +kernel
theorem dX9_push_41 : decode cX9_push 41 = .ok (.getfield 152, 3) := by decide +kernel
theorem dX9_push_44 : decode cX9_push 44 = .ok (.imul, 1) := by decide +kernel
theorem dX9_push_45 : decode cX9_push 45 = .ok (.iconst 1, 1) := by decide +kernel
theorem dX9_push_46 : decode cX9_push 46 = .ok (.iadd, 1) := by decide +kernel
theorem dX9_push_47 : decode cX9_push 47 = .ok (.aload_n 0, 1) := by decide +kernel
theorem dX9_push_48 : decode cX9_push 48 = .ok (.getfield 136, 3) := by decide +kernel
theorem dX9_push_51 : decode cX9_push 51 = .ok (.iastore, 1) := by decide +kernel
theorem dX9_push_52 : decode cX9_push 52 = .ok (.aload_n 0, 1) := by decide +kernel
theorem dX9_push_53 : decode cX9_push 53 = .ok (.getfield 57, 3) := by decide +kernel
theorem dX9_push_56 : decode cX9_push 56 = .ok (.iconst 4, 1) := by decide +kernel
theorem dX9_push_57 : decode cX9_push 57 = .ok (.aload_n 0, 1) := by decide +kernel
theorem dX9_push_58 : decode cX9_push 58 = .ok (.getfield 152, 3) := by decide +kernel
theorem dX9_push_61 : decode cX9_push 61 = .ok (.imul, 1) := by decide +kernel
theorem dX9_push_62 : decode cX9_push 62 = .ok (.iconst 2, 1) := by decide +kernel
theorem dX9_push_63 : decode cX9_push 63 = .ok (.iadd, 1) := by decide +kernel
theorem dX9_push_64 : decode cX9_push 64 = .ok (.aload_n 0, 1) := by decide +kernel
theorem dX9_push_65 : decode cX9_push 65 = .ok (.getfield 146, 3) := by decide +kernel
theorem dX9_push_68 : decode cX9_push 68 = .ok (.iastore, 1) := by decide +kernel
theorem dX9_push_69 : decode cX9_push 69 = .ok (.aload_n 0, 1) := by decide +kernel
theorem dX9_push_70 : decode cX9_push 70 = .ok (.getfield 57, 3) := by decide +kernel
theorem dX9_push_73 : decode cX9_push 73 = .ok (.iconst 4, 1) := by decide +kernel
theorem dX9_push_74 : decode cX9_push 74 = .ok (.aload_n 0, 1) := by decide +kernel
theorem dX9_push_75 : decode cX9_push 75 = .ok (.getfield 152, 3) := by decide +kernel
theorem dX9_push_78 : decode cX9_push 78 = .ok (.imul, 1) := by decide +kernel
theorem dX9_push_79 : decode cX9_push 79 = .ok (.iconst 3, 1) := by decide +kernel
theorem dX9_push_80 : decode cX9_push 80 = .ok (.iadd, 1) := by decide +kernel
theorem dX9_push_81 : decode cX9_push 81 = .ok (.aload_n 0, 1) := by decide +kernel
theorem dX9_push_82 : decode cX9_push 82 = .ok (.getfield 149, 3) := by decide +kernel
theorem dX9_push_85 : decode cX9_push 85 = .ok (.iastore, 1) := by decide +kernel
theorem dX9_push_86 : decode cX9_push 86 = .ok (.aload_n 0, 1) := by decide +kernel
theorem dX9_push_87 : decode cX9_push 87 = .ok (.dup, 1) := by decide +kernel
theorem dX9_push_88 : decode cX9_push 88 = .ok (.getfield 152, 3) := by decide +kernel
theorem dX9_push_91 : decode cX9_push 91 = .ok (.iconst 1, 1) := by decide +kernel
theorem dX9_push_92 : decode cX9_push 92 = .ok (.iadd, 1) := by decide +kernel
theorem dX9_push_93 : decode cX9_push 93 = .ok (.dup_x1, 1) := by decide +kernel
theorem dX9_push_94 : decode cX9_push 94 = .ok (.putfield 152, 3) := by decide +kernel
theorem dX9_push_97 : decode cX9_push 97 = .ok (.ireturn, 1) := by decide +kernel
theorem dX9_pop_0 : decode cX9_pop 0 = .ok (.aload_n 0, 1) := by decide +kernel
theorem dX9_pop_1 : decode cX9_pop 1 = .ok (.getfield 152, 3) := by decide +kernel
theorem dX9_pop_4 : decode cX9_pop 4 = .ok (.ifCond .ne 9, 3) := by decide +kernel
theorem dX9_pop_7 : decode cX9_pop 7 = .ok (.aload_n 0, 1) := by decide +kernel
theorem dX9_pop_8 : decode cX9_pop 8 = .ok (.iconst 1, 1) := by decide +kernel
theorem dX9_pop_9 : decode cX9_pop 9 = .ok (.invokevirtual 117, 3) := by decide +kernel
theorem dX9_pop_12 : decode cX9_pop 12 = .ok (.ireturn, 1) := by decide +kernel
theorem dX9_pop_13 : decode cX9_pop 13 = .ok (.aload_n 0, 1) := by decide +kernel
theorem dX9_pop_14 : decode cX9_pop 14 = .ok (.iconst 0, 1) := by decide +kernel
theorem dX9_pop_15 : decode cX9_pop 15 = .ok (.putfield 97, 3) := by decide +kernel
theorem dX9_pop_18 : decode cX9_pop 18 = .ok (.aload_n 0, 1) := by decide +kernel
theorem dX9_pop_19 : decode cX9_pop 19 = .ok (.dup, 1) := by decide +kernel
theorem dX9_pop_20 : decode cX9_pop 20 = .ok (.getfield 152, 3) := by decide +kernel
theorem dX9_pop_23 : decode cX9_pop 23 = .ok (.iconst 1, 1) := by decide +kernel
theorem dX9_pop_24 : decode cX9_pop 24 = .ok (.isub, 1) := by decide +kernel
theorem dX9_pop_25 : decode cX9_pop 25 = .ok (.putfield 152, 3) := by decide +kernel
theorem dX9_pop_28 : decode cX9_pop 28 = .ok (.aload_n 0, 1) := by decide +kernel
theorem dX9_pop_29 : decode cX9_pop 29 = .ok (.aload_n 0, 1) := by decide +kernel
theorem dX9_pop_30 : decode cX9_pop 30 = .ok (.getfield 57, 3) := by decide +kernel
theorem dX9_pop_33 : decode cX9_pop 33 = .ok (.iconst 4, 1) := by decide +kernel
theorem dX9_pop_34 : decode cX9_pop 34 = .ok (.aload_n 0, 1) := by decide +kernel
theorem dX9_pop_35 : decode cX9_pop 35 = .ok (.getfield 152, 3) := by decide +kernel
theorem dX9_pop_38 : decode cX9_pop 38 = .ok (.imul, 1) := by decide +kernel
theorem dX9_pop_39 : decode cX9_pop 39 = .ok (.iaload, 1) := by decide +kernel
theorem dX9_pop_40 : decode cX9_pop 40 = .ok (.putfield 101, 3) := by decide +kernel
theorem dX9_pop_43 : decode cX9_pop 43 = .ok (.aload_n 0, 1) := by decide +kernel
theorem dX9_pop_44 : decode cX9_pop 44 = .ok (.aload_n 0, 1) := by decide +kernel
theorem dX9_pop_45 : decode cX9_pop 45 = .ok (.getfield 57, 3) := by decide +kernel
theorem dX9_pop_48 : decode cX9_pop 48 = .ok (.iconst 4, 1) := by decide +kernel
theorem dX9_pop_49 : decode cX9_pop 49 = .ok (.aload_n 0, 1) := by decide +kernel
theorem dX9_pop_50 : decode cX9_pop 50 = .ok (.getfield 152, 3) := by decide +kernel
theorem dX9_pop_53 : decode cX9_pop 53 = .ok (.imul, 1) := by decide +kernel
theorem dX9_pop_54 : decode cX9_pop 54 = .ok (.iconst 1, 1) := by decide +kernel
theorem dX9_pop_55 : decode cX9_pop 55 = .ok (.iadd, 1) := by decide +kernel
theorem dX9_pop_56 : decode cX9_pop 56 = .ok (.iaload, 1) := by decide +kernel
theorem dX9_pop_57 : decode cX9_pop 57 = .ok (.putfield 136, 3) := by decide +kernel
theorem dX9_pop_60 : decode cX9_pop 60 = .ok (.aload_n 0, 1) := by decide +kernel
theorem dX9_pop_61 : decode cX9_pop 61 = .ok (.aload_n 0, 1) := by decide +kernel
theorem dX9_pop_62 : decode cX9_pop 62 = .ok (.getfield 57, 3) := by decide +kernel
theorem dX9_pop_65 : decode cX9_pop 65 = .ok (.iconst 4, 1) := by decide +kernel
theorem dX9_pop_66 : decode cX9_pop 66 = .ok (.aload_n 0, 1) := by decide +kernel
theorem dX9_pop_67 : decode cX9_pop 67 = .ok (.getfield 152, 3) := by decide +kernel
theorem dX9_pop_70 : decode cX9_pop 70 = .ok (.imul, 1) := by decide +kernel
theorem dX9_pop_71 : decode cX9_pop 71 = .ok (.iconst 2, 1) := by decide +kernel
theorem dX9_pop_72 : decode cX9_pop 72 = .ok (.iadd, 1) := by decide +kernel
theorem dX9_pop_73 : decode cX9_pop 73 = .ok (.iaload, 1) := by decide +kernel
theorem dX9_pop_74 : decode cX9_pop 74 = .ok (.putfield 146, 3) := by decide +kernel
theorem dX9_pop_77 : decode cX9_pop 77 = .ok (.aload_n 0, 1) := by decide +kernel
theorem dX9_pop_78 : decode cX9_pop 78 = .ok (.aload_n 0, 1) := by decide +kernel
theorem dX9_pop_79 : decode cX9_pop 79 = .ok (.getfield 57, 3) := by decide +kernel
theorem dX9_pop_82 : decode cX9_pop 82 = .ok (.iconst 4, 1) := by decide +kernel
theorem dX9_pop_83 : decode cX9_pop 83 = .ok (.aload_n 0, 1) := by decide +kernel
theorem dX9_pop_84 : decode cX9_pop 84 = .ok (.getfield 152, 3) := by decide +kernel
theorem dX9_pop_87 : decode cX9_pop 87 = .ok (.imul, 1) := by decide +kernel
theorem dX9_pop_88 : decode cX9_pop 88 = .ok (.iconst 3, 1) := by decide +kernel
theorem dX9_pop_89 : decode cX9_pop 89 = .ok (.iadd, 1) := by decide +kernel
theorem dX9_pop_90 : decode cX9_pop 90 = .ok (.iaload, 1) := by decide +kernel
theorem dX9_pop_91 : decode cX9_pop 91 = .ok (.putfield 149, 3) := by decide +kernel
theorem dX9_pop_94 : decode cX9_pop 94 = .ok (.aload_n 0, 1) := by decide +kernel
theorem dX9_pop_95 : decode cX9_pop 95 = .ok (.invokevirtual 114, 3) := by decide +kernel
theorem dX9_pop_98 : decode cX9_pop 98 = .ok (.aload_n 0, 1) := by decide +kernel
theorem dX9_pop_99 : decode cX9_pop 99 = .ok (.getfield 146, 3) := by decide +kernel
theorem dX9_pop_102 : decode cX9_pop 102 = .ok (.ireturn, 1) := by decide +kernel
theorem dX9_lit_0 : decode cX9_lit 0 = .ok (.aload_n 0, 1) := by decide +kernel
theorem dX9_lit_1 : decode cX9_lit 1 = .ok (.getfield 60, 3) := by decide +kernel
theorem dX9_lit_4 : decode cX9_lit 4 = .ok (.aload_n 0, 1) := by decide +kernel
theorem dX9_lit_5 : decode cX9_lit 5 = .ok (.getfield 155, 3) := by decide +kernel
theorem dX9_lit_8 : decode cX9_lit 8 = .ok (.iload_n 1, 1) := by decide +kernel
theorem dX9_lit_9 : decode cX9_lit 9 = .ok (.iastore, 1) := by decide +kernel
theorem dX9_lit_10 : decode cX9_lit 10 = .ok (.aload_n 0, 1) := by decide +kernel
theorem dX9_lit_11 : decode cX9_lit 11 = .ok (.getfield 63, 3) := by decide +kernel
theorem dX9_lit_14 : decode cX9_lit 14 = .ok (.aload_n 0, 1) := by decide +kernel
theorem dX9_lit_15 : decode cX9_lit 15 = .ok (.getfield 155, 3) := by decide +kernel
theorem dX9_lit_18 : decode cX9_lit 18 = .ok (.iload_n 2, 1) := by decide +kernel
theorem dX9_lit_19 : decode cX9_lit 19 = .ok (.iastore, 1) := by decide +kernel
theorem dX9_lit_20 : decode cX9_lit 20 = .ok (.aload_n 0, 1) := by decide +kernel
theorem dX9_lit_21 : decode cX9_lit 21 = .ok (.getfield 66, 3) := by decide +kernel
theorem dX9_lit_24 : decode cX9_lit 24 = .ok (.aload_n 0, 1) := by decide +kernel
theorem dX9_lit_25 : decode cX9_lit 25 = .ok (.getfield 155, 3) := by decide +kernel
theorem dX9_lit_28 : decode cX9_lit 28 = .ok (.iload_n 3, 1) := by decide +kernel
theorem dX9_lit_29 : decode cX9_lit 29 = .ok (.iastore, 1) := by decide +kernel
theorem dX9_lit_30 : decode cX9_lit 30 = .ok (.aload_n 0, 1) := by decide +kernel
theorem dX9_lit_31 : decode cX9_lit 31 = .ok (.dup, 1) := by decide +kernel
theorem dX9_lit_32 : decode cX9_lit 32 = .ok (.getfield 155, 3) := by decide +kernel
theorem dX9_lit_35 : decode cX9_lit 35 = .ok (.iconst 1, 1) := by decide +kernel
theorem dX9_lit_36 : decode cX9_lit 36 = .ok (.iadd, 1) := by decide +kernel
theorem dX9_lit_37 : decode cX9_lit 37 = .ok (.putfield 155, 3) := by decide +kernel
theorem dX9_lit_40 : decode cX9_lit 40 = .ok (.return_, 1) := by decide +kernel
theorem dX9_unlike_0 : decode cX9_unlike 0 = .ok (.aload_n 0, 1) := by decide +kernel
theorem dX9_unlike_1 : decode cX9_unlike 1 = .ok (.iload_n 1, 1) := by decide +kernel
theorem dX9_unlike_2 : decode cX9_unlike 2 = .ok (.iload_n 2, 1) := by decide +kernel
theorem dX9_unlike_3 : decode cX9_unlike 3 = .ok (.iconst (-1), 1) := by decide +kernel
theorem dX9_unlike_4 : decode cX9_unlike 4 = .ok (.invokevirtual 158, 3) := by decide +kernel
theorem dX9_unlike_7 : decode cX9_unlike 7 = .ok (.aload_n 0, 1) := by decide +kernel
theorem dX9_unlike_8 : decode cX9_unlike 8 = .ok (.iload_n 2, 1) := by decide +kernel
theorem dX9_unlike_9 : decode cX9_unlike 9 = .ok (.iload_n 1, 1) := by decide +kernel
theorem dX9_unlike_10 : decode cX9_unlike 10 = .ok (.iconst (-1), 1) := by decide +kernel
theorem dX9_unlike_11 : decode cX9_unlike 11 = .ok (.invokevirtual 158, 3) := by decide +kernel
theorem dX9_unlike_14 : decode cX9_unlike 14 = .ok (.return_, 1) := by decide +kernel
theorem dX9_ends_0 : decode cX9_ends 0 = .ok (.aload_n 0, 1) := by decide +kernel
theorem dX9_ends_1 : decode cX9_ends 1 = .ok (.dup, 1) := by decide +kernel
theorem dX9_ends_2 : decode cX9_ends 2 = .ok (.getfield 162, 3) := by decide +kernel
theorem dX9_ends_5 : decode cX9_ends 5 = .ok (.iconst 1, 1) := by decide +kernel
theorem dX9_ends_6 : decode cX9_ends 6 = .ok (.iadd, 1) := by decide +kernel
theorem dX9_ends_7 : decode cX9_ends 7 = .ok (.putfield 162, 3) := by decide +kernel
theorem dX9_ends_10 : decode cX9_ends 10 = .ok (.aload_n 0, 1) := by decide +kernel
theorem dX9_ends_11 : decode cX9_ends 11 = .ok (.getfield 69, 3) := by decide +kernel
theorem dX9_ends_14 : decode cX9_ends 14 = .ok (.aload_n 0, 1) := by decide +kernel
theorem dX9_ends_15 : decode cX9_ends 15 = .ok (.getfield 162, 3) := by decide +kernel
theorem dX9_ends_18 : decode cX9_ends 18 = .ok (.aload_n 0, 1) := by decide +kernel
theorem dX9_ends_19 : decode cX9_ends 19 = .ok (.getfield 155, 3) := by decide +kernel
theorem dX9_ends_22 : decode cX9_ends 22 = .ok (.iastore, 1) := by decide +kernel
theorem dX9_ends_23 : decode cX9_ends 23 = .ok (.return_, 1) := by decide +kernel
theorem dX9_literal_0 : decode cX9_literal 0 = .ok (.iload_n 1, 1) := by decide +kernel
theorem dX9_literal_1 : decode cX9_literal 1 = .ok (.iconst 2, 1) := by decide +kernel
theorem dX9_literal_2 : decode cX9_literal 2 = .ok (.idiv, 1) := by decide +kernel
theorem dX9_literal_3 : decode cX9_literal 3 = .ok (.istore_n 2, 1) := by decide +kernel
theorem dX9_literal_4 : decode cX9_literal 4 = .ok (.iload_n 1, 1) := by decide +kernel
theorem dX9_literal_5 : decode cX9_literal 5 = .ok (.iconst 2, 1) := by decide +kernel
theorem dX9_literal_6 : decode cX9_literal 6 = .ok (.irem, 1) := by decide +kernel
theorem dX9_literal_7 : decode cX9_literal 7 = .ok (.ifCond .ne 42, 3) := by decide +kernel
theorem dX9_literal_10 : decode cX9_literal 10 = .ok (.aload_n 0, 1) := by decide +kernel
theorem dX9_literal_11 : decode cX9_literal 11 = .ok (.aload_n 0, 1) := by decide +kernel
theorem dX9_literal_12 : decode cX9_literal 12 = .ok (.getfield 32, 3) := by decide +kernel
theorem dX9_literal_15 : decode cX9_literal 15 = .ok (.iload_n 2, 1) := by decide +kernel
theorem dX9_literal_16 : decode cX9_literal 16 = .ok (.iaload, 1) := by decide +kernel
theorem dX9_literal_17 : decode cX9_literal 17 = .ok (.aload_n 0, 1) := by decide +kernel
theorem dX9_literal_18 : decode cX9_literal 18 = .ok (.getfield 35, 3) := by decide +kernel
theorem dX9_literal_21 : decode cX9_literal 21 = .ok (.iload_n 2, 1) := by decide +kernel
theorem dX9_literal_22 : decode cX9_literal 22 = .ok (.iaload, 1) := by decide +kernel
theorem dX9_literal_23 : decode cX9_literal 23 = .ok (.aload_n 0, 1) := by decide +kernel
theorem dX9_literal_24 : decode cX9_literal 24 = .ok (.getfield 41, 3) := by decide +kernel
theorem dX9_literal_27 : decode cX9_literal 27 = .ok (.iload_n 2, 1) := by decide +kernel
theorem dX9_literal_28 : decode cX9_literal 28 = .ok (.baload, 1) := by decide +kernel
theorem dX9_literal_29 : decode cX9_literal 29 = .ok (.ifCond .eq 8, 3) := by decide +kernel
theorem dX9_literal_32 : decode cX9_literal 32 = .ok (.ldc 165, 2) := by decide +kernel
theorem dX9_literal_34 : decode cX9_literal 34 = .ok (.goto 9, 3) := by decide +kernel
theorem dX9_literal_37 : decode cX9_literal 37 = .ok (.aload_n 0, 1) := by decide +kernel
theorem dX9_literal_38 : decode cX9_literal 38 = .ok (.getfield 38, 3) := by decide +kernel
theorem dX9_literal_41 : decode cX9_literal 41 = .ok (.iload_n 2, 1) := by decide +kernel
theorem dX9_literal_42 : decode cX9_literal 42 = .ok (.iaload, 1) := by decide +kernel
theorem dX9_literal_43 : decode cX9_literal 43 = .ok (.invokevirtual 158, 3) := by decide +kernel
theorem dX9_literal_46 : decode cX9_literal 46 = .ok (.goto 56, 3) := by decide +kernel
theorem dX9_literal_49 : decode cX9_literal 49 = .ok (.aload_n 0, 1) := by decide +kernel
theorem dX9_literal_50 : decode cX9_literal 50 = .ok (.getfield 41, 3) := by decide +kernel
theorem dX9_literal_53 : decode cX9_literal 53 = .ok (.iload_n 2, 1) := by decide +kernel
theorem dX9_literal_54 : decode cX9_literal 54 = .ok (.baload, 1) := by decide +kernel
theorem dX9_literal_55 : decode cX9_literal 55 = .ok (.ifCond .eq 22, 3) := by decide +kernel
theorem dX9_literal_58 : decode cX9_literal 58 = .ok (.aload_n 0, 1) := by decide +kernel
theorem dX9_literal_59 : decode cX9_literal 59 = .ok (.aload_n 0, 1) := by decide +kernel
theorem dX9_literal_60 : decode cX9_literal 60 = .ok (.getfield 32, 3) := by decide +kernel
theorem dX9_literal_63 : decode cX9_literal 63 = .ok (.iload_n 2, 1) := by decide +kernel
theorem dX9_literal_64 : decode cX9_literal 64 = .ok (.iaload, 1) := by decide +kernel
theorem dX9_literal_65 : decode cX9_literal 65 = .ok (.aload_n 0, 1) := by decide +kernel
theorem dX9_literal_66 : decode cX9_literal 66 = .ok (.getfield 35, 3) := by decide +kernel
theorem dX9_literal_69 : decode cX9_literal 69 = .ok (.iload_n 2, 1) := by decide +kernel
theorem dX9_literal_70 : decode cX9_literal 70 = .ok (.iaload, 1) := by decide +kernel
theorem dX9_literal_71 : decode cX9_literal 71 = .ok (.invokevirtual 166, 3) := by decide +kernel
theorem dX9_literal_74 : decode cX9_literal 74 = .ok (.goto 28, 3) := by decide +kernel
theorem dX9_literal_77 : decode cX9_literal 77 = .ok (.aload_n 0, 1) := by decide +kernel
theorem dX9_literal_78 : decode cX9_literal 78 = .ok (.aload_n 0, 1) := by decide +kernel
theorem dX9_literal_79 : decode cX9_literal 79 = .ok (.getfield 35, 3) := by decide +kernel
theorem dX9_literal_82 : decode cX9_literal 82 = .ok (.iload_n 2, 1) := by decide +kernel
theorem dX9_literal_83 : decode cX9_literal 83 = .ok (.iaload, 1) := by decide +kernel
theorem dX9_literal_84 : decode cX9_literal 84 = .ok (.aload_n 0, 1) := by decide +kernel
theorem dX9_literal_85 : decode cX9_literal 85 = .ok (.getfield 32, 3) := by decide +kernel
theorem dX9_literal_88 : decode cX9_literal 88 = .ok (.iload_n 2, 1) := by decide +kernel
theorem dX9_literal_89 : decode cX9_literal 89 = .ok (.iaload, 1) := by decide +kernel
theorem dX9_literal_90 : decode cX9_literal 90 = .ok (.aload_n 0, 1) := by decide +kernel
theorem dX9_literal_91 : decode cX9_literal 91 = .ok (.getfield 38, 3) := by decide +kernel
theorem dX9_literal_94 : decode cX9_literal 94 = .ok (.iload_n 2, 1) := by decide +kernel
theorem dX9_literal_95 : decode cX9_literal 95 = .ok (.iaload, 1) := by decide +kernel
theorem dX9_literal_96 : decode cX9_literal 96 = .ok (.ineg, 1) := by decide +kernel
theorem dX9_literal_97 : decode cX9_literal 97 = .ok (.iconst 1, 1) := by decide +kernel
theorem dX9_literal_98 : decode cX9_literal 98 = .ok (.isub, 1) := by decide +kernel
theorem dX9_literal_99 : decode cX9_literal 99 = .ok (.invokevirtual 158, 3) := by decide +kernel
theorem dX9_literal_102 : decode cX9_literal 102 = .ok (.return_, 1) := by decide +kernel
theorem dX9_functions_0 : decode cX9_functions 0 = .ok (.iconst 0, 1) := by decide +kernel
theorem dX9_functions_1 : decode cX9_functions 1 = .ok (.istore_n 1, 1) := by decide +kernel
theorem dX9_functions_2 : decode cX9_functions 2 = .ok (.iload_n 1, 1) := by decide +kernel
theorem dX9_functions_3 : decode cX9_functions 3 = .ok (.aload_n 0, 1) := by decide +kernel
theorem dX9_functions_4 : decode cX9_functions 4 = .ok (.getfield 101, 3) := by decide +kernel
theorem dX9_functions_7 : decode cX9_functions 7 = .ok (.if_icmp .ge 116, 3) := by decide +kernel
theorem dX9_functions_10 : decode cX9_functions 10 = .ok (.iconst 0, 1) := by decide +kernel
theorem dX9_functions_11 : decode cX9_functions 11 = .ok (.istore_n 2, 1) := by decide +kernel
theorem dX9_functions_12 : decode cX9_functions 12 = .ok (.iload_n 2, 1) := by decide +kernel
theorem dX9_functions_13 : decode cX9_functions 13 = .ok (.iload_n 1, 1) := by decide +kernel
theorem dX9_functions_14 : decode cX9_functions 14 = .ok (.if_icmp .ge 103, 3) := by decide +kernel
theorem dX9_functions_17 : decode cX9_functions 17 = .ok (.aload_n 0, 1) := by decide +kernel
theorem dX9_functions_18 : decode cX9_functions 18 = .ok (.getfield 7, 3) := by decide +kernel
theorem dX9_functions_21 : decode cX9_functions 21 = .ok (.iload_n 1, 1) := by decide +kernel
theorem dX9_functions_22 : decode cX9_functions 22 = .ok (.caload, 1) := by decide +kernel
theorem dX9_functions_23 : decode cX9_functions 23 = .ok (.bipush 102, 2) := by decide +kernel
theorem dX9_functions_25 : decode cX9_functions 25 = .ok (.if_icmp .ne 86, 3) := by decide +kernel
theorem dX9_functions_28 : decode cX9_functions 28 = .ok (.aload_n 0, 1) := by decide +kernel
theorem dX9_functions_29 : decode cX9_functions 29 = .ok (.getfield 7, 3) := by decide +kernel
theorem dX9_functions_32 : decode cX9_functions 32 = .ok (.iload_n 2, 1) := by decide +kernel
theorem dX9_functions_33 : decode cX9_functions 33 = .ok (.caload, 1) := by decide +kernel
theorem dX9_functions_34 : decode cX9_functions 34 = .ok (.bipush 102, 2) := by decide +kernel
theorem dX9_functions_36 : decode cX9_functions 36 = .ok (.if_icmp .ne 75, 3) := by decide +kernel
theorem dX9_functions_39 : decode cX9_functions 39 = .ok (.aload_n 0, 1) := by decide +kernel
theorem dX9_functions_40 : decode cX9_functions 40 = .ok (.getfield 16, 3) := by decide +kernel
theorem dX9_functions_43 : decode cX9_functions 43 = .ok (.iload_n 1, 1) := by decide +kernel
theorem dX9_functions_44 : decode cX9_functions 44 = .ok (.iaload, 1) := by decide +kernel
theorem dX9_functions_45 : decode cX9_functions 45 = .ok (.aload_n 0, 1) := by decide +kernel
theorem dX9_functions_46 : decode cX9_functions 46 = .ok (.getfield 16, 3) := by decide +kernel
theorem dX9_functions_49 : decode cX9_functions 49 = .ok (.iload_n 2, 1) := by decide +kernel
theorem dX9_functions_50 : decode cX9_functions 50 = .ok (.iaload, 1) := by decide +kernel
theorem dX9_functions_51 : decode cX9_functions 51 = .ok (.if_icmp .eq 6, 3) := by decide +kernel
theorem dX9_functions_54 : decode cX9_functions 54 = .ok (.goto 57, 3) := by decide +kernel
theorem dX9_functions_57 : decode cX9_functions 57 = .ok (.aload_n 0, 1) := by decide +kernel
theorem dX9_functions_58 : decode cX9_functions 58 = .ok (.aload_n 0, 1) := by decide +kernel
theorem dX9_functions_59 : decode cX9_functions 59 = .ok (.getfield 20, 3) := by decide +kernel
theorem dX9_functions_62 : decode cX9_functions 62 = .ok (.iload_n 1, 1) := by decide +kernel
theorem dX9_functions_63 : decode cX9_functions 63 = .ok (.iaload, 1) := by decide +kernel
theorem dX9_functions_64 : decode cX9_functions 64 = .ok (.aload_n 0, 1) := by decide +kernel
theorem dX9_functions_65 : decode cX9_functions 65 = .ok (.getfield 20, 3) := by decide +kernel
theorem dX9_functions_68 : decode cX9_functions 68 = .ok (.iload_n 2, 1) := by decide +kernel
theorem dX9_functions_69 : decode cX9_functions 69 = .ok (.iaload, 1) := by decide +kernel
theorem dX9_functions_70 : decode cX9_functions 70 = .ok (.invokevirtual 166, 3) := by decide +kernel
theorem dX9_functions_73 : decode cX9_functions 73 = .ok (.aload_n 0, 1) := by decide +kernel
theorem dX9_functions_74 : decode cX9_functions 74 = .ok (.getfield 16, 3) := by decide +kernel
theorem dX9_functions_77 : decode cX9_functions 77 = .ok (.iload_n 1, 1) := by decide +kernel
theorem dX9_functions_78 : decode cX9_functions 78 = .ok (.iaload, 1) := by decide +kernel
theorem dX9_functions_79 : decode cX9_functions 79 = .ok (.iconst 2, 1) := by decide +kernel
theorem dX9_functions_80 : decode cX9_functions 80 = .ok (.if_icmp .lt 19, 3) := by decide +kernel
theorem dX9_functions_83 : decode cX9_functions 83 = .ok (.aload_n 0, 1) := by decide +kernel
theorem dX9_functions_84 : decode cX9_functions 84 = .ok (.aload_n 0, 1) := by decide +kernel
theorem dX9_functions_85 : decode cX9_functions 85 = .ok (.getfield 23, 3) := by decide +kernel
theorem dX9_functions_88 : decode cX9_functions 88 = .ok (.iload_n 1, 1) := by decide +kernel
theorem dX9_functions_89 : decode cX9_functions 89 = .ok (.iaload, 1) := by decide +kernel
theorem dX9_functions_90 : decode cX9_functions 90 = .ok (.aload_n 0, 1) := by decide +kernel
theorem dX9_functions_91 : decode cX9_functions 91 = .ok (.getfield 23, 3) := by decide +kernel
theorem dX9_functions_94 : decode cX9_functions 94 = .ok (.iload_n 2, 1) := by decide +kernel
theorem dX9_functions_95 : decode cX9_functions 95 = .ok (.iaload, 1) := by decide +kernel
theorem dX9_functions_96 : decode cX9_functions 96 = .ok (.invokevirtual 166, 3) := by decide +kernel
theorem dX9_functions_99 : decode cX9_functions 99 = .ok (.aload_n 0, 1) := by decide +kernel
theorem dX9_functions_100 : decode cX9_functions 100 = .ok (.iload_n 1, 1) := by decide +kernel
theorem dX9_functions_101 : decode cX9_functions 101 = .ok (.iload_n 2, 1) := by decide +kernel
theorem dX9_functions_102 : decode cX9_functions 102 = .ok (.ldc 165, 2) := by decide +kernel
theorem dX9_functions_104 : decode cX9_functions 104 = .ok (.invokevirtual 158, 3) := by decide +kernel
theorem dX9_functions_107 : decode cX9_functions 107 = .ok (.aload_n 0, 1) := by decide +kernel
theorem dX9_functions_108 : decode cX9_functions 108 = .ok (.invokevirtual 170, 3) := by decide +kernel
theorem dX9_functions_111 : decode cX9_functions 111 = .ok (.iinc 2 1, 3) := by decide +kernel
theorem dX9_functions_114 : decode cX9_functions 114 = .ok (.goto (-102), 3) := by decide +kernel
theorem dX9_functions_117 : decode cX9_functions 117 = .ok (.iinc 1 1, 3) := by decide +kernel
theorem dX9_functions_120 : decode cX9_functions 120 = .ok (.goto (-118), 3) := by decide +kernel
theorem dX9_functions_123 : decode cX9_functions 123 = .ok (.return_, 1) := by decide +kernel
theorem dX9_rules_0 : decode cX9_rules 0 = .ok (.iconst 0, 1) := by decide +kernel
theorem dX9_rules_1 : decode cX9_rules 1 = .ok (.istore_n 1, 1) := by decide +kernel
theorem dX9_rules_2 : decode cX9_rules 2 = .ok (.iload_n 1, 1) := by decide +kernel
theorem dX9_rules_3 : decode cX9_rules 3 = .ok (.aload_n 0, 1) := by decide +kernel
theorem dX9_rules_4 : decode cX9_rules 4 = .ok (.getfield 149, 3) := by decide +kernel
theorem dX9_rules_7 : decode cX9_rules 7 = .ok (.if_icmp .ge 277, 3) := by decide +kernel
theorem dX9_rules_10 : decode cX9_rules 10 = .ok (.iconst 0, 1) := by decide +kernel
theorem dX9_rules_11 : decode cX9_rules 11 = .ok (.istore_n 2, 1) := by decide +kernel
theorem dX9_rules_12 : decode cX9_rules 12 = .ok (.iload_n 2, 1) := by decide +kernel
theorem dX9_rules_13 : decode cX9_rules 13 = .ok (.aload_n 0, 1) := by decide +kernel
theorem dX9_rules_14 : decode cX9_rules 14 = .ok (.getfield 101, 3) := by decide +kernel
theorem dX9_rules_17 : decode cX9_rules 17 = .ok (.if_icmp .ge 261, 3) := by decide +kernel
theorem dX9_rules_20 : decode cX9_rules 20 = .ok (.iconst 0, 1) := by decide +kernel
theorem dX9_rules_21 : decode cX9_rules 21 = .ok (.istore_n 3, 1) := by decide +kernel
theorem dX9_rules_22 : decode cX9_rules 22 = .ok (.iload_n 3, 1) := by decide +kernel
theorem dX9_rules_23 : decode cX9_rules 23 = .ok (.aload_n 0, 1) := by decide +kernel
theorem dX9_rules_24 : decode cX9_rules 24 = .ok (.getfield 101, 3) := by decide +kernel
theorem dX9_rules_27 : decode cX9_rules 27 = .ok (.if_icmp .ge 245, 3) := by decide +kernel
theorem dX9_rules_30 : decode cX9_rules 30 = .ok (.aload_n 0, 1) := by decide +kernel
theorem dX9_rules_31 : decode cX9_rules 31 = .ok (.getfield 7, 3) := by decide +kernel
theorem dX9_rules_34 : decode cX9_rules 34 = .ok (.iload_n 2, 1) := by decide +kernel
theorem dX9_rules_35 : decode cX9_rules 35 = .ok (.caload, 1) := by decide +kernel
theorem dX9_rules_36 : decode cX9_rules 36 = .ok (.bipush 102, 2) := by decide +kernel
theorem dX9_rules_38 : decode cX9_rules 38 = .ok (.if_icmp .ne 228, 3) := by decide +kernel
theorem dX9_rules_41 : decode cX9_rules 41 = .ok (.aload_n 0, 1) := by decide +kernel
theorem dX9_rules_42 : decode cX9_rules 42 = .ok (.getfield 7, 3) := by decide +kernel
theorem dX9_rules_45 : decode cX9_rules 45 = .ok (.iload_n 3, 1) := by decide +kernel
theorem dX9_rules_46 : decode cX9_rules 46 = .ok (.caload, 1) := by decide +kernel
theorem dX9_rules_47 : decode cX9_rules 47 = .ok (.bipush 102, 2) := by decide +kernel
theorem dX9_rules_49 : decode cX9_rules 49 = .ok (.if_icmp .ne 217, 3) := by decide +kernel
theorem dX9_rules_52 : decode cX9_rules 52 = .ok (.aload_n 0, 1) := by decide +kernel
theorem dX9_rules_53 : decode cX9_rules 53 = .ok (.getfield 16, 3) := by decide +kernel
theorem dX9_rules_56 : decode cX9_rules 56 = .ok (.iload_n 2, 1) := by decide +kernel
theorem dX9_rules_57 : decode cX9_rules 57 = .ok (.iaload, 1) := by decide +kernel
theorem dX9_rules_58 : decode cX9_rules 58 = .ok (.aload_n 0, 1) := by decide +kernel
theorem dX9_rules_59 : decode cX9_rules 59 = .ok (.getfield 29, 3) := by decide +kernel
theorem dX9_rules_62 : decode cX9_rules 62 = .ok (.iload_n 1, 1) := by decide +kernel
theorem dX9_rules_63 : decode cX9_rules 63 = .ok (.iaload, 1) := by decide +kernel
theorem dX9_rules_64 : decode cX9_rules 64 = .ok (.if_icmp .ne 202, 3) := by decide +kernel
theorem dX9_rules_67 : decode cX9_rules 67 = .ok (.aload_n 0, 1) := by decide +kernel
theorem dX9_rules_68 : decode cX9_rules 68 = .ok (.getfield 16, 3) := by decide +kernel
theorem dX9_rules_71 : decode cX9_rules 71 = .ok (.iload_n 3, 1) := by decide +kernel
theorem dX9_rules_72 : decode cX9_rules 72 = .ok (.iaload, 1) := by decide +kernel
theorem dX9_rules_73 : decode cX9_rules 73 = .ok (.aload_n 0, 1) := by decide +kernel
theorem dX9_rules_74 : decode cX9_rules 74 = .ok (.getfield 29, 3) := by decide +kernel
theorem dX9_rules_77 : decode cX9_rules 77 = .ok (.iload_n 1, 1) := by decide +kernel
theorem dX9_rules_78 : decode cX9_rules 78 = .ok (.iaload, 1) := by decide +kernel
theorem dX9_rules_79 : decode cX9_rules 79 = .ok (.if_icmp .eq 6, 3) := by decide +kernel
theorem dX9_rules_82 : decode cX9_rules 82 = .ok (.goto 184, 3) := by decide +kernel
theorem dX9_rules_85 : decode cX9_rules 85 = .ok (.aload_n 0, 1) := by decide +kernel
theorem dX9_rules_86 : decode cX9_rules 86 = .ok (.getfield 13, 3) := by decide +kernel
theorem dX9_rules_89 : decode cX9_rules 89 = .ok (.iload_n 1, 1) := by decide +kernel
theorem dX9_rules_90 : decode cX9_rules 90 = .ok (.caload, 1) := by decide +kernel
theorem dX9_rules_91 : decode cX9_rules 91 = .ok (.bipush 115, 2) := by decide +kernel
theorem dX9_rules_93 : decode cX9_rules 93 = .ok (.if_icmp .ne 30, 3) := by decide +kernel
theorem dX9_rules_96 : decode cX9_rules 96 = .ok (.aload_n 0, 1) := by decide +kernel
theorem dX9_rules_97 : decode cX9_rules 97 = .ok (.getfield 20, 3) := by decide +kernel
theorem dX9_rules_100 : decode cX9_rules 100 = .ok (.iload_n 2, 1) := by decide +kernel
theorem dX9_rules_101 : decode cX9_rules 101 = .ok (.iaload, 1) := by decide +kernel
theorem dX9_rules_102 : decode cX9_rules 102 = .ok (.iload_n 3, 1) := by decide +kernel
theorem dX9_rules_103 : decode cX9_rules 103 = .ok (.if_icmp .ne 20, 3) := by decide +kernel
theorem dX9_rules_106 : decode cX9_rules 106 = .ok (.aload_n 0, 1) := by decide +kernel
theorem dX9_rules_107 : decode cX9_rules 107 = .ok (.iload_n 2, 1) := by decide +kernel
theorem dX9_rules_108 : decode cX9_rules 108 = .ok (.aload_n 0, 1) := by decide +kernel
theorem dX9_rules_109 : decode cX9_rules 109 = .ok (.getfield 20, 3) := by decide +kernel
theorem dX9_rules_112 : decode cX9_rules 112 = .ok (.iload_n 3, 1) := by decide +kernel
theorem dX9_rules_113 : decode cX9_rules 113 = .ok (.iaload, 1) := by decide +kernel
theorem dX9_rules_114 : decode cX9_rules 114 = .ok (.ldc 165, 2) := by decide +kernel
theorem dX9_rules_116 : decode cX9_rules 116 = .ok (.invokevirtual 158, 3) := by decide +kernel
theorem dX9_rules_119 : decode cX9_rules 119 = .ok (.aload_n 0, 1) := by decide +kernel
theorem dX9_rules_120 : decode cX9_rules 120 = .ok (.invokevirtual 170, 3) := by decide +kernel
theorem dX9_rules_123 : decode cX9_rules 123 = .ok (.aload_n 0, 1) := by decide +kernel
theorem dX9_rules_124 : decode cX9_rules 124 = .ok (.getfield 13, 3) := by decide +kernel
theorem dX9_rules_127 : decode cX9_rules 127 = .ok (.iload_n 1, 1) := by decide +kernel
theorem dX9_rules_128 : decode cX9_rules 128 = .ok (.caload, 1) := by decide +kernel
theorem dX9_rules_129 : decode cX9_rules 129 = .ok (.bipush 105, 2) := by decide +kernel
theorem dX9_rules_131 : decode cX9_rules 131 = .ok (.if_icmp .ne 36, 3) := by decide +kernel
theorem dX9_rules_134 : decode cX9_rules 134 = .ok (.iload_n 3, 1) := by decide +kernel
theorem dX9_rules_135 : decode cX9_rules 135 = .ok (.iload_n 2, 1) := by decide +kernel
theorem dX9_rules_136 : decode cX9_rules 136 = .ok (.if_icmp .ge 31, 3) := by decide +kernel
theorem dX9_rules_139 : decode cX9_rules 139 = .ok (.aload_n 0, 1) := by decide +kernel
theorem dX9_rules_140 : decode cX9_rules 140 = .ok (.iload_n 2, 1) := by decide +kernel
theorem dX9_rules_141 : decode cX9_rules 141 = .ok (.iload_n 3, 1) := by decide +kernel
theorem dX9_rules_142 : decode cX9_rules 142 = .ok (.invokevirtual 166, 3) := by decide +kernel
theorem dX9_rules_145 : decode cX9_rules 145 = .ok (.aload_n 0, 1) := by decide +kernel
theorem dX9_rules_146 : decode cX9_rules 146 = .ok (.aload_n 0, 1) := by decide +kernel
theorem dX9_rules_147 : decode cX9_rules 147 = .ok (.getfield 20, 3) := by decide +kernel
theorem dX9_rules_150 : decode cX9_rules 150 = .ok (.iload_n 2, 1) := by decide +kernel
theorem dX9_rules_151 : decode cX9_rules 151 = .ok (.iaload, 1) := by decide +kernel
theorem dX9_rules_152 : decode cX9_rules 152 = .ok (.aload_n 0, 1) := by decide +kernel
theorem dX9_rules_153 : decode cX9_rules 153 = .ok (.getfield 20, 3) := by decide +kernel
theorem dX9_rules_156 : decode cX9_rules 156 = .ok (.iload_n 3, 1) := by decide +kernel
theorem dX9_rules_157 : decode cX9_rules 157 = .ok (.iaload, 1) := by decide +kernel
theorem dX9_rules_158 : decode cX9_rules 158 = .ok (.ldc 165, 2) := by decide +kernel
theorem dX9_rules_160 : decode cX9_rules 160 = .ok (.invokevirtual 158, 3) := by decide +kernel
theorem dX9_rules_163 : decode cX9_rules 163 = .ok (.aload_n 0, 1) := by decide +kernel
theorem dX9_rules_164 : decode cX9_rules 164 = .ok (.invokevirtual 170, 3) := by decide +kernel
theorem dX9_rules_167 : decode cX9_rules 167 = .ok (.aload_n 0, 1) := by decide +kernel
theorem dX9_rules_168 : decode cX9_rules 168 = .ok (.getfield 13, 3) := by decide +kernel
theorem dX9_rules_171 : decode cX9_rules 171 = .ok (.iload_n 1, 1) := by decide +kernel
theorem dX9_rules_172 : decode cX9_rules 172 = .ok (.caload, 1) := by decide +kernel
theorem dX9_rules_173 : decode cX9_rules 173 = .ok (.bipush 109, 2) := by decide +kernel
theorem dX9_rules_175 : decode cX9_rules 175 = .ok (.if_icmp .ne 36, 3) := by decide +kernel
theorem dX9_rules_178 : decode cX9_rules 178 = .ok (.iload_n 3, 1) := by decide +kernel
theorem dX9_rules_179 : decode cX9_rules 179 = .ok (.iload_n 2, 1) := by decide +kernel
theorem dX9_rules_180 : decode cX9_rules 180 = .ok (.if_icmp .eq 31, 3) := by decide +kernel
theorem dX9_rules_183 : decode cX9_rules 183 = .ok (.aload_n 0, 1) := by decide +kernel
theorem dX9_rules_184 : decode cX9_rules 184 = .ok (.aload_n 0, 1) := by decide +kernel
theorem dX9_rules_185 : decode cX9_rules 185 = .ok (.getfield 20, 3) := by decide +kernel
theorem dX9_rules_188 : decode cX9_rules 188 = .ok (.iload_n 3, 1) := by decide +kernel
theorem dX9_rules_189 : decode cX9_rules 189 = .ok (.iaload, 1) := by decide +kernel
theorem dX9_rules_190 : decode cX9_rules 190 = .ok (.aload_n 0, 1) := by decide +kernel
theorem dX9_rules_191 : decode cX9_rules 191 = .ok (.getfield 20, 3) := by decide +kernel
theorem dX9_rules_194 : decode cX9_rules 194 = .ok (.iload_n 2, 1) := by decide +kernel
theorem dX9_rules_195 : decode cX9_rules 195 = .ok (.iaload, 1) := by decide +kernel
theorem dX9_rules_196 : decode cX9_rules 196 = .ok (.iconst 0, 1) := by decide +kernel
theorem dX9_rules_197 : decode cX9_rules 197 = .ok (.invokevirtual 158, 3) := by decide +kernel
theorem dX9_rules_200 : decode cX9_rules 200 = .ok (.aload_n 0, 1) := by decide +kernel
theorem dX9_rules_201 : decode cX9_rules 201 = .ok (.iload_n 2, 1) := by decide +kernel
theorem dX9_rules_202 : decode cX9_rules 202 = .ok (.iload_n 3, 1) := by decide +kernel
theorem dX9_rules_203 : decode cX9_rules 203 = .ok (.iconst 0, 1) := by decide +kernel
theorem dX9_rules_204 : decode cX9_rules 204 = .ok (.invokevirtual 158, 3) := by decide +kernel
theorem dX9_rules_207 : decode cX9_rules 207 = .ok (.aload_n 0, 1) := by decide +kernel
theorem dX9_rules_208 : decode cX9_rules 208 = .ok (.invokevirtual 170, 3) := by decide +kernel
theorem dX9_rules_211 : decode cX9_rules 211 = .ok (.aload_n 0, 1) := by decide +kernel
theorem dX9_rules_212 : decode cX9_rules 212 = .ok (.getfield 13, 3) := by decide +kernel
theorem dX9_rules_215 : decode cX9_rules 215 = .ok (.iload_n 1, 1) := by decide +kernel
theorem dX9_rules_216 : decode cX9_rules 216 = .ok (.caload, 1) := by decide +kernel
theorem dX9_rules_217 : decode cX9_rules 217 = .ok (.bipush 99, 2) := by decide +kernel
theorem dX9_rules_219 : decode cX9_rules 219 = .ok (.if_icmp .ne 47, 3) := by decide +kernel
theorem dX9_rules_222 : decode cX9_rules 222 = .ok (.aload_n 0, 1) := by decide +kernel
theorem dX9_rules_223 : decode cX9_rules 223 = .ok (.aload_n 0, 1) := by decide +kernel
theorem dX9_rules_224 : decode cX9_rules 224 = .ok (.getfield 20, 3) := by decide +kernel
theorem dX9_rules_227 : decode cX9_rules 227 = .ok (.iload_n 2, 1) := by decide +kernel
theorem dX9_rules_228 : decode cX9_rules 228 = .ok (.iaload, 1) := by decide +kernel
theorem dX9_rules_229 : decode cX9_rules 229 = .ok (.aload_n 0, 1) := by decide +kernel
theorem dX9_rules_230 : decode cX9_rules 230 = .ok (.getfield 23, 3) := by decide +kernel
theorem dX9_rules_233 : decode cX9_rules 233 = .ok (.iload_n 3, 1) := by decide +kernel
theorem dX9_rules_234 : decode cX9_rules 234 = .ok (.iaload, 1) := by decide +kernel
theorem dX9_rules_235 : decode cX9_rules 235 = .ok (.invokevirtual 166, 3) := by decide +kernel
theorem dX9_rules_238 : decode cX9_rules 238 = .ok (.aload_n 0, 1) := by decide +kernel
theorem dX9_rules_239 : decode cX9_rules 239 = .ok (.aload_n 0, 1) := by decide +kernel
theorem dX9_rules_240 : decode cX9_rules 240 = .ok (.getfield 23, 3) := by decide +kernel
theorem dX9_rules_243 : decode cX9_rules 243 = .ok (.iload_n 2, 1) := by decide +kernel
theorem dX9_rules_244 : decode cX9_rules 244 = .ok (.iaload, 1) := by decide +kernel
theorem dX9_rules_245 : decode cX9_rules 245 = .ok (.aload_n 0, 1) := by decide +kernel
theorem dX9_rules_246 : decode cX9_rules 246 = .ok (.getfield 20, 3) := by decide +kernel
theorem dX9_rules_249 : decode cX9_rules 249 = .ok (.iload_n 3, 1) := by decide +kernel
theorem dX9_rules_250 : decode cX9_rules 250 = .ok (.iaload, 1) := by decide +kernel
theorem dX9_rules_251 : decode cX9_rules 251 = .ok (.invokevirtual 166, 3) := by decide +kernel
theorem dX9_rules_254 : decode cX9_rules 254 = .ok (.aload_n 0, 1) := by decide +kernel
theorem dX9_rules_255 : decode cX9_rules 255 = .ok (.iload_n 2, 1) := by decide +kernel
theorem dX9_rules_256 : decode cX9_rules 256 = .ok (.iload_n 3, 1) := by decide +kernel
theorem dX9_rules_257 : decode cX9_rules 257 = .ok (.ldc 165, 2) := by decide +kernel
theorem dX9_rules_259 : decode cX9_rules 259 = .ok (.invokevirtual 158, 3) := by decide +kernel
theorem dX9_rules_262 : decode cX9_rules 262 = .ok (.aload_n 0, 1) := by decide +kernel
theorem dX9_rules_263 : decode cX9_rules 263 = .ok (.invokevirtual 170, 3) := by decide +kernel
theorem dX9_rules_266 : decode cX9_rules 266 = .ok (.iinc 3 1, 3) := by decide +kernel
theorem dX9_rules_269 : decode cX9_rules 269 = .ok (.goto (-247), 3) := by decide +kernel
theorem dX9_rules_272 : decode cX9_rules 272 = .ok (.iinc 2 1, 3) := by decide +kernel
theorem dX9_rules_275 : decode cX9_rules 275 = .ok (.goto (-263), 3) := by decide +kernel
theorem dX9_rules_278 : decode cX9_rules 278 = .ok (.iinc 1 1, 3) := by decide +kernel
theorem dX9_rules_281 : decode cX9_rules 281 = .ok (.goto (-279), 3) := by decide +kernel
theorem dX9_rules_284 : decode cX9_rules 284 = .ok (.return_, 1) := by decide +kernel
theorem dX9_root_0 : decode cX9_root 0 = .ok (.iload_n 1, 1) := by decide +kernel
theorem dX9_root_1 : decode cX9_root 1 = .ok (.istore_n 2, 1) := by decide +kernel
theorem dX9_root_2 : decode cX9_root 2 = .ok (.aload_n 0, 1) := by decide +kernel
theorem dX9_root_3 : decode cX9_root 3 = .ok (.getfield 7, 3) := by decide +kernel
theorem dX9_root_6 : decode cX9_root 6 = .ok (.iload_n 2, 1) := by decide +kernel
theorem dX9_root_7 : decode cX9_root 7 = .ok (.caload, 1) := by decide +kernel
theorem dX9_root_8 : decode cX9_root 8 = .ok (.bipush 119, 2) := by decide +kernel
theorem dX9_root_10 : decode cX9_root 10 = .ok (.if_icmp .ne 13, 3) := by decide +kernel
theorem dX9_root_13 : decode cX9_root 13 = .ok (.aload_n 0, 1) := by decide +kernel
theorem dX9_root_14 : decode cX9_root 14 = .ok (.getfield 20, 3) := by decide +kernel
theorem dX9_root_17 : decode cX9_root 17 = .ok (.iload_n 2, 1) := by decide +kernel
theorem dX9_root_18 : decode cX9_root 18 = .ok (.iaload, 1) := by decide +kernel
theorem dX9_root_19 : decode cX9_root 19 = .ok (.istore_n 2, 1) := by decide +kernel
theorem dX9_root_20 : decode cX9_root 20 = .ok (.goto (-18), 3) := by decide +kernel
theorem dX9_root_23 : decode cX9_root 23 = .ok (.iload_n 2, 1) := by decide +kernel
theorem dX9_root_24 : decode cX9_root 24 = .ok (.ireturn, 1) := by decide +kernel
theorem dX9_meets_0 : decode cX9_meets 0 = .ok (.iload_n 2, 1) := by decide +kernel
theorem dX9_meets_1 : decode cX9_meets 1 = .ok (.istore 4, 2) := by decide +kernel
theorem dX9_meets_3 : decode cX9_meets 3 = .ok (.iload 4, 2) := by decide +kernel
theorem dX9_meets_5 : decode cX9_meets 5 = .ok (.iload_n 3, 1) := by decide +kernel
theorem dX9_meets_6 : decode cX9_meets 6 = .ok (.if_icmp .eq 29, 3) := by decide +kernel
theorem dX9_meets_9 : decode cX9_meets 9 = .ok (.aload_n 0, 1) := by decide +kernel
theorem dX9_meets_10 : decode cX9_meets 10 = .ok (.iload_n 1, 1) := by decide +kernel
theorem dX9_meets_11 : decode cX9_meets 11 = .ok (.aload_n 0, 1) := by decide +kernel
theorem dX9_meets_12 : decode cX9_meets 12 = .ok (.getfield 23, 3) := by decide +kernel
theorem dX9_meets_15 : decode cX9_meets 15 = .ok (.iload 4, 2) := by decide +kernel
theorem dX9_meets_17 : decode cX9_meets 17 = .ok (.iaload, 1) := by decide +kernel
theorem dX9_meets_18 : decode cX9_meets 18 = .ok (.ldc 165, 2) := by decide +kernel
theorem dX9_meets_20 : decode cX9_meets 20 = .ok (.invokevirtual 158, 3) := by decide +kernel
theorem dX9_meets_23 : decode cX9_meets 23 = .ok (.aload_n 0, 1) := by decide +kernel
theorem dX9_meets_24 : decode cX9_meets 24 = .ok (.getfield 20, 3) := by decide +kernel
theorem dX9_meets_27 : decode cX9_meets 27 = .ok (.iload 4, 2) := by decide +kernel
theorem dX9_meets_29 : decode cX9_meets 29 = .ok (.iaload, 1) := by decide +kernel
theorem dX9_meets_30 : decode cX9_meets 30 = .ok (.istore 4, 2) := by decide +kernel
theorem dX9_meets_32 : decode cX9_meets 32 = .ok (.goto (-29), 3) := by decide +kernel
theorem dX9_meets_35 : decode cX9_meets 35 = .ok (.return_, 1) := by decide +kernel
theorem dX9_arrays_0 : decode cX9_arrays 0 = .ok (.iconst 0, 1) := by decide +kernel
theorem dX9_arrays_1 : decode cX9_arrays 1 = .ok (.istore_n 1, 1) := by decide +kernel
theorem dX9_arrays_2 : decode cX9_arrays 2 = .ok (.iload_n 1, 1) := by decide +kernel
theorem dX9_arrays_3 : decode cX9_arrays 3 = .ok (.aload_n 0, 1) := by decide +kernel
theorem dX9_arrays_4 : decode cX9_arrays 4 = .ok (.getfield 101, 3) := by decide +kernel
theorem dX9_arrays_7 : decode cX9_arrays 7 = .ok (.if_icmp .ge 231, 3) := by decide +kernel
theorem dX9_arrays_10 : decode cX9_arrays 10 = .ok (.aload_n 0, 1) := by decide +kernel
theorem dX9_arrays_11 : decode cX9_arrays 11 = .ok (.getfield 7, 3) := by decide +kernel
theorem dX9_arrays_14 : decode cX9_arrays 14 = .ok (.iload_n 1, 1) := by decide +kernel
theorem dX9_arrays_15 : decode cX9_arrays 15 = .ok (.caload, 1) := by decide +kernel
theorem dX9_arrays_16 : decode cX9_arrays 16 = .ok (.bipush 114, 2) := by decide +kernel
theorem dX9_arrays_18 : decode cX9_arrays 18 = .ok (.if_icmp .eq 6, 3) := by decide +kernel
theorem dX9_arrays_21 : decode cX9_arrays 21 = .ok (.goto 211, 3) := by decide +kernel
theorem dX9_arrays_24 : decode cX9_arrays 24 = .ok (.aload_n 0, 1) := by decide +kernel
theorem dX9_arrays_25 : decode cX9_arrays 25 = .ok (.getfield 20, 3) := by decide +kernel
theorem dX9_arrays_28 : decode cX9_arrays 28 = .ok (.iload_n 1, 1) := by decide +kernel
theorem dX9_arrays_29 : decode cX9_arrays 29 = .ok (.iaload, 1) := by decide +kernel
theorem dX9_arrays_30 : decode cX9_arrays 30 = .ok (.istore_n 2, 1) := by decide +kernel
theorem dX9_arrays_31 : decode cX9_arrays 31 = .ok (.aload_n 0, 1) := by decide +kernel
theorem dX9_arrays_32 : decode cX9_arrays 32 = .ok (.getfield 7, 3) := by decide +kernel
theorem dX9_arrays_35 : decode cX9_arrays 35 = .ok (.iload_n 2, 1) := by decide +kernel
theorem dX9_arrays_36 : decode cX9_arrays 36 = .ok (.caload, 1) := by decide +kernel
theorem dX9_arrays_37 : decode cX9_arrays 37 = .ok (.bipush 119, 2) := by decide +kernel
theorem dX9_arrays_39 : decode cX9_arrays 39 = .ok (.if_icmp .ne 63, 3) := by decide +kernel
theorem dX9_arrays_42 : decode cX9_arrays 42 = .ok (.aload_n 0, 1) := by decide +kernel
theorem dX9_arrays_43 : decode cX9_arrays 43 = .ok (.aload_n 0, 1) := by decide +kernel
theorem dX9_arrays_44 : decode cX9_arrays 44 = .ok (.getfield 23, 3) := by decide +kernel
theorem dX9_arrays_47 : decode cX9_arrays 47 = .ok (.iload_n 1, 1) := by decide +kernel
theorem dX9_arrays_48 : decode cX9_arrays 48 = .ok (.iaload, 1) := by decide +kernel
theorem dX9_arrays_49 : decode cX9_arrays 49 = .ok (.aload_n 0, 1) := by decide +kernel
theorem dX9_arrays_50 : decode cX9_arrays 50 = .ok (.getfield 20, 3) := by decide +kernel
theorem dX9_arrays_53 : decode cX9_arrays 53 = .ok (.iload_n 1, 1) := by decide +kernel
theorem dX9_arrays_54 : decode cX9_arrays 54 = .ok (.iaload, 1) := by decide +kernel
theorem dX9_arrays_55 : decode cX9_arrays 55 = .ok (.iload_n 2, 1) := by decide +kernel
theorem dX9_arrays_56 : decode cX9_arrays 56 = .ok (.invokevirtual 173, 3) := by decide +kernel
theorem dX9_arrays_59 : decode cX9_arrays 59 = .ok (.aload_n 0, 1) := by decide +kernel
theorem dX9_arrays_60 : decode cX9_arrays 60 = .ok (.aload_n 0, 1) := by decide +kernel
theorem dX9_arrays_61 : decode cX9_arrays 61 = .ok (.getfield 23, 3) := by decide +kernel
theorem dX9_arrays_64 : decode cX9_arrays 64 = .ok (.iload_n 1, 1) := by decide +kernel
theorem dX9_arrays_65 : decode cX9_arrays 65 = .ok (.iaload, 1) := by decide +kernel
theorem dX9_arrays_66 : decode cX9_arrays 66 = .ok (.aload_n 0, 1) := by decide +kernel
theorem dX9_arrays_67 : decode cX9_arrays 67 = .ok (.getfield 23, 3) := by decide +kernel
theorem dX9_arrays_70 : decode cX9_arrays 70 = .ok (.iload_n 2, 1) := by decide +kernel
theorem dX9_arrays_71 : decode cX9_arrays 71 = .ok (.iaload, 1) := by decide +kernel
theorem dX9_arrays_72 : decode cX9_arrays 72 = .ok (.invokevirtual 166, 3) := by decide +kernel
theorem dX9_arrays_75 : decode cX9_arrays 75 = .ok (.aload_n 0, 1) := by decide +kernel
theorem dX9_arrays_76 : decode cX9_arrays 76 = .ok (.iload_n 1, 1) := by decide +kernel
theorem dX9_arrays_77 : decode cX9_arrays 77 = .ok (.aload_n 0, 1) := by decide +kernel
theorem dX9_arrays_78 : decode cX9_arrays 78 = .ok (.getfield 26, 3) := by decide +kernel
theorem dX9_arrays_81 : decode cX9_arrays 81 = .ok (.iload_n 2, 1) := by decide +kernel
theorem dX9_arrays_82 : decode cX9_arrays 82 = .ok (.iaload, 1) := by decide +kernel
theorem dX9_arrays_83 : decode cX9_arrays 83 = .ok (.ldc 165, 2) := by decide +kernel
theorem dX9_arrays_85 : decode cX9_arrays 85 = .ok (.invokevirtual 158, 3) := by decide +kernel
theorem dX9_arrays_88 : decode cX9_arrays 88 = .ok (.aload_n 0, 1) := by decide +kernel
theorem dX9_arrays_89 : decode cX9_arrays 89 = .ok (.invokevirtual 170, 3) := by decide +kernel
theorem dX9_arrays_92 : decode cX9_arrays 92 = .ok (.aload_n 0, 1) := by decide +kernel
theorem dX9_arrays_93 : decode cX9_arrays 93 = .ok (.getfield 20, 3) := by decide +kernel
theorem dX9_arrays_96 : decode cX9_arrays 96 = .ok (.iload_n 2, 1) := by decide +kernel
theorem dX9_arrays_97 : decode cX9_arrays 97 = .ok (.iaload, 1) := by decide +kernel
theorem dX9_arrays_98 : decode cX9_arrays 98 = .ok (.istore_n 2, 1) := by decide +kernel
theorem dX9_arrays_99 : decode cX9_arrays 99 = .ok (.goto (-68), 3) := by decide +kernel
theorem dX9_arrays_102 : decode cX9_arrays 102 = .ok (.iconst 0, 1) := by decide +kernel
theorem dX9_arrays_103 : decode cX9_arrays 103 = .ok (.istore_n 2, 1) := by decide +kernel
theorem dX9_arrays_104 : decode cX9_arrays 104 = .ok (.iload_n 2, 1) := by decide +kernel
theorem dX9_arrays_105 : decode cX9_arrays 105 = .ok (.iload_n 1, 1) := by decide +kernel
theorem dX9_arrays_106 : decode cX9_arrays 106 = .ok (.if_icmp .ge 126, 3) := by decide +kernel
theorem dX9_arrays_109 : decode cX9_arrays 109 = .ok (.aload_n 0, 1) := by decide +kernel
theorem dX9_arrays_110 : decode cX9_arrays 110 = .ok (.getfield 7, 3) := by decide +kernel
theorem dX9_arrays_113 : decode cX9_arrays 113 = .ok (.iload_n 2, 1) := by decide +kernel
theorem dX9_arrays_114 : decode cX9_arrays 114 = .ok (.caload, 1) := by decide +kernel
theorem dX9_arrays_115 : decode cX9_arrays 115 = .ok (.bipush 114, 2) := by decide +kernel
theorem dX9_arrays_117 : decode cX9_arrays 117 = .ok (.if_icmp .ne 109, 3) := by decide +kernel
theorem dX9_arrays_120 : decode cX9_arrays 120 = .ok (.aload_n 0, 1) := by decide +kernel
theorem dX9_arrays_121 : decode cX9_arrays 121 = .ok (.aload_n 0, 1) := by decide +kernel
theorem dX9_arrays_122 : decode cX9_arrays 122 = .ok (.getfield 20, 3) := by decide +kernel
theorem dX9_arrays_125 : decode cX9_arrays 125 = .ok (.iload_n 2, 1) := by decide +kernel
theorem dX9_arrays_126 : decode cX9_arrays 126 = .ok (.iaload, 1) := by decide +kernel
theorem dX9_arrays_127 : decode cX9_arrays 127 = .ok (.invokevirtual 176, 3) := by decide +kernel
theorem dX9_arrays_130 : decode cX9_arrays 130 = .ok (.aload_n 0, 1) := by decide +kernel
theorem dX9_arrays_131 : decode cX9_arrays 131 = .ok (.aload_n 0, 1) := by decide +kernel
theorem dX9_arrays_132 : decode cX9_arrays 132 = .ok (.getfield 20, 3) := by decide +kernel
theorem dX9_arrays_135 : decode cX9_arrays 135 = .ok (.iload_n 1, 1) := by decide +kernel
theorem dX9_arrays_136 : decode cX9_arrays 136 = .ok (.iaload, 1) := by decide +kernel
theorem dX9_arrays_137 : decode cX9_arrays 137 = .ok (.invokevirtual 176, 3) := by decide +kernel
theorem dX9_arrays_140 : decode cX9_arrays 140 = .ok (.if_icmp .eq 6, 3) := by decide +kernel
theorem dX9_arrays_143 : decode cX9_arrays 143 = .ok (.goto 83, 3) := by decide +kernel
theorem dX9_arrays_146 : decode cX9_arrays 146 = .ok (.aload_n 0, 1) := by decide +kernel
theorem dX9_arrays_147 : decode cX9_arrays 147 = .ok (.aload_n 0, 1) := by decide +kernel
theorem dX9_arrays_148 : decode cX9_arrays 148 = .ok (.getfield 23, 3) := by decide +kernel
theorem dX9_arrays_151 : decode cX9_arrays 151 = .ok (.iload_n 1, 1) := by decide +kernel
theorem dX9_arrays_152 : decode cX9_arrays 152 = .ok (.iaload, 1) := by decide +kernel
theorem dX9_arrays_153 : decode cX9_arrays 153 = .ok (.aload_n 0, 1) := by decide +kernel
theorem dX9_arrays_154 : decode cX9_arrays 154 = .ok (.getfield 20, 3) := by decide +kernel
theorem dX9_arrays_157 : decode cX9_arrays 157 = .ok (.iload_n 1, 1) := by decide +kernel
theorem dX9_arrays_158 : decode cX9_arrays 158 = .ok (.iaload, 1) := by decide +kernel
theorem dX9_arrays_159 : decode cX9_arrays 159 = .ok (.aload_n 0, 1) := by decide +kernel
theorem dX9_arrays_160 : decode cX9_arrays 160 = .ok (.aload_n 0, 1) := by decide +kernel
theorem dX9_arrays_161 : decode cX9_arrays 161 = .ok (.getfield 20, 3) := by decide +kernel
theorem dX9_arrays_164 : decode cX9_arrays 164 = .ok (.iload_n 1, 1) := by decide +kernel
theorem dX9_arrays_165 : decode cX9_arrays 165 = .ok (.iaload, 1) := by decide +kernel
theorem dX9_arrays_166 : decode cX9_arrays 166 = .ok (.invokevirtual 176, 3) := by decide +kernel
theorem dX9_arrays_169 : decode cX9_arrays 169 = .ok (.invokevirtual 173, 3) := by decide +kernel
theorem dX9_arrays_172 : decode cX9_arrays 172 = .ok (.aload_n 0, 1) := by decide +kernel
theorem dX9_arrays_173 : decode cX9_arrays 173 = .ok (.aload_n 0, 1) := by decide +kernel
theorem dX9_arrays_174 : decode cX9_arrays 174 = .ok (.getfield 23, 3) := by decide +kernel
theorem dX9_arrays_177 : decode cX9_arrays 177 = .ok (.iload_n 2, 1) := by decide +kernel
theorem dX9_arrays_178 : decode cX9_arrays 178 = .ok (.iaload, 1) := by decide +kernel
theorem dX9_arrays_179 : decode cX9_arrays 179 = .ok (.aload_n 0, 1) := by decide +kernel
theorem dX9_arrays_180 : decode cX9_arrays 180 = .ok (.getfield 20, 3) := by decide +kernel
theorem dX9_arrays_183 : decode cX9_arrays 183 = .ok (.iload_n 2, 1) := by decide +kernel
theorem dX9_arrays_184 : decode cX9_arrays 184 = .ok (.iaload, 1) := by decide +kernel
theorem dX9_arrays_185 : decode cX9_arrays 185 = .ok (.aload_n 0, 1) := by decide +kernel
theorem dX9_arrays_186 : decode cX9_arrays 186 = .ok (.aload_n 0, 1) := by decide +kernel
theorem dX9_arrays_187 : decode cX9_arrays 187 = .ok (.getfield 20, 3) := by decide +kernel
theorem dX9_arrays_190 : decode cX9_arrays 190 = .ok (.iload_n 2, 1) := by decide +kernel
theorem dX9_arrays_191 : decode cX9_arrays 191 = .ok (.iaload, 1) := by decide +kernel
theorem dX9_arrays_192 : decode cX9_arrays 192 = .ok (.invokevirtual 176, 3) := by decide +kernel
theorem dX9_arrays_195 : decode cX9_arrays 195 = .ok (.invokevirtual 173, 3) := by decide +kernel
theorem dX9_arrays_198 : decode cX9_arrays 198 = .ok (.aload_n 0, 1) := by decide +kernel
theorem dX9_arrays_199 : decode cX9_arrays 199 = .ok (.aload_n 0, 1) := by decide +kernel
theorem dX9_arrays_200 : decode cX9_arrays 200 = .ok (.getfield 23, 3) := by decide +kernel
theorem dX9_arrays_203 : decode cX9_arrays 203 = .ok (.iload_n 1, 1) := by decide +kernel
theorem dX9_arrays_204 : decode cX9_arrays 204 = .ok (.iaload, 1) := by decide +kernel
theorem dX9_arrays_205 : decode cX9_arrays 205 = .ok (.aload_n 0, 1) := by decide +kernel
theorem dX9_arrays_206 : decode cX9_arrays 206 = .ok (.getfield 23, 3) := by decide +kernel
theorem dX9_arrays_209 : decode cX9_arrays 209 = .ok (.iload_n 2, 1) := by decide +kernel
theorem dX9_arrays_210 : decode cX9_arrays 210 = .ok (.iaload, 1) := by decide +kernel
theorem dX9_arrays_211 : decode cX9_arrays 211 = .ok (.invokevirtual 166, 3) := by decide +kernel
theorem dX9_arrays_214 : decode cX9_arrays 214 = .ok (.aload_n 0, 1) := by decide +kernel
theorem dX9_arrays_215 : decode cX9_arrays 215 = .ok (.iload_n 1, 1) := by decide +kernel
theorem dX9_arrays_216 : decode cX9_arrays 216 = .ok (.iload_n 2, 1) := by decide +kernel
theorem dX9_arrays_217 : decode cX9_arrays 217 = .ok (.ldc 165, 2) := by decide +kernel
theorem dX9_arrays_219 : decode cX9_arrays 219 = .ok (.invokevirtual 158, 3) := by decide +kernel
theorem dX9_arrays_222 : decode cX9_arrays 222 = .ok (.aload_n 0, 1) := by decide +kernel
theorem dX9_arrays_223 : decode cX9_arrays 223 = .ok (.invokevirtual 170, 3) := by decide +kernel
theorem dX9_arrays_226 : decode cX9_arrays 226 = .ok (.iinc 2 1, 3) := by decide +kernel
theorem dX9_arrays_229 : decode cX9_arrays 229 = .ok (.goto (-125), 3) := by decide +kernel
theorem dX9_arrays_232 : decode cX9_arrays 232 = .ok (.iinc 1 1, 3) := by decide +kernel
theorem dX9_arrays_235 : decode cX9_arrays 235 = .ok (.goto (-233), 3) := by decide +kernel
theorem dX9_arrays_238 : decode cX9_arrays 238 = .ok (.return_, 1) := by decide +kernel
theorem dX9_fresh_0 : decode cX9_fresh 0 = .ok (.aload_n 0, 1) := by decide +kernel
theorem dX9_fresh_1 : decode cX9_fresh 1 = .ok (.getfield 104, 3) := by decide +kernel
theorem dX9_fresh_4 : decode cX9_fresh 4 = .ok (.ifCond .eq 4, 3) := by decide +kernel
theorem dX9_fresh_7 : decode cX9_fresh 7 = .ok (.return_, 1) := by decide +kernel
theorem dX9_fresh_8 : decode cX9_fresh 8 = .ok (.aload_n 0, 1) := by decide +kernel
theorem dX9_fresh_9 : decode cX9_fresh 9 = .ok (.iconst 0, 1) := by decide +kernel
theorem dX9_fresh_10 : decode cX9_fresh 10 = .ok (.putfield 155, 3) := by decide +kernel
theorem dX9_fresh_13 : decode cX9_fresh 13 = .ok (.aload_n 0, 1) := by decide +kernel
theorem dX9_fresh_14 : decode cX9_fresh 14 = .ok (.iconst 0, 1) := by decide +kernel
theorem dX9_fresh_15 : decode cX9_fresh 15 = .ok (.putfield 162, 3) := by decide +kernel
theorem dX9_fresh_18 : decode cX9_fresh 18 = .ok (.iconst 0, 1) := by decide +kernel
theorem dX9_fresh_19 : decode cX9_fresh 19 = .ok (.istore_n 1, 1) := by decide +kernel
theorem dX9_fresh_20 : decode cX9_fresh 20 = .ok (.iload_n 1, 1) := by decide +kernel
theorem dX9_fresh_21 : decode cX9_fresh 21 = .ok (.bipush 14, 2) := by decide +kernel
theorem dX9_fresh_23 : decode cX9_fresh 23 = .ok (.if_icmp .ge 62, 3) := by decide +kernel
theorem dX9_fresh_26 : decode cX9_fresh 26 = .ok (.iconst 0, 1) := by decide +kernel
theorem dX9_fresh_27 : decode cX9_fresh 27 = .ok (.istore_n 2, 1) := by decide +kernel
theorem dX9_fresh_28 : decode cX9_fresh 28 = .ok (.iload_n 1, 1) := by decide +kernel
theorem dX9_fresh_29 : decode cX9_fresh 29 = .ok (.aload_n 0, 1) := by decide +kernel
theorem dX9_fresh_30 : decode cX9_fresh 30 = .ok (.getfield 146, 3) := by decide +kernel
theorem dX9_fresh_33 : decode cX9_fresh 33 = .ok (.if_icmp .ge 42, 3) := by decide +kernel
theorem dX9_fresh_36 : decode cX9_fresh 36 = .ok (.iload_n 2, 1) := by decide +kernel
theorem dX9_fresh_37 : decode cX9_fresh 37 = .ok (.iconst 3, 1) := by decide +kernel
theorem dX9_fresh_38 : decode cX9_fresh 38 = .ok (.if_icmp .ge 37, 3) := by decide +kernel
theorem dX9_fresh_41 : decode cX9_fresh 41 = .ok (.aload_n 0, 1) := by decide +kernel
theorem dX9_fresh_42 : decode cX9_fresh 42 = .ok (.getfield 54, 3) := by decide +kernel
theorem dX9_fresh_45 : decode cX9_fresh 45 = .ok (.iconst 3, 1) := by decide +kernel
theorem dX9_fresh_46 : decode cX9_fresh 46 = .ok (.iload_n 1, 1) := by decide +kernel
theorem dX9_fresh_47 : decode cX9_fresh 47 = .ok (.imul, 1) := by decide +kernel
theorem dX9_fresh_48 : decode cX9_fresh 48 = .ok (.iload_n 2, 1) := by decide +kernel
theorem dX9_fresh_49 : decode cX9_fresh 49 = .ok (.iadd, 1) := by decide +kernel
theorem dX9_fresh_50 : decode cX9_fresh 50 = .ok (.iaload, 1) := by decide +kernel
theorem dX9_fresh_51 : decode cX9_fresh 51 = .ok (.iconst (-1), 1) := by decide +kernel
theorem dX9_fresh_52 : decode cX9_fresh 52 = .ok (.if_icmp .eq 17, 3) := by decide +kernel
theorem dX9_fresh_55 : decode cX9_fresh 55 = .ok (.aload_n 0, 1) := by decide +kernel
theorem dX9_fresh_56 : decode cX9_fresh 56 = .ok (.aload_n 0, 1) := by decide +kernel
theorem dX9_fresh_57 : decode cX9_fresh 57 = .ok (.getfield 54, 3) := by decide +kernel
theorem dX9_fresh_60 : decode cX9_fresh 60 = .ok (.iconst 3, 1) := by decide +kernel
theorem dX9_fresh_61 : decode cX9_fresh 61 = .ok (.iload_n 1, 1) := by decide +kernel
theorem dX9_fresh_62 : decode cX9_fresh 62 = .ok (.imul, 1) := by decide +kernel
theorem dX9_fresh_63 : decode cX9_fresh 63 = .ok (.iload_n 2, 1) := by decide +kernel
theorem dX9_fresh_64 : decode cX9_fresh 64 = .ok (.iadd, 1) := by decide +kernel
theorem dX9_fresh_65 : decode cX9_fresh 65 = .ok (.iaload, 1) := by decide +kernel
theorem dX9_fresh_66 : decode cX9_fresh 66 = .ok (.invokevirtual 179, 3) := by decide +kernel
theorem dX9_fresh_69 : decode cX9_fresh 69 = .ok (.iinc 2 1, 3) := by decide +kernel
theorem dX9_fresh_72 : decode cX9_fresh 72 = .ok (.goto (-44), 3) := by decide +kernel
theorem dX9_fresh_75 : decode cX9_fresh 75 = .ok (.aload_n 0, 1) := by decide +kernel
theorem dX9_fresh_76 : decode cX9_fresh 76 = .ok (.invokevirtual 170, 3) := by decide +kernel
theorem dX9_fresh_79 : decode cX9_fresh 79 = .ok (.iinc 1 1, 3) := by decide +kernel
theorem dX9_fresh_82 : decode cX9_fresh 82 = .ok (.goto (-62), 3) := by decide +kernel
theorem dX9_fresh_85 : decode cX9_fresh 85 = .ok (.aload_n 0, 1) := by decide +kernel
theorem dX9_fresh_86 : decode cX9_fresh 86 = .ok (.invokevirtual 183, 3) := by decide +kernel
theorem dX9_fresh_89 : decode cX9_fresh 89 = .ok (.aload_n 0, 1) := by decide +kernel
theorem dX9_fresh_90 : decode cX9_fresh 90 = .ok (.invokevirtual 186, 3) := by decide +kernel
theorem dX9_fresh_93 : decode cX9_fresh 93 = .ok (.aload_n 0, 1) := by decide +kernel
theorem dX9_fresh_94 : decode cX9_fresh 94 = .ok (.invokevirtual 188, 3) := by decide +kernel
theorem dX9_fresh_97 : decode cX9_fresh 97 = .ok (.aload_n 0, 1) := by decide +kernel
theorem dX9_fresh_98 : decode cX9_fresh 98 = .ok (.iconst 1, 1) := by decide +kernel
theorem dX9_fresh_99 : decode cX9_fresh 99 = .ok (.putfield 104, 3) := by decide +kernel
theorem dX9_fresh_102 : decode cX9_fresh 102 = .ok (.return_, 1) := by decide +kernel
theorem dX9_at_0 : decode cX9_at 0 = .ok (.sipush 225, 3) := by decide +kernel
theorem dX9_at_3 : decode cX9_at 3 = .ok (.aload_n 0, 1) := by decide +kernel
theorem dX9_at_4 : decode cX9_at 4 = .ok (.getfield 191, 3) := by decide +kernel
theorem dX9_at_7 : decode cX9_at 7 = .ok (.imul, 1) := by decide +kernel
theorem dX9_at_8 : decode cX9_at 8 = .ok (.bipush 15, 2) := by decide +kernel
theorem dX9_at_10 : decode cX9_at 10 = .ok (.iload_n 1, 1) := by decide +kernel
theorem dX9_at_11 : decode cX9_at 11 = .ok (.imul, 1) := by decide +kernel
theorem dX9_at_12 : decode cX9_at 12 = .ok (.iadd, 1) := by decide +kernel
theorem dX9_at_13 : decode cX9_at 13 = .ok (.iload_n 2, 1) := by decide +kernel
theorem dX9_at_14 : decode cX9_at 14 = .ok (.iadd, 1) := by decide +kernel
theorem dX9_at_15 : decode cX9_at 15 = .ok (.ireturn, 1) := by decide +kernel
theorem dX9_isSure_0 : decode cX9_isSure 0 = .ok (.aload_n 0, 1) := by decide +kernel
theorem dX9_isSure_1 : decode cX9_isSure 1 = .ok (.getfield 60, 3) := by decide +kernel
theorem dX9_isSure_4 : decode cX9_isSure 4 = .ok (.iload_n 1, 1) := by decide +kernel
theorem dX9_isSure_5 : decode cX9_isSure 5 = .ok (.iaload, 1) := by decide +kernel
theorem dX9_isSure_6 : decode cX9_isSure 6 = .ok (.istore_n 2, 1) := by decide +kernel
theorem dX9_isSure_7 : decode cX9_isSure 7 = .ok (.aload_n 0, 1) := by decide +kernel
theorem dX9_isSure_8 : decode cX9_isSure 8 = .ok (.getfield 63, 3) := by decide +kernel
theorem dX9_isSure_11 : decode cX9_isSure 11 = .ok (.iload_n 1, 1) := by decide +kernel
theorem dX9_isSure_12 : decode cX9_isSure 12 = .ok (.iaload, 1) := by decide +kernel
theorem dX9_isSure_13 : decode cX9_isSure 13 = .ok (.istore_n 3, 1) := by decide +kernel
theorem dX9_isSure_14 : decode cX9_isSure 14 = .ok (.aload_n 0, 1) := by decide +kernel
theorem dX9_isSure_15 : decode cX9_isSure 15 = .ok (.getfield 66, 3) := by decide +kernel
theorem dX9_isSure_18 : decode cX9_isSure 18 = .ok (.iload_n 1, 1) := by decide +kernel
theorem dX9_isSure_19 : decode cX9_isSure 19 = .ok (.iaload, 1) := by decide +kernel
theorem dX9_isSure_20 : decode cX9_isSure 20 = .ok (.ldc 165, 2) := by decide +kernel
theorem dX9_isSure_22 : decode cX9_isSure 22 = .ok (.if_icmp .ne 39, 3) := by decide +kernel
theorem dX9_isSure_25 : decode cX9_isSure 25 = .ok (.aload_n 0, 1) := by decide +kernel
theorem dX9_isSure_26 : decode cX9_isSure 26 = .ok (.getfield 82, 3) := by decide +kernel
theorem dX9_isSure_29 : decode cX9_isSure 29 = .ok (.aload_n 0, 1) := by decide +kernel
theorem dX9_isSure_30 : decode cX9_isSure 30 = .ok (.iload_n 2, 1) := by decide +kernel
theorem dX9_isSure_31 : decode cX9_isSure 31 = .ok (.iload_n 3, 1) := by decide +kernel
theorem dX9_isSure_32 : decode cX9_isSure 32 = .ok (.invokevirtual 194, 3) := by decide +kernel
theorem dX9_isSure_35 : decode cX9_isSure 35 = .ok (.iaload, 1) := by decide +kernel
theorem dX9_isSure_36 : decode cX9_isSure 36 = .ok (.ifCond .gt 21, 3) := by decide +kernel
theorem dX9_isSure_39 : decode cX9_isSure 39 = .ok (.aload_n 0, 1) := by decide +kernel
theorem dX9_isSure_40 : decode cX9_isSure 40 = .ok (.getfield 82, 3) := by decide +kernel
theorem dX9_isSure_43 : decode cX9_isSure 43 = .ok (.aload_n 0, 1) := by decide +kernel
theorem dX9_isSure_44 : decode cX9_isSure 44 = .ok (.iload_n 3, 1) := by decide +kernel
theorem dX9_isSure_45 : decode cX9_isSure 45 = .ok (.iload_n 2, 1) := by decide +kernel
theorem dX9_isSure_46 : decode cX9_isSure 46 = .ok (.invokevirtual 194, 3) := by decide +kernel
theorem dX9_isSure_49 : decode cX9_isSure 49 = .ok (.iaload, 1) := by decide +kernel
theorem dX9_isSure_50 : decode cX9_isSure 50 = .ok (.ifCond .gt 7, 3) := by decide +kernel
theorem dX9_isSure_53 : decode cX9_isSure 53 = .ok (.iconst 1, 1) := by decide +kernel
theorem dX9_isSure_54 : decode cX9_isSure 54 = .ok (.goto 32, 3) := by decide +kernel
theorem dX9_isSure_57 : decode cX9_isSure 57 = .ok (.iconst 0, 1) := by decide +kernel
theorem dX9_isSure_58 : decode cX9_isSure 58 = .ok (.goto 28, 3) := by decide +kernel
theorem dX9_isSure_61 : decode cX9_isSure 61 = .ok (.aload_n 0, 1) := by decide +kernel
theorem dX9_isSure_62 : decode cX9_isSure 62 = .ok (.getfield 82, 3) := by decide +kernel
theorem dX9_isSure_65 : decode cX9_isSure 65 = .ok (.aload_n 0, 1) := by decide +kernel
theorem dX9_isSure_66 : decode cX9_isSure 66 = .ok (.iload_n 2, 1) := by decide +kernel
theorem dX9_isSure_67 : decode cX9_isSure 67 = .ok (.iload_n 3, 1) := by decide +kernel
theorem dX9_isSure_68 : decode cX9_isSure 68 = .ok (.invokevirtual 194, 3) := by decide +kernel
theorem dX9_isSure_71 : decode cX9_isSure 71 = .ok (.iaload, 1) := by decide +kernel
theorem dX9_isSure_72 : decode cX9_isSure 72 = .ok (.aload_n 0, 1) := by decide +kernel
theorem dX9_isSure_73 : decode cX9_isSure 73 = .ok (.getfield 66, 3) := by decide +kernel
theorem dX9_isSure_76 : decode cX9_isSure 76 = .ok (.iload_n 1, 1) := by decide +kernel
theorem dX9_isSure_77 : decode cX9_isSure 77 = .ok (.iaload, 1) := by decide +kernel
theorem dX9_isSure_78 : decode cX9_isSure 78 = .ok (.if_icmp .gt 7, 3) := by decide +kernel
theorem dX9_isSure_81 : decode cX9_isSure 81 = .ok (.iconst 1, 1) := by decide +kernel
theorem dX9_isSure_82 : decode cX9_isSure 82 = .ok (.goto 4, 3) := by decide +kernel
theorem dX9_isSure_85 : decode cX9_isSure 85 = .ok (.iconst 0, 1) := by decide +kernel
theorem dX9_isSure_86 : decode cX9_isSure 86 = .ok (.ireturn, 1) := by decide +kernel
theorem dX9_isLost_0 : decode cX9_isLost 0 = .ok (.aload_n 0, 1) := by decide +kernel
theorem dX9_isLost_1 : decode cX9_isLost 1 = .ok (.getfield 60, 3) := by decide +kernel
theorem dX9_isLost_4 : decode cX9_isLost 4 = .ok (.iload_n 1, 1) := by decide +kernel
theorem dX9_isLost_5 : decode cX9_isLost 5 = .ok (.iaload, 1) := by decide +kernel
theorem dX9_isLost_6 : decode cX9_isLost 6 = .ok (.istore_n 2, 1) := by decide +kernel
theorem dX9_isLost_7 : decode cX9_isLost 7 = .ok (.aload_n 0, 1) := by decide +kernel
theorem dX9_isLost_8 : decode cX9_isLost 8 = .ok (.getfield 63, 3) := by decide +kernel
theorem dX9_isLost_11 : decode cX9_isLost 11 = .ok (.iload_n 1, 1) := by decide +kernel
theorem dX9_isLost_12 : decode cX9_isLost 12 = .ok (.iaload, 1) := by decide +kernel
theorem dX9_isLost_13 : decode cX9_isLost 13 = .ok (.istore_n 3, 1) := by decide +kernel
theorem dX9_isLost_14 : decode cX9_isLost 14 = .ok (.aload_n 0, 1) := by decide +kernel
theorem dX9_isLost_15 : decode cX9_isLost 15 = .ok (.getfield 66, 3) := by decide +kernel
theorem dX9_isLost_18 : decode cX9_isLost 18 = .ok (.iload_n 1, 1) := by decide +kernel
theorem dX9_isLost_19 : decode cX9_isLost 19 = .ok (.iaload, 1) := by decide +kernel
theorem dX9_isLost_20 : decode cX9_isLost 20 = .ok (.ldc 165, 2) := by decide +kernel
theorem dX9_isLost_22 : decode cX9_isLost 22 = .ok (.if_icmp .ne 39, 3) := by decide +kernel
theorem dX9_isLost_25 : decode cX9_isLost 25 = .ok (.aload_n 0, 1) := by decide +kernel
theorem dX9_isLost_26 : decode cX9_isLost 26 = .ok (.getfield 82, 3) := by decide +kernel
theorem dX9_isLost_29 : decode cX9_isLost 29 = .ok (.aload_n 0, 1) := by decide +kernel
theorem dX9_isLost_30 : decode cX9_isLost 30 = .ok (.iload_n 2, 1) := by decide +kernel
theorem dX9_isLost_31 : decode cX9_isLost 31 = .ok (.iload_n 3, 1) := by decide +kernel
theorem dX9_isLost_32 : decode cX9_isLost 32 = .ok (.invokevirtual 194, 3) := by decide +kernel
theorem dX9_isLost_35 : decode cX9_isLost 35 = .ok (.iaload, 1) := by decide +kernel
theorem dX9_isLost_36 : decode cX9_isLost 36 = .ok (.ifCond .lt 17, 3) := by decide +kernel
theorem dX9_isLost_39 : decode cX9_isLost 39 = .ok (.aload_n 0, 1) := by decide +kernel
theorem dX9_isLost_40 : decode cX9_isLost 40 = .ok (.getfield 82, 3) := by decide +kernel
theorem dX9_isLost_43 : decode cX9_isLost 43 = .ok (.aload_n 0, 1) := by decide +kernel
theorem dX9_isLost_44 : decode cX9_isLost 44 = .ok (.iload_n 3, 1) := by decide +kernel
theorem dX9_isLost_45 : decode cX9_isLost 45 = .ok (.iload_n 2, 1) := by decide +kernel
theorem dX9_isLost_46 : decode cX9_isLost 46 = .ok (.invokevirtual 194, 3) := by decide +kernel
theorem dX9_isLost_49 : decode cX9_isLost 49 = .ok (.iaload, 1) := by decide +kernel
theorem dX9_isLost_50 : decode cX9_isLost 50 = .ok (.ifCond .ge 7, 3) := by decide +kernel
theorem dX9_isLost_53 : decode cX9_isLost 53 = .ok (.iconst 1, 1) := by decide +kernel
theorem dX9_isLost_54 : decode cX9_isLost 54 = .ok (.goto 33, 3) := by decide +kernel
theorem dX9_isLost_57 : decode cX9_isLost 57 = .ok (.iconst 0, 1) := by decide +kernel
theorem dX9_isLost_58 : decode cX9_isLost 58 = .ok (.goto 29, 3) := by decide +kernel
theorem dX9_isLost_61 : decode cX9_isLost 61 = .ok (.aload_n 0, 1) := by decide +kernel
theorem dX9_isLost_62 : decode cX9_isLost 62 = .ok (.getfield 82, 3) := by decide +kernel
theorem dX9_isLost_65 : decode cX9_isLost 65 = .ok (.aload_n 0, 1) := by decide +kernel
theorem dX9_isLost_66 : decode cX9_isLost 66 = .ok (.iload_n 3, 1) := by decide +kernel
theorem dX9_isLost_67 : decode cX9_isLost 67 = .ok (.iload_n 2, 1) := by decide +kernel
theorem dX9_isLost_68 : decode cX9_isLost 68 = .ok (.invokevirtual 194, 3) := by decide +kernel
