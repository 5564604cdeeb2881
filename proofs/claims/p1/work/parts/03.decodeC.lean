theorem dX9_init_0 : decode cX9_init 0 = .ok (.aload_n 0, 1) := by decide +kernel
theorem dX9_init_1 : decode cX9_init 1 = .ok (.invokespecial 1, 3) := by decide +kernel
theorem dX9_init_4 : decode cX9_init 4 = .ok (.aload_n 0, 1) := by decide +kernel
theorem dX9_init_5 : decode cX9_init 5 = .ok (.bipush 14, 2) := by decide +kernel
theorem dX9_init_7 : decode cX9_init 7 = .ok (.newarray .char, 2) := by decide +kernel
theorem dX9_init_9 : decode cX9_init 9 = .ok (.putfield 7, 3) := by decide +kernel
theorem dX9_init_12 : decode cX9_init 12 = .ok (.aload_n 0, 1) := by decide +kernel
theorem dX9_init_13 : decode cX9_init 13 = .ok (.iconst 4, 1) := by decide +kernel
theorem dX9_init_14 : decode cX9_init 14 = .ok (.newarray .char, 2) := by decide +kernel
theorem dX9_init_16 : decode cX9_init 16 = .ok (.putfield 13, 3) := by decide +kernel
theorem dX9_init_19 : decode cX9_init 19 = .ok (.aload_n 0, 1) := by decide +kernel
theorem dX9_init_20 : decode cX9_init 20 = .ok (.bipush 14, 2) := by decide +kernel
theorem dX9_init_22 : decode cX9_init 22 = .ok (.newarray .int, 2) := by decide +kernel
theorem dX9_init_24 : decode cX9_init 24 = .ok (.putfield 16, 3) := by decide +kernel
theorem dX9_init_27 : decode cX9_init 27 = .ok (.aload_n 0, 1) := by decide +kernel
theorem dX9_init_28 : decode cX9_init 28 = .ok (.bipush 14, 2) := by decide +kernel
theorem dX9_init_30 : decode cX9_init 30 = .ok (.newarray .int, 2) := by decide +kernel
theorem dX9_init_32 : decode cX9_init 32 = .ok (.putfield 20, 3) := by decide +kernel
theorem dX9_init_35 : decode cX9_init 35 = .ok (.aload_n 0, 1) := by decide +kernel
theorem dX9_init_36 : decode cX9_init 36 = .ok (.bipush 14, 2) := by decide +kernel
theorem dX9_init_38 : decode cX9_init 38 = .ok (.newarray .int, 2) := by decide +kernel
theorem dX9_init_40 : decode cX9_init 40 = .ok (.putfield 23, 3) := by decide +kernel
theorem dX9_init_43 : decode cX9_init 43 = .ok (.aload_n 0, 1) := by decide +kernel
theorem dX9_init_44 : decode cX9_init 44 = .ok (.bipush 14, 2) := by decide +kernel
theorem dX9_init_46 : decode cX9_init 46 = .ok (.newarray .int, 2) := by decide +kernel
theorem dX9_init_48 : decode cX9_init 48 = .ok (.putfield 26, 3) := by decide +kernel
theorem dX9_init_51 : decode cX9_init 51 = .ok (.aload_n 0, 1) := by decide +kernel
theorem dX9_init_52 : decode cX9_init 52 = .ok (.iconst 4, 1) := by decide +kernel
theorem dX9_init_53 : decode cX9_init 53 = .ok (.newarray .int, 2) := by decide +kernel
theorem dX9_init_55 : decode cX9_init 55 = .ok (.putfield 29, 3) := by decide +kernel
theorem dX9_init_58 : decode cX9_init 58 = .ok (.aload_n 0, 1) := by decide +kernel
theorem dX9_init_59 : decode cX9_init 59 = .ok (.bipush 24, 2) := by decide +kernel
theorem dX9_init_61 : decode cX9_init 61 = .ok (.newarray .int, 2) := by decide +kernel
theorem dX9_init_63 : decode cX9_init 63 = .ok (.putfield 32, 3) := by decide +kernel
theorem dX9_init_66 : decode cX9_init 66 = .ok (.aload_n 0, 1) := by decide +kernel
theorem dX9_init_67 : decode cX9_init 67 = .ok (.bipush 24, 2) := by decide +kernel
theorem dX9_init_69 : decode cX9_init 69 = .ok (.newarray .int, 2) := by decide +kernel
theorem dX9_init_71 : decode cX9_init 71 = .ok (.putfield 35, 3) := by decide +kernel
theorem dX9_init_74 : decode cX9_init 74 = .ok (.aload_n 0, 1) := by decide +kernel
theorem dX9_init_75 : decode cX9_init 75 = .ok (.bipush 24, 2) := by decide +kernel
theorem dX9_init_77 : decode cX9_init 77 = .ok (.newarray .int, 2) := by decide +kernel
theorem dX9_init_79 : decode cX9_init 79 = .ok (.putfield 38, 3) := by decide +kernel
theorem dX9_init_82 : decode cX9_init 82 = .ok (.aload_n 0, 1) := by decide +kernel
theorem dX9_init_83 : decode cX9_init 83 = .ok (.bipush 24, 2) := by decide +kernel
theorem dX9_init_85 : decode cX9_init 85 = .ok (.newarray .boolean, 2) := by decide +kernel
theorem dX9_init_87 : decode cX9_init 87 = .ok (.putfield 41, 3) := by decide +kernel
theorem dX9_init_90 : decode cX9_init 90 = .ok (.aload_n 0, 1) := by decide +kernel
theorem dX9_init_91 : decode cX9_init 91 = .ok (.bipush 14, 2) := by decide +kernel
theorem dX9_init_93 : decode cX9_init 93 = .ok (.newarray .boolean, 2) := by decide +kernel
theorem dX9_init_95 : decode cX9_init 95 = .ok (.putfield 45, 3) := by decide +kernel
theorem dX9_init_98 : decode cX9_init 98 = .ok (.aload_n 0, 1) := by decide +kernel
theorem dX9_init_99 : decode cX9_init 99 = .ok (.bipush 14, 2) := by decide +kernel
theorem dX9_init_101 : decode cX9_init 101 = .ok (.newarray .boolean, 2) := by decide +kernel
theorem dX9_init_103 : decode cX9_init 103 = .ok (.putfield 48, 3) := by decide +kernel
theorem dX9_init_106 : decode cX9_init 106 = .ok (.aload_n 0, 1) := by decide +kernel
theorem dX9_init_107 : decode cX9_init 107 = .ok (.bipush 14, 2) := by decide +kernel
theorem dX9_init_109 : decode cX9_init 109 = .ok (.newarray .boolean, 2) := by decide +kernel
theorem dX9_init_111 : decode cX9_init 111 = .ok (.putfield 51, 3) := by decide +kernel
theorem dX9_init_114 : decode cX9_init 114 = .ok (.aload_n 0, 1) := by decide +kernel
theorem dX9_init_115 : decode cX9_init 115 = .ok (.bipush 42, 2) := by decide +kernel
theorem dX9_init_117 : decode cX9_init 117 = .ok (.newarray .int, 2) := by decide +kernel
theorem dX9_init_119 : decode cX9_init 119 = .ok (.putfield 54, 3) := by decide +kernel
theorem dX9_init_122 : decode cX9_init 122 = .ok (.aload_n 0, 1) := by decide +kernel
theorem dX9_init_123 : decode cX9_init 123 = .ok (.bipush 24, 2) := by decide +kernel
theorem dX9_init_125 : decode cX9_init 125 = .ok (.newarray .int, 2) := by decide +kernel
theorem dX9_init_127 : decode cX9_init 127 = .ok (.putfield 57, 3) := by decide +kernel
theorem dX9_init_130 : decode cX9_init 130 = .ok (.aload_n 0, 1) := by decide +kernel
theorem dX9_init_131 : decode cX9_init 131 = .ok (.sipush 16000, 3) := by decide +kernel
theorem dX9_init_134 : decode cX9_init 134 = .ok (.newarray .int, 2) := by decide +kernel
theorem dX9_init_136 : decode cX9_init 136 = .ok (.putfield 60, 3) := by decide +kernel
theorem dX9_init_139 : decode cX9_init 139 = .ok (.aload_n 0, 1) := by decide +kernel
theorem dX9_init_140 : decode cX9_init 140 = .ok (.sipush 16000, 3) := by decide +kernel
theorem dX9_init_143 : decode cX9_init 143 = .ok (.newarray .int, 2) := by decide +kernel
theorem dX9_init_145 : decode cX9_init 145 = .ok (.putfield 63, 3) := by decide +kernel
theorem dX9_init_148 : decode cX9_init 148 = .ok (.aload_n 0, 1) := by decide +kernel
theorem dX9_init_149 : decode cX9_init 149 = .ok (.sipush 16000, 3) := by decide +kernel
theorem dX9_init_152 : decode cX9_init 152 = .ok (.newarray .int, 2) := by decide +kernel
theorem dX9_init_154 : decode cX9_init 154 = .ok (.putfield 66, 3) := by decide +kernel
theorem dX9_init_157 : decode cX9_init 157 = .ok (.aload_n 0, 1) := by decide +kernel
theorem dX9_init_158 : decode cX9_init 158 = .ok (.sipush 1201, 3) := by decide +kernel
theorem dX9_init_161 : decode cX9_init 161 = .ok (.newarray .int, 2) := by decide +kernel
theorem dX9_init_163 : decode cX9_init 163 = .ok (.putfield 69, 3) := by decide +kernel
theorem dX9_init_166 : decode cX9_init 166 = .ok (.aload_n 0, 1) := by decide +kernel
theorem dX9_init_167 : decode cX9_init 167 = .ok (.bipush 64, 2) := by decide +kernel
theorem dX9_init_169 : decode cX9_init 169 = .ok (.newarray .int, 2) := by decide +kernel
theorem dX9_init_171 : decode cX9_init 171 = .ok (.putfield 72, 3) := by decide +kernel
theorem dX9_init_174 : decode cX9_init 174 = .ok (.aload_n 0, 1) := by decide +kernel
theorem dX9_init_175 : decode cX9_init 175 = .ok (.bipush 64, 2) := by decide +kernel
theorem dX9_init_177 : decode cX9_init 177 = .ok (.newarray .int, 2) := by decide +kernel
theorem dX9_init_179 : decode cX9_init 179 = .ok (.putfield 75, 3) := by decide +kernel
theorem dX9_init_182 : decode cX9_init 182 = .ok (.aload_n 0, 1) := by decide +kernel
theorem dX9_init_183 : decode cX9_init 183 = .ok (.bipush 64, 2) := by decide +kernel
theorem dX9_init_185 : decode cX9_init 185 = .ok (.newarray .int, 2) := by decide +kernel
theorem dX9_init_187 : decode cX9_init 187 = .ok (.putfield 78, 3) := by decide +kernel
theorem dX9_init_190 : decode cX9_init 190 = .ok (.aload_n 0, 1) := by decide +kernel
theorem dX9_init_191 : decode cX9_init 191 = .ok (.ldc 81, 2) := by decide +kernel
theorem dX9_init_193 : decode cX9_init 193 = .ok (.newarray .int, 2) := by decide +kernel
theorem dX9_init_195 : decode cX9_init 195 = .ok (.putfield 82, 3) := by decide +kernel
theorem dX9_init_198 : decode cX9_init 198 = .ok (.aload_n 0, 1) := by decide +kernel
theorem dX9_init_199 : decode cX9_init 199 = .ok (.sipush 260, 3) := by decide +kernel
theorem dX9_init_202 : decode cX9_init 202 = .ok (.newarray .int, 2) := by decide +kernel
theorem dX9_init_204 : decode cX9_init 204 = .ok (.putfield 85, 3) := by decide +kernel
theorem dX9_init_207 : decode cX9_init 207 = .ok (.aload_n 0, 1) := by decide +kernel
theorem dX9_init_208 : decode cX9_init 208 = .ok (.sipush 260, 3) := by decide +kernel
theorem dX9_init_211 : decode cX9_init 211 = .ok (.newarray .int, 2) := by decide +kernel
theorem dX9_init_213 : decode cX9_init 213 = .ok (.putfield 88, 3) := by decide +kernel
theorem dX9_init_216 : decode cX9_init 216 = .ok (.aload_n 0, 1) := by decide +kernel
theorem dX9_init_217 : decode cX9_init 217 = .ok (.bipush 14, 2) := by decide +kernel
theorem dX9_init_219 : decode cX9_init 219 = .ok (.newarray .int, 2) := by decide +kernel
theorem dX9_init_221 : decode cX9_init 221 = .ok (.putfield 91, 3) := by decide +kernel
theorem dX9_init_224 : decode cX9_init 224 = .ok (.aload_n 0, 1) := by decide +kernel
theorem dX9_init_225 : decode cX9_init 225 = .ok (.bipush 14, 2) := by decide +kernel
theorem dX9_init_227 : decode cX9_init 227 = .ok (.newarray .int, 2) := by decide +kernel
theorem dX9_init_229 : decode cX9_init 229 = .ok (.putfield 94, 3) := by decide +kernel
theorem dX9_init_232 : decode cX9_init 232 = .ok (.return_, 1) := by decide +kernel
theorem dX9_thrown_0 : decode cX9_thrown 0 = .ok (.aload_n 0, 1) := by decide +kernel
theorem dX9_thrown_1 : decode cX9_thrown 1 = .ok (.getfield 97, 3) := by decide +kernel
theorem dX9_thrown_4 : decode cX9_thrown 4 = .ok (.ireturn, 1) := by decide +kernel
theorem dX9_refuse_0 : decode cX9_refuse 0 = .ok (.aload_n 0, 1) := by decide +kernel
theorem dX9_refuse_1 : decode cX9_refuse 1 = .ok (.iload_n 1, 1) := by decide +kernel
theorem dX9_refuse_2 : decode cX9_refuse 2 = .ok (.putfield 97, 3) := by decide +kernel
theorem dX9_refuse_5 : decode cX9_refuse 5 = .ok (.iconst 0, 1) := by decide +kernel
theorem dX9_refuse_6 : decode cX9_refuse 6 = .ok (.ireturn, 1) := by decide +kernel
theorem dX9_isValue_0 : decode cX9_isValue 0 = .ok (.iload_n 1, 1) := by decide +kernel
theorem dX9_isValue_1 : decode cX9_isValue 1 = .ok (.ifCond .lt 37, 3) := by decide +kernel
theorem dX9_isValue_4 : decode cX9_isValue 4 = .ok (.iload_n 1, 1) := by decide +kernel
theorem dX9_isValue_5 : decode cX9_isValue 5 = .ok (.aload_n 0, 1) := by decide +kernel
theorem dX9_isValue_6 : decode cX9_isValue 6 = .ok (.getfield 101, 3) := by decide +kernel
theorem dX9_isValue_9 : decode cX9_isValue 9 = .ok (.if_icmp .ge 29, 3) := by decide +kernel
theorem dX9_isValue_12 : decode cX9_isValue 12 = .ok (.aload_n 0, 1) := by decide +kernel
theorem dX9_isValue_13 : decode cX9_isValue 13 = .ok (.getfield 7, 3) := by decide +kernel
theorem dX9_isValue_16 : decode cX9_isValue 16 = .ok (.iload_n 1, 1) := by decide +kernel
theorem dX9_isValue_17 : decode cX9_isValue 17 = .ok (.caload, 1) := by decide +kernel
theorem dX9_isValue_18 : decode cX9_isValue 18 = .ok (.bipush 97, 2) := by decide +kernel
theorem dX9_isValue_20 : decode cX9_isValue 20 = .ok (.if_icmp .eq 18, 3) := by decide +kernel
theorem dX9_isValue_23 : decode cX9_isValue 23 = .ok (.aload_n 0, 1) := by decide +kernel
theorem dX9_isValue_24 : decode cX9_isValue 24 = .ok (.getfield 7, 3) := by decide +kernel
theorem dX9_isValue_27 : decode cX9_isValue 27 = .ok (.iload_n 1, 1) := by decide +kernel
theorem dX9_isValue_28 : decode cX9_isValue 28 = .ok (.caload, 1) := by decide +kernel
theorem dX9_isValue_29 : decode cX9_isValue 29 = .ok (.bipush 119, 2) := by decide +kernel
theorem dX9_isValue_31 : decode cX9_isValue 31 = .ok (.if_icmp .eq 7, 3) := by decide +kernel
theorem dX9_isValue_34 : decode cX9_isValue 34 = .ok (.iconst 1, 1) := by decide +kernel
theorem dX9_isValue_35 : decode cX9_isValue 35 = .ok (.goto 4, 3) := by decide +kernel
theorem dX9_isValue_38 : decode cX9_isValue 38 = .ok (.iconst 0, 1) := by decide +kernel
theorem dX9_isValue_39 : decode cX9_isValue 39 = .ok (.ireturn, 1) := by decide +kernel
theorem dX9_isArray_0 : decode cX9_isArray 0 = .ok (.iload_n 1, 1) := by decide +kernel
theorem dX9_isArray_1 : decode cX9_isArray 1 = .ok (.ifCond .lt 37, 3) := by decide +kernel
theorem dX9_isArray_4 : decode cX9_isArray 4 = .ok (.iload_n 1, 1) := by decide +kernel
theorem dX9_isArray_5 : decode cX9_isArray 5 = .ok (.aload_n 0, 1) := by decide +kernel
theorem dX9_isArray_6 : decode cX9_isArray 6 = .ok (.getfield 101, 3) := by decide +kernel
theorem dX9_isArray_9 : decode cX9_isArray 9 = .ok (.if_icmp .ge 29, 3) := by decide +kernel
theorem dX9_isArray_12 : decode cX9_isArray 12 = .ok (.aload_n 0, 1) := by decide +kernel
theorem dX9_isArray_13 : decode cX9_isArray 13 = .ok (.getfield 7, 3) := by decide +kernel
theorem dX9_isArray_16 : decode cX9_isArray 16 = .ok (.iload_n 1, 1) := by decide +kernel
theorem dX9_isArray_17 : decode cX9_isArray 17 = .ok (.caload, 1) := by decide +kernel
theorem dX9_isArray_18 : decode cX9_isArray 18 = .ok (.bipush 97, 2) := by decide +kernel
theorem dX9_isArray_20 : decode cX9_isArray 20 = .ok (.if_icmp .eq 14, 3) := by decide +kernel
theorem dX9_isArray_23 : decode cX9_isArray 23 = .ok (.aload_n 0, 1) := by decide +kernel
theorem dX9_isArray_24 : decode cX9_isArray 24 = .ok (.getfield 7, 3) := by decide +kernel
theorem dX9_isArray_27 : decode cX9_isArray 27 = .ok (.iload_n 1, 1) := by decide +kernel
theorem dX9_isArray_28 : decode cX9_isArray 28 = .ok (.caload, 1) := by decide +kernel
theorem dX9_isArray_29 : decode cX9_isArray 29 = .ok (.bipush 119, 2) := by decide +kernel
theorem dX9_isArray_31 : decode cX9_isArray 31 = .ok (.if_icmp .ne 7, 3) := by decide +kernel
theorem dX9_isArray_34 : decode cX9_isArray 34 = .ok (.iconst 1, 1) := by decide +kernel
theorem dX9_isArray_35 : decode cX9_isArray 35 = .ok (.goto 4, 3) := by decide +kernel
theorem dX9_isArray_38 : decode cX9_isArray 38 = .ok (.iconst 0, 1) := by decide +kernel
theorem dX9_isArray_39 : decode cX9_isArray 39 = .ok (.ireturn, 1) := by decide +kernel
theorem dX9_told_0 : decode cX9_told 0 = .ok (.aload_n 0, 1) := by decide +kernel
theorem dX9_told_1 : decode cX9_told 1 = .ok (.iconst 0, 1) := by decide +kernel
theorem dX9_told_2 : decode cX9_told 2 = .ok (.putfield 104, 3) := by decide +kernel
theorem dX9_told_5 : decode cX9_told 5 = .ok (.aload_n 0, 1) := by decide +kernel
theorem dX9_told_6 : decode cX9_told 6 = .ok (.iconst 0, 1) := by decide +kernel
theorem dX9_told_7 : decode cX9_told 7 = .ok (.putfield 108, 3) := by decide +kernel
theorem dX9_told_10 : decode cX9_told 10 = .ok (.aload_n 0, 1) := by decide +kernel
theorem dX9_told_11 : decode cX9_told 11 = .ok (.iconst 0, 1) := by decide +kernel
theorem dX9_told_12 : decode cX9_told 12 = .ok (.putfield 111, 3) := by decide +kernel
theorem dX9_told_15 : decode cX9_told 15 = .ok (.return_, 1) := by decide +kernel
theorem dX9_add_0 : decode cX9_add 0 = .ok (.aload_n 0, 1) := by decide +kernel
theorem dX9_add_1 : decode cX9_add 1 = .ok (.getfield 7, 3) := by decide +kernel
theorem dX9_add_4 : decode cX9_add 4 = .ok (.aload_n 0, 1) := by decide +kernel
theorem dX9_add_5 : decode cX9_add 5 = .ok (.getfield 101, 3) := by decide +kernel
theorem dX9_add_8 : decode cX9_add 8 = .ok (.iload_n 1, 1) := by decide +kernel
theorem dX9_add_9 : decode cX9_add 9 = .ok (.castore, 1) := by decide +kernel
theorem dX9_add_10 : decode cX9_add 10 = .ok (.aload_n 0, 1) := by decide +kernel
theorem dX9_add_11 : decode cX9_add 11 = .ok (.getfield 16, 3) := by decide +kernel
theorem dX9_add_14 : decode cX9_add 14 = .ok (.aload_n 0, 1) := by decide +kernel
theorem dX9_add_15 : decode cX9_add 15 = .ok (.getfield 101, 3) := by decide +kernel
theorem dX9_add_18 : decode cX9_add 18 = .ok (.iload_n 2, 1) := by decide +kernel
theorem dX9_add_19 : decode cX9_add 19 = .ok (.iastore, 1) := by decide +kernel
theorem dX9_add_20 : decode cX9_add 20 = .ok (.aload_n 0, 1) := by decide +kernel
theorem dX9_add_21 : decode cX9_add 21 = .ok (.getfield 20, 3) := by decide +kernel
theorem dX9_add_24 : decode cX9_add 24 = .ok (.aload_n 0, 1) := by decide +kernel
theorem dX9_add_25 : decode cX9_add 25 = .ok (.getfield 101, 3) := by decide +kernel
theorem dX9_add_28 : decode cX9_add 28 = .ok (.iload_n 3, 1) := by decide +kernel
theorem dX9_add_29 : decode cX9_add 29 = .ok (.iastore, 1) := by decide +kernel
theorem dX9_add_30 : decode cX9_add 30 = .ok (.aload_n 0, 1) := by decide +kernel
theorem dX9_add_31 : decode cX9_add 31 = .ok (.getfield 23, 3) := by decide +kernel
theorem dX9_add_34 : decode cX9_add 34 = .ok (.aload_n 0, 1) := by decide +kernel
theorem dX9_add_35 : decode cX9_add 35 = .ok (.getfield 101, 3) := by decide +kernel
theorem dX9_add_38 : decode cX9_add 38 = .ok (.iload 4, 2) := by decide +kernel
theorem dX9_add_40 : decode cX9_add 40 = .ok (.iastore, 1) := by decide +kernel
theorem dX9_add_41 : decode cX9_add 41 = .ok (.aload_n 0, 1) := by decide +kernel
theorem dX9_add_42 : decode cX9_add 42 = .ok (.getfield 26, 3) := by decide +kernel
theorem dX9_add_45 : decode cX9_add 45 = .ok (.aload_n 0, 1) := by decide +kernel
theorem dX9_add_46 : decode cX9_add 46 = .ok (.getfield 101, 3) := by decide +kernel
theorem dX9_add_49 : decode cX9_add 49 = .ok (.iload 5, 2) := by decide +kernel
theorem dX9_add_51 : decode cX9_add 51 = .ok (.iastore, 1) := by decide +kernel
theorem dX9_add_52 : decode cX9_add 52 = .ok (.aload_n 0, 1) := by decide +kernel
theorem dX9_add_53 : decode cX9_add 53 = .ok (.invokevirtual 114, 3) := by decide +kernel
theorem dX9_add_56 : decode cX9_add 56 = .ok (.aload_n 0, 1) := by decide +kernel
theorem dX9_add_57 : decode cX9_add 57 = .ok (.dup, 1) := by decide +kernel
theorem dX9_add_58 : decode cX9_add 58 = .ok (.getfield 101, 3) := by decide +kernel
theorem dX9_add_61 : decode cX9_add 61 = .ok (.dup_x1, 1) := by decide +kernel
theorem dX9_add_62 : decode cX9_add 62 = .ok (.iconst 1, 1) := by decide +kernel
theorem dX9_add_63 : decode cX9_add 63 = .ok (.iadd, 1) := by decide +kernel
theorem dX9_add_64 : decode cX9_add 64 = .ok (.putfield 101, 3) := by decide +kernel
theorem dX9_add_67 : decode cX9_add 67 = .ok (.ireturn, 1) := by decide +kernel
theorem dX9_make_0 : decode cX9_make 0 = .ok (.aload_n 0, 1) := by decide +kernel
theorem dX9_make_1 : decode cX9_make 1 = .ok (.iconst 0, 1) := by decide +kernel
theorem dX9_make_2 : decode cX9_make 2 = .ok (.putfield 97, 3) := by decide +kernel
theorem dX9_make_5 : decode cX9_make 5 = .ok (.iconst 0, 1) := by decide +kernel
theorem dX9_make_6 : decode cX9_make 6 = .ok (.istore 7, 2) := by decide +kernel
theorem dX9_make_8 : decode cX9_make 8 = .ok (.iload 7, 2) := by decide +kernel
theorem dX9_make_10 : decode cX9_make 10 = .ok (.aload_n 0, 1) := by decide +kernel
theorem dX9_make_11 : decode cX9_make 11 = .ok (.getfield 101, 3) := by decide +kernel
theorem dX9_make_14 : decode cX9_make 14 = .ok (.if_icmp .ge 69, 3) := by decide +kernel
theorem dX9_make_17 : decode cX9_make 17 = .ok (.aload_n 0, 1) := by decide +kernel
theorem dX9_make_18 : decode cX9_make 18 = .ok (.getfield 7, 3) := by decide +kernel
theorem dX9_make_21 : decode cX9_make 21 = .ok (.iload 7, 2) := by decide +kernel
theorem dX9_make_23 : decode cX9_make 23 = .ok (.caload, 1) := by decide +kernel
theorem dX9_make_24 : decode cX9_make 24 = .ok (.iload_n 1, 1) := by decide +kernel
theorem dX9_make_25 : decode cX9_make 25 = .ok (.if_icmp .ne 52, 3) := by decide +kernel
theorem dX9_make_28 : decode cX9_make 28 = .ok (.aload_n 0, 1) := by decide +kernel
theorem dX9_make_29 : decode cX9_make 29 = .ok (.getfield 16, 3) := by decide +kernel
theorem dX9_make_32 : decode cX9_make 32 = .ok (.iload 7, 2) := by decide +kernel
theorem dX9_make_34 : decode cX9_make 34 = .ok (.iaload, 1) := by decide +kernel
theorem dX9_make_35 : decode cX9_make 35 = .ok (.iload_n 2, 1) := by decide +kernel
theorem dX9_make_36 : decode cX9_make 36 = .ok (.if_icmp .ne 41, 3) := by decide +kernel
theorem dX9_make_39 : decode cX9_make 39 = .ok (.aload_n 0, 1) := by decide +kernel
theorem dX9_make_40 : decode cX9_make 40 = .ok (.getfield 20, 3) := by decide +kernel
theorem dX9_make_43 : decode cX9_make 43 = .ok (.iload 7, 2) := by decide +kernel
theorem dX9_make_45 : decode cX9_make 45 = .ok (.iaload, 1) := by decide +kernel
theorem dX9_make_46 : decode cX9_make 46 = .ok (.iload_n 3, 1) := by decide +kernel
theorem dX9_make_47 : decode cX9_make 47 = .ok (.if_icmp .ne 30, 3) := by decide +kernel
theorem dX9_make_50 : decode cX9_make 50 = .ok (.aload_n 0, 1) := by decide +kernel
theorem dX9_make_51 : decode cX9_make 51 = .ok (.getfield 23, 3) := by decide +kernel
theorem dX9_make_54 : decode cX9_make 54 = .ok (.iload 7, 2) := by decide +kernel
theorem dX9_make_56 : decode cX9_make 56 = .ok (.iaload, 1) := by decide +kernel
theorem dX9_make_57 : decode cX9_make 57 = .ok (.iload 4, 2) := by decide +kernel
theorem dX9_make_59 : decode cX9_make 59 = .ok (.if_icmp .ne 18, 3) := by decide +kernel
theorem dX9_make_62 : decode cX9_make 62 = .ok (.aload_n 0, 1) := by decide +kernel
theorem dX9_make_63 : decode cX9_make 63 = .ok (.getfield 26, 3) := by decide +kernel
theorem dX9_make_66 : decode cX9_make 66 = .ok (.iload 7, 2) := by decide +kernel
theorem dX9_make_68 : decode cX9_make 68 = .ok (.iaload, 1) := by decide +kernel
theorem dX9_make_69 : decode cX9_make 69 = .ok (.iload 5, 2) := by decide +kernel
theorem dX9_make_71 : decode cX9_make 71 = .ok (.if_icmp .ne 6, 3) := by decide +kernel
theorem dX9_make_74 : decode cX9_make 74 = .ok (.iload 7, 2) := by decide +kernel
theorem dX9_make_76 : decode cX9_make 76 = .ok (.ireturn, 1) := by decide +kernel
theorem dX9_make_77 : decode cX9_make 77 = .ok (.iinc 7 1, 3) := by decide +kernel
theorem dX9_make_80 : decode cX9_make 80 = .ok (.goto (-72), 3) := by decide +kernel
theorem dX9_make_83 : decode cX9_make 83 = .ok (.aload_n 0, 1) := by decide +kernel
theorem dX9_make_84 : decode cX9_make 84 = .ok (.getfield 101, 3) := by decide +kernel
theorem dX9_make_87 : decode cX9_make 87 = .ok (.bipush 14, 2) := by decide +kernel
theorem dX9_make_89 : decode cX9_make 89 = .ok (.if_icmp .ne 10, 3) := by decide +kernel
theorem dX9_make_92 : decode cX9_make 92 = .ok (.aload_n 0, 1) := by decide +kernel
theorem dX9_make_93 : decode cX9_make 93 = .ok (.iload 6, 2) := by decide +kernel
theorem dX9_make_95 : decode cX9_make 95 = .ok (.invokevirtual 117, 3) := by decide +kernel
theorem dX9_make_98 : decode cX9_make 98 = .ok (.ireturn, 1) := by decide +kernel
theorem dX9_make_99 : decode cX9_make 99 = .ok (.aload_n 0, 1) := by decide +kernel
theorem dX9_make_100 : decode cX9_make 100 = .ok (.iload_n 1, 1) := by decide +kernel
theorem dX9_make_101 : decode cX9_make 101 = .ok (.iload_n 2, 1) := by decide +kernel
theorem dX9_make_102 : decode cX9_make 102 = .ok (.iload_n 3, 1) := by decide +kernel
theorem dX9_make_103 : decode cX9_make 103 = .ok (.iload 4, 2) := by decide +kernel
theorem dX9_make_105 : decode cX9_make 105 = .ok (.iload 5, 2) := by decide +kernel
theorem dX9_make_107 : decode cX9_make 107 = .ok (.invokevirtual 121, 3) := by decide +kernel
theorem dX9_make_110 : decode cX9_make 110 = .ok (.ireturn, 1) := by decide +kernel
theorem dX9_constant_0 : decode cX9_constant 0 = .ok (.aload_n 0, 1) := by decide +kernel
theorem dX9_constant_1 : decode cX9_constant 1 = .ok (.getfield 101, 3) := by decide +kernel
theorem dX9_constant_4 : decode cX9_constant 4 = .ok (.bipush 14, 2) := by decide +kernel
theorem dX9_constant_6 : decode cX9_constant 6 = .ok (.if_icmp .ne 9, 3) := by decide +kernel
theorem dX9_constant_9 : decode cX9_constant 9 = .ok (.aload_n 0, 1) := by decide +kernel
theorem dX9_constant_10 : decode cX9_constant 10 = .ok (.iconst 1, 1) := by decide +kernel
theorem dX9_constant_11 : decode cX9_constant 11 = .ok (.invokevirtual 117, 3) := by decide +kernel
theorem dX9_constant_14 : decode cX9_constant 14 = .ok (.ireturn, 1) := by decide +kernel
theorem dX9_constant_15 : decode cX9_constant 15 = .ok (.aload_n 0, 1) := by decide +kernel
theorem dX9_constant_16 : decode cX9_constant 16 = .ok (.iconst 0, 1) := by decide +kernel
theorem dX9_constant_17 : decode cX9_constant 17 = .ok (.putfield 97, 3) := by decide +kernel
theorem dX9_constant_20 : decode cX9_constant 20 = .ok (.aload_n 0, 1) := by decide +kernel
theorem dX9_constant_21 : decode cX9_constant 21 = .ok (.bipush 99, 2) := by decide +kernel
theorem dX9_constant_23 : decode cX9_constant 23 = .ok (.iconst (-1), 1) := by decide +kernel
theorem dX9_constant_24 : decode cX9_constant 24 = .ok (.iconst (-1), 1) := by decide +kernel
theorem dX9_constant_25 : decode cX9_constant 25 = .ok (.iconst (-1), 1) := by decide +kernel
theorem dX9_constant_26 : decode cX9_constant 26 = .ok (.iconst (-1), 1) := by decide +kernel
theorem dX9_constant_27 : decode cX9_constant 27 = .ok (.invokevirtual 121, 3) := by decide +kernel
theorem dX9_constant_30 : decode cX9_constant 30 = .ok (.ireturn, 1) := by decide +kernel
theorem dX9_array_0 : decode cX9_array 0 = .ok (.aload_n 0, 1) := by decide +kernel
theorem dX9_array_1 : decode cX9_array 1 = .ok (.getfield 101, 3) := by decide +kernel
theorem dX9_array_4 : decode cX9_array 4 = .ok (.bipush 14, 2) := by decide +kernel
theorem dX9_array_6 : decode cX9_array 6 = .ok (.if_icmp .ne 9, 3) := by decide +kernel
theorem dX9_array_9 : decode cX9_array 9 = .ok (.aload_n 0, 1) := by decide +kernel
theorem dX9_array_10 : decode cX9_array 10 = .ok (.iconst 1, 1) := by decide +kernel
theorem dX9_array_11 : decode cX9_array 11 = .ok (.invokevirtual 117, 3) := by decide +kernel
theorem dX9_array_14 : decode cX9_array 14 = .ok (.ireturn, 1) := by decide +kernel
theorem dX9_array_15 : decode cX9_array 15 = .ok (.aload_n 0, 1) := by decide +kernel
theorem dX9_array_16 : decode cX9_array 16 = .ok (.iconst 0, 1) := by decide +kernel
theorem dX9_array_17 : decode cX9_array 17 = .ok (.putfield 97, 3) := by decide +kernel
theorem dX9_array_20 : decode cX9_array 20 = .ok (.aload_n 0, 1) := by decide +kernel
theorem dX9_array_21 : decode cX9_array 21 = .ok (.bipush 97, 2) := by decide +kernel
theorem dX9_array_23 : decode cX9_array 23 = .ok (.iconst (-1), 1) := by decide +kernel
theorem dX9_array_24 : decode cX9_array 24 = .ok (.iconst (-1), 1) := by decide +kernel
theorem dX9_array_25 : decode cX9_array 25 = .ok (.iconst (-1), 1) := by decide +kernel
theorem dX9_array_26 : decode cX9_array 26 = .ok (.iconst (-1), 1) := by decide +kernel
theorem dX9_array_27 : decode cX9_array 27 = .ok (.invokevirtual 121, 3) := by decide +kernel
theorem dX9_array_30 : decode cX9_array 30 = .ok (.ireturn, 1) := by decide +kernel
theorem dX9_apply_0 : decode cX9_apply 0 = .ok (.iload_n 1, 1) := by decide +kernel
theorem dX9_apply_1 : decode cX9_apply 1 = .ok (.ifCond .lt 18, 3) := by decide +kernel
theorem dX9_apply_4 : decode cX9_apply 4 = .ok (.iload_n 1, 1) := by decide +kernel
theorem dX9_apply_5 : decode cX9_apply 5 = .ok (.iconst 3, 1) := by decide +kernel
theorem dX9_apply_6 : decode cX9_apply 6 = .ok (.if_icmp .gt 13, 3) := by decide +kernel
theorem dX9_apply_9 : decode cX9_apply 9 = .ok (.iload_n 1, 1) := by decide +kernel
theorem dX9_apply_10 : decode cX9_apply 10 = .ok (.iconst 2, 1) := by decide +kernel
theorem dX9_apply_11 : decode cX9_apply 11 = .ok (.if_icmp .ge 14, 3) := by decide +kernel
theorem dX9_apply_14 : decode cX9_apply 14 = .ok (.iload_n 3, 1) := by decide +kernel
theorem dX9_apply_15 : decode cX9_apply 15 = .ok (.iconst (-1), 1) := by decide +kernel
theorem dX9_apply_16 : decode cX9_apply 16 = .ok (.if_icmp .eq 9, 3) := by decide +kernel
theorem dX9_apply_19 : decode cX9_apply 19 = .ok (.aload_n 0, 1) := by decide +kernel
theorem dX9_apply_20 : decode cX9_apply 20 = .ok (.iconst 1, 1) := by decide +kernel
theorem dX9_apply_21 : decode cX9_apply 21 = .ok (.invokevirtual 117, 3) := by decide +kernel
theorem dX9_apply_24 : decode cX9_apply 24 = .ok (.ireturn, 1) := by decide +kernel
theorem dX9_apply_25 : decode cX9_apply 25 = .ok (.aload_n 0, 1) := by decide +kernel
theorem dX9_apply_26 : decode cX9_apply 26 = .ok (.iload_n 2, 1) := by decide +kernel
theorem dX9_apply_27 : decode cX9_apply 27 = .ok (.invokevirtual 125, 3) := by decide +kernel
theorem dX9_apply_30 : decode cX9_apply 30 = .ok (.ifCond .eq 16, 3) := by decide +kernel
theorem dX9_apply_33 : decode cX9_apply 33 = .ok (.iload_n 1, 1) := by decide +kernel
theorem dX9_apply_34 : decode cX9_apply 34 = .ok (.iconst 2, 1) := by decide +kernel
theorem dX9_apply_35 : decode cX9_apply 35 = .ok (.if_icmp .lt 17, 3) := by decide +kernel
theorem dX9_apply_38 : decode cX9_apply 38 = .ok (.aload_n 0, 1) := by decide +kernel
theorem dX9_apply_39 : decode cX9_apply 39 = .ok (.iload_n 3, 1) := by decide +kernel
theorem dX9_apply_40 : decode cX9_apply 40 = .ok (.invokevirtual 125, 3) := by decide +kernel
theorem dX9_apply_43 : decode cX9_apply 43 = .ok (.ifCond .ne 9, 3) := by decide +kernel
theorem dX9_apply_46 : decode cX9_apply 46 = .ok (.aload_n 0, 1) := by decide +kernel
theorem dX9_apply_47 : decode cX9_apply 47 = .ok (.iconst 2, 1) := by decide +kernel
theorem dX9_apply_48 : decode cX9_apply 48 = .ok (.invokevirtual 117, 3) := by decide +kernel
theorem dX9_apply_51 : decode cX9_apply 51 = .ok (.ireturn, 1) := by decide +kernel
theorem dX9_apply_52 : decode cX9_apply 52 = .ok (.aload_n 0, 1) := by decide +kernel
theorem dX9_apply_53 : decode cX9_apply 53 = .ok (.bipush 102, 2) := by decide +kernel
theorem dX9_apply_55 : decode cX9_apply 55 = .ok (.iload_n 1, 1) := by decide +kernel
theorem dX9_apply_56 : decode cX9_apply 56 = .ok (.iload_n 2, 1) := by decide +kernel
theorem dX9_apply_57 : decode cX9_apply 57 = .ok (.iload_n 3, 1) := by decide +kernel
theorem dX9_apply_58 : decode cX9_apply 58 = .ok (.iconst (-1), 1) := by decide +kernel
theorem dX9_apply_59 : decode cX9_apply 59 = .ok (.iconst 3, 1) := by decide +kernel
theorem dX9_apply_60 : decode cX9_apply 60 = .ok (.invokevirtual 129, 3) := by decide +kernel
theorem dX9_apply_63 : decode cX9_apply 63 = .ok (.ireturn, 1) := by decide +kernel
theorem dX9_read_0 : decode cX9_read 0 = .ok (.aload_n 0, 1) := by decide +kernel
theorem dX9_read_1 : decode cX9_read 1 = .ok (.iload_n 1, 1) := by decide +kernel
theorem dX9_read_2 : decode cX9_read 2 = .ok (.invokevirtual 133, 3) := by decide +kernel
theorem dX9_read_5 : decode cX9_read 5 = .ok (.ifCond .eq 11, 3) := by decide +kernel
theorem dX9_read_8 : decode cX9_read 8 = .ok (.aload_n 0, 1) := by decide +kernel
theorem dX9_read_9 : decode cX9_read 9 = .ok (.iload_n 2, 1) := by decide +kernel
theorem dX9_read_10 : decode cX9_read 10 = .ok (.invokevirtual 125, 3) := by decide +kernel
theorem dX9_read_13 : decode cX9_read 13 = .ok (.ifCond .ne 9, 3) := by decide +kernel
theorem dX9_read_16 : decode cX9_read 16 = .ok (.aload_n 0, 1) := by decide +kernel
theorem dX9_read_17 : decode cX9_read 17 = .ok (.iconst 1, 1) := by decide +kernel
theorem dX9_read_18 : decode cX9_read 18 = .ok (.invokevirtual 117, 3) := by decide +kernel
theorem dX9_read_21 : decode cX9_read 21 = .ok (.ireturn, 1) := by decide +kernel
theorem dX9_read_22 : decode cX9_read 22 = .ok (.aload_n 0, 1) := by decide +kernel
theorem dX9_read_23 : decode cX9_read 23 = .ok (.bipush 114, 2) := by decide +kernel
theorem dX9_read_25 : decode cX9_read 25 = .ok (.iconst (-1), 1) := by decide +kernel
theorem dX9_read_26 : decode cX9_read 26 = .ok (.iload_n 1, 1) := by decide +kernel
theorem dX9_read_27 : decode cX9_read 27 = .ok (.iload_n 2, 1) := by decide +kernel
theorem dX9_read_28 : decode cX9_read 28 = .ok (.iconst (-1), 1) := by decide +kernel
theorem dX9_read_29 : decode cX9_read 29 = .ok (.iconst 2, 1) := by decide +kernel
theorem dX9_read_30 : decode cX9_read 30 = .ok (.invokevirtual 129, 3) := by decide +kernel
theorem dX9_read_33 : decode cX9_read 33 = .ok (.ireturn, 1) := by decide +kernel
theorem dX9_write_0 : decode cX9_write 0 = .ok (.aload_n 0, 1) := by decide +kernel
theorem dX9_write_1 : decode cX9_write 1 = .ok (.iload_n 1, 1) := by decide +kernel
theorem dX9_write_2 : decode cX9_write 2 = .ok (.invokevirtual 133, 3) := by decide +kernel
theorem dX9_write_5 : decode cX9_write 5 = .ok (.ifCond .eq 19, 3) := by decide +kernel
theorem dX9_write_8 : decode cX9_write 8 = .ok (.aload_n 0, 1) := by decide +kernel
theorem dX9_write_9 : decode cX9_write 9 = .ok (.iload_n 2, 1) := by decide +kernel
theorem dX9_write_10 : decode cX9_write 10 = .ok (.invokevirtual 125, 3) := by decide +kernel
theorem dX9_write_13 : decode cX9_write 13 = .ok (.ifCond .eq 11, 3) := by decide +kernel
theorem dX9_write_16 : decode cX9_write 16 = .ok (.aload_n 0, 1) := by decide +kernel
theorem dX9_write_17 : decode cX9_write 17 = .ok (.iload_n 3, 1) := by decide +kernel
theorem dX9_write_18 : decode cX9_write 18 = .ok (.invokevirtual 125, 3) := by decide +kernel
theorem dX9_write_21 : decode cX9_write 21 = .ok (.ifCond .ne 9, 3) := by decide +kernel
theorem dX9_write_24 : decode cX9_write 24 = .ok (.aload_n 0, 1) := by decide +kernel
theorem dX9_write_25 : decode cX9_write 25 = .ok (.iconst 1, 1) := by decide +kernel
theorem dX9_write_26 : decode cX9_write 26 = .ok (.invokevirtual 117, 3) := by decide +kernel
theorem dX9_write_29 : decode cX9_write 29 = .ok (.ireturn, 1) := by decide +kernel
theorem dX9_write_30 : decode cX9_write 30 = .ok (.aload_n 0, 1) := by decide +kernel
theorem dX9_write_31 : decode cX9_write 31 = .ok (.bipush 119, 2) := by decide +kernel
theorem dX9_write_33 : decode cX9_write 33 = .ok (.iconst (-1), 1) := by decide +kernel
theorem dX9_write_34 : decode cX9_write 34 = .ok (.iload_n 1, 1) := by decide +kernel
theorem dX9_write_35 : decode cX9_write 35 = .ok (.iload_n 2, 1) := by decide +kernel
theorem dX9_write_36 : decode cX9_write 36 = .ok (.iload_n 3, 1) := by decide +kernel
theorem dX9_write_37 : decode cX9_write 37 = .ok (.iconst 2, 1) := by decide +kernel
theorem dX9_write_38 : decode cX9_write 38 = .ok (.invokevirtual 129, 3) := by decide +kernel
theorem dX9_write_41 : decode cX9_write 41 = .ok (.ireturn, 1) := by decide +kernel
theorem dX9_terms_0 : decode cX9_terms 0 = .ok (.aload_n 0, 1) := by decide +kernel
theorem dX9_terms_1 : decode cX9_terms 1 = .ok (.getfield 101, 3) := by decide +kernel
theorem dX9_terms_4 : decode cX9_terms 4 = .ok (.ireturn, 1) := by decide +kernel
theorem dX9_kindOf_0 : decode cX9_kindOf 0 = .ok (.aload_n 0, 1) := by decide +kernel
theorem dX9_kindOf_1 : decode cX9_kindOf 1 = .ok (.iload_n 1, 1) := by decide +kernel
theorem dX9_kindOf_2 : decode cX9_kindOf 2 = .ok (.ifCond .lt 15, 3) := by decide +kernel
theorem dX9_kindOf_5 : decode cX9_kindOf 5 = .ok (.iload_n 1, 1) := by decide +kernel
theorem dX9_kindOf_6 : decode cX9_kindOf 6 = .ok (.aload_n 0, 1) := by decide +kernel
theorem dX9_kindOf_7 : decode cX9_kindOf 7 = .ok (.getfield 101, 3) := by decide +kernel
theorem dX9_kindOf_10 : decode cX9_kindOf 10 = .ok (.if_icmp .ge 7, 3) := by decide +kernel
theorem dX9_kindOf_13 : decode cX9_kindOf 13 = .ok (.iconst 0, 1) := by decide +kernel
theorem dX9_kindOf_14 : decode cX9_kindOf 14 = .ok (.goto 4, 3) := by decide +kernel
theorem dX9_kindOf_17 : decode cX9_kindOf 17 = .ok (.iconst 1, 1) := by decide +kernel
theorem dX9_kindOf_18 : decode cX9_kindOf 18 = .ok (.putfield 97, 3) := by decide +kernel
theorem dX9_kindOf_21 : decode cX9_kindOf 21 = .ok (.aload_n 0, 1) := by decide +kernel
theorem dX9_kindOf_22 : decode cX9_kindOf 22 = .ok (.getfield 97, 3) := by decide +kernel
theorem dX9_kindOf_25 : decode cX9_kindOf 25 = .ok (.ifCond .ne 12, 3) := by decide +kernel
theorem dX9_kindOf_28 : decode cX9_kindOf 28 = .ok (.aload_n 0, 1) := by decide +kernel
theorem dX9_kindOf_29 : decode cX9_kindOf 29 = .ok (.getfield 7, 3) := by decide +kernel
theorem dX9_kindOf_32 : decode cX9_kindOf 32 = .ok (.iload_n 1, 1) := by decide +kernel
theorem dX9_kindOf_33 : decode cX9_kindOf 33 = .ok (.caload, 1) := by decide +kernel
theorem dX9_kindOf_34 : decode cX9_kindOf 34 = .ok (.goto 5, 3) := by decide +kernel
theorem dX9_kindOf_37 : decode cX9_kindOf 37 = .ok (.bipush 99, 2) := by decide +kernel
theorem dX9_kindOf_39 : decode cX9_kindOf 39 = .ok (.ireturn, 1) := by decide +kernel
theorem dX9_atom_0 : decode cX9_atom 0 = .ok (.aload_n 0, 1) := by decide +kernel
theorem dX9_atom_1 : decode cX9_atom 1 = .ok (.iconst 0, 1) := by decide +kernel
theorem dX9_atom_2 : decode cX9_atom 2 = .ok (.putfield 97, 3) := by decide +kernel
theorem dX9_atom_5 : decode cX9_atom 5 = .ok (.iconst 0, 1) := by decide +kernel
theorem dX9_atom_6 : decode cX9_atom 6 = .ok (.istore 6, 2) := by decide +kernel
theorem dX9_atom_8 : decode cX9_atom 8 = .ok (.iload 6, 2) := by decide +kernel
theorem dX9_atom_10 : decode cX9_atom 10 = .ok (.aload_n 0, 1) := by decide +kernel
theorem dX9_atom_11 : decode cX9_atom 11 = .ok (.getfield 136, 3) := by decide +kernel
theorem dX9_atom_14 : decode cX9_atom 14 = .ok (.if_icmp .ge 57, 3) := by decide +kernel
theorem dX9_atom_17 : decode cX9_atom 17 = .ok (.aload_n 0, 1) := by decide +kernel
theorem dX9_atom_18 : decode cX9_atom 18 = .ok (.getfield 41, 3) := by decide +kernel
theorem dX9_atom_21 : decode cX9_atom 21 = .ok (.iload 6, 2) := by decide +kernel
theorem dX9_atom_23 : decode cX9_atom 23 = .ok (.baload, 1) := by decide +kernel
theorem dX9_atom_24 : decode cX9_atom 24 = .ok (.iload_n 1, 1) := by decide +kernel
theorem dX9_atom_25 : decode cX9_atom 25 = .ok (.if_icmp .ne 40, 3) := by decide +kernel
theorem dX9_atom_28 : decode cX9_atom 28 = .ok (.aload_n 0, 1) := by decide +kernel
theorem dX9_atom_29 : decode cX9_atom 29 = .ok (.getfield 32, 3) := by decide +kernel
theorem dX9_atom_32 : decode cX9_atom 32 = .ok (.iload 6, 2) := by decide +kernel
theorem dX9_atom_34 : decode cX9_atom 34 = .ok (.iaload, 1) := by decide +kernel
theorem dX9_atom_35 : decode cX9_atom 35 = .ok (.iload_n 2, 1) := by decide +kernel
theorem dX9_atom_36 : decode cX9_atom 36 = .ok (.if_icmp .ne 29, 3) := by decide +kernel
theorem dX9_atom_39 : decode cX9_atom 39 = .ok (.aload_n 0, 1) := by decide +kernel
theorem dX9_atom_40 : decode cX9_atom 40 = .ok (.getfield 35, 3) := by decide +kernel
theorem dX9_atom_43 : decode cX9_atom 43 = .ok (.iload 6, 2) := by decide +kernel
theorem dX9_atom_45 : decode cX9_atom 45 = .ok (.iaload, 1) := by decide +kernel
theorem dX9_atom_46 : decode cX9_atom 46 = .ok (.iload_n 3, 1) := by decide +kernel
theorem dX9_atom_47 : decode cX9_atom 47 = .ok (.if_icmp .ne 18, 3) := by decide +kernel
theorem dX9_atom_50 : decode cX9_atom 50 = .ok (.aload_n 0, 1) := by decide +kernel
theorem dX9_atom_51 : decode cX9_atom 51 = .ok (.getfield 38, 3) := by decide +kernel
theorem dX9_atom_54 : decode cX9_atom 54 = .ok (.iload 6, 2) := by decide +kernel
theorem dX9_atom_56 : decode cX9_atom 56 = .ok (.iaload, 1) := by decide +kernel
theorem dX9_atom_57 : decode cX9_atom 57 = .ok (.iload 4, 2) := by decide +kernel
theorem dX9_atom_59 : decode cX9_atom 59 = .ok (.if_icmp .ne 6, 3) := by decide +kernel
theorem dX9_atom_62 : decode cX9_atom 62 = .ok (.iload 6, 2) := by decide +kernel
theorem dX9_atom_64 : decode cX9_atom 64 = .ok (.ireturn, 1) := by decide +kernel
theorem dX9_atom_65 : decode cX9_atom 65 = .ok (.iinc 6 1, 3) := by decide +kernel
theorem dX9_atom_68 : decode cX9_atom 68 = .ok (.goto (-60), 3) := by decide +kernel
theorem dX9_atom_71 : decode cX9_atom 71 = .ok (.aload_n 0, 1) := by decide +kernel
theorem dX9_atom_72 : decode cX9_atom 72 = .ok (.getfield 136, 3) := by decide +kernel
theorem dX9_atom_75 : decode cX9_atom 75 = .ok (.bipush 24, 2) := by decide +kernel
theorem dX9_atom_77 : decode cX9_atom 77 = .ok (.if_icmp .ne 10, 3) := by decide +kernel
theorem dX9_atom_80 : decode cX9_atom 80 = .ok (.aload_n 0, 1) := by decide +kernel
theorem dX9_atom_81 : decode cX9_atom 81 = .ok (.iload 5, 2) := by decide +kernel
theorem dX9_atom_83 : decode cX9_atom 83 = .ok (.invokevirtual 117, 3) := by decide +kernel
theorem dX9_atom_86 : decode cX9_atom 86 = .ok (.ireturn, 1) := by decide +kernel
theorem dX9_atom_87 : decode cX9_atom 87 = .ok (.aload_n 0, 1) := by decide +kernel
theorem dX9_atom_88 : decode cX9_atom 88 = .ok (.getfield 41, 3) := by decide +kernel
theorem dX9_atom_91 : decode cX9_atom 91 = .ok (.aload_n 0, 1) := by decide +kernel
theorem dX9_atom_92 : decode cX9_atom 92 = .ok (.getfield 136, 3) := by decide +kernel
theorem dX9_atom_95 : decode cX9_atom 95 = .ok (.iload_n 1, 1) := by decide +kernel
theorem dX9_atom_96 : decode cX9_atom 96 = .ok (.bastore, 1) := by decide +kernel
theorem dX9_atom_97 : decode cX9_atom 97 = .ok (.aload_n 0, 1) := by decide +kernel
theorem dX9_atom_98 : decode cX9_atom 98 = .ok (.getfield 32, 3) := by decide +kernel
theorem dX9_atom_101 : decode cX9_atom 101 = .ok (.aload_n 0, 1) := by decide +kernel
theorem dX9_atom_102 : decode cX9_atom 102 = .ok (.getfield 136, 3) := by decide +kernel
theorem dX9_atom_105 : decode cX9_atom 105 = .ok (.iload_n 2, 1) := by decide +kernel
theorem dX9_atom_106 : decode cX9_atom 106 = .ok (.iastore, 1) := by decide +kernel
theorem dX9_atom_107 : decode cX9_atom 107 = .ok (.aload_n 0, 1) := by decide +kernel
theorem dX9_atom_108 : decode cX9_atom 108 = .ok (.getfield 35, 3) := by decide +kernel
theorem dX9_atom_111 : decode cX9_atom 111 = .ok (.aload_n 0, 1) := by decide +kernel
theorem dX9_atom_112 : decode cX9_atom 112 = .ok (.getfield 136, 3) := by decide +kernel
theorem dX9_atom_115 : decode cX9_atom 115 = .ok (.iload_n 3, 1) := by decide +kernel
theorem dX9_atom_116 : decode cX9_atom 116 = .ok (.iastore, 1) := by decide +kernel
theorem dX9_atom_117 : decode cX9_atom 117 = .ok (.aload_n 0, 1) := by decide +kernel
theorem dX9_atom_118 : decode cX9_atom 118 = .ok (.getfield 38, 3) := by decide +kernel
theorem dX9_atom_121 : decode cX9_atom 121 = .ok (.aload_n 0, 1) := by decide +kernel
theorem dX9_atom_122 : decode cX9_atom 122 = .ok (.getfield 136, 3) := by decide +kernel
theorem dX9_atom_125 : decode cX9_atom 125 = .ok (.iload 4, 2) := by decide +kernel
theorem dX9_atom_127 : decode cX9_atom 127 = .ok (.iastore, 1) := by decide +kernel
theorem dX9_atom_128 : decode cX9_atom 128 = .ok (.aload_n 0, 1) := by decide +kernel
theorem dX9_atom_129 : decode cX9_atom 129 = .ok (.dup, 1) := by decide +kernel
theorem dX9_atom_130 : decode cX9_atom 130 = .ok (.getfield 136, 3) := by decide +kernel
theorem dX9_atom_133 : decode cX9_atom 133 = .ok (.dup_x1, 1) := by decide +kernel
theorem dX9_atom_134 : decode cX9_atom 134 = .ok (.iconst 1, 1) := by decide +kernel
theorem dX9_atom_135 : decode cX9_atom 135 = .ok (.iadd, 1) := by decide +kernel
theorem dX9_atom_136 : decode cX9_atom 136 = .ok (.putfield 136, 3) := by decide +kernel
theorem dX9_atom_139 : decode cX9_atom 139 = .ok (.ireturn, 1) := by decide +kernel
theorem dX9_equal_0 : decode cX9_equal 0 = .ok (.aload_n 0, 1) := by decide +kernel
theorem dX9_equal_1 : decode cX9_equal 1 = .ok (.iload_n 1, 1) := by decide +kernel
theorem dX9_equal_2 : decode cX9_equal 2 = .ok (.invokevirtual 125, 3) := by decide +kernel
theorem dX9_equal_5 : decode cX9_equal 5 = .ok (.ifCond .eq 11, 3) := by decide +kernel
theorem dX9_equal_8 : decode cX9_equal 8 = .ok (.aload_n 0, 1) := by decide +kernel
theorem dX9_equal_9 : decode cX9_equal 9 = .ok (.iload_n 2, 1) := by decide +kernel
theorem dX9_equal_10 : decode cX9_equal 10 = .ok (.invokevirtual 125, 3) := by decide +kernel
theorem dX9_equal_13 : decode cX9_equal 13 = .ok (.ifCond .ne 9, 3) := by decide +kernel
theorem dX9_equal_16 : decode cX9_equal 16 = .ok (.aload_n 0, 1) := by decide +kernel
theorem dX9_equal_17 : decode cX9_equal 17 = .ok (.iconst 1, 1) := by decide +kernel
theorem dX9_equal_18 : decode cX9_equal 18 = .ok (.invokevirtual 117, 3) := by decide +kernel
theorem dX9_equal_21 : decode cX9_equal 21 = .ok (.ireturn, 1) := by decide +kernel
theorem dX9_equal_22 : decode cX9_equal 22 = .ok (.aload_n 0, 1) := by decide +kernel
theorem dX9_equal_23 : decode cX9_equal 23 = .ok (.iconst 1, 1) := by decide +kernel
theorem dX9_equal_24 : decode cX9_equal 24 = .ok (.iload_n 1, 1) := by decide +kernel
theorem dX9_equal_25 : decode cX9_equal 25 = .ok (.iload_n 2, 1) := by decide +kernel
theorem dX9_equal_26 : decode cX9_equal 26 = .ok (.iconst 0, 1) := by decide +kernel
theorem dX9_equal_27 : decode cX9_equal 27 = .ok (.iconst 2, 1) := by decide +kernel
theorem dX9_equal_28 : decode cX9_equal 28 = .ok (.invokevirtual 139, 3) := by decide +kernel
theorem dX9_equal_31 : decode cX9_equal 31 = .ok (.ireturn, 1) := by decide +kernel
theorem dX9_atMost_0 : decode cX9_atMost 0 = .ok (.aload_n 0, 1) := by decide +kernel
theorem dX9_atMost_1 : decode cX9_atMost 1 = .ok (.iload_n 1, 1) := by decide +kernel
theorem dX9_atMost_2 : decode cX9_atMost 2 = .ok (.invokevirtual 125, 3) := by decide +kernel
theorem dX9_atMost_5 : decode cX9_atMost 5 = .ok (.ifCond .eq 11, 3) := by decide +kernel
theorem dX9_atMost_8 : decode cX9_atMost 8 = .ok (.aload_n 0, 1) := by decide +kernel
theorem dX9_atMost_9 : decode cX9_atMost 9 = .ok (.iload_n 2, 1) := by decide +kernel
theorem dX9_atMost_10 : decode cX9_atMost 10 = .ok (.invokevirtual 125, 3) := by decide +kernel
theorem dX9_atMost_13 : decode cX9_atMost 13 = .ok (.ifCond .ne 9, 3) := by decide +kernel
theorem dX9_atMost_16 : decode cX9_atMost 16 = .ok (.aload_n 0, 1) := by decide +kernel
theorem dX9_atMost_17 : decode cX9_atMost 17 = .ok (.iconst 1, 1) := by decide +kernel
theorem dX9_atMost_18 : decode cX9_atMost 18 = .ok (.invokevirtual 117, 3) := by decide +kernel
theorem dX9_atMost_21 : decode cX9_atMost 21 = .ok (.ireturn, 1) := by decide +kernel
theorem dX9_atMost_22 : decode cX9_atMost 22 = .ok (.iload_n 3, 1) := by decide +kernel
theorem dX9_atMost_23 : decode cX9_atMost 23 = .ok (.bipush (-20), 2) := by decide +kernel
theorem dX9_atMost_25 : decode cX9_atMost 25 = .ok (.if_icmp .lt 9, 3) := by decide +kernel
theorem dX9_atMost_28 : decode cX9_atMost 28 = .ok (.iload_n 3, 1) := by decide +kernel
theorem dX9_atMost_29 : decode cX9_atMost 29 = .ok (.bipush 20, 2) := by decide +kernel
theorem dX9_atMost_31 : decode cX9_atMost 31 = .ok (.if_icmp .le 9, 3) := by decide +kernel
theorem dX9_atMost_34 : decode cX9_atMost 34 = .ok (.aload_n 0, 1) := by decide +kernel
theorem dX9_atMost_35 : decode cX9_atMost 35 = .ok (.iconst 2, 1) := by decide +kernel
theorem dX9_atMost_36 : decode cX9_atMost 36 = .ok (.invokevirtual 117, 3) := by decide +kernel
theorem dX9_atMost_39 : decode cX9_atMost 39 = .ok (.ireturn, 1) := by decide +kernel
theorem dX9_atMost_40 : decode cX9_atMost 40 = .ok (.aload_n 0, 1) := by decide +kernel
theorem dX9_atMost_41 : decode cX9_atMost 41 = .ok (.iconst 0, 1) := by decide +kernel
theorem dX9_atMost_42 : decode cX9_atMost 42 = .ok (.iload_n 1, 1) := by decide +kernel
theorem dX9_atMost_43 : decode cX9_atMost 43 = .ok (.iload_n 2, 1) := by decide +kernel
theorem dX9_atMost_44 : decode cX9_atMost 44 = .ok (.iload_n 3, 1) := by decide +kernel
theorem dX9_atMost_45 : decode cX9_atMost 45 = .ok (.iconst 3, 1) := by decide +kernel
theorem dX9_atMost_46 : decode cX9_atMost 46 = .ok (.invokevirtual 139, 3) := by decide +kernel
theorem dX9_atMost_49 : decode cX9_atMost 49 = .ok (.ireturn, 1) := by decide +kernel
theorem dX9_atoms_0 : decode cX9_atoms 0 = .ok (.aload_n 0, 1) := by decide +kernel
theorem dX9_atoms_1 : decode cX9_atoms 1 = .ok (.getfield 136, 3) := by decide +kernel
theorem dX9_atoms_4 : decode cX9_atoms 4 = .ok (.ireturn, 1) := by decide +kernel
theorem dX9_noLiteral_0 : decode cX9_noLiteral 0 = .ok (.aload_n 0, 1) := by decide +kernel
theorem dX9_noLiteral_1 : decode cX9_noLiteral 1 = .ok (.iload_n 1, 1) := by decide +kernel
theorem dX9_noLiteral_2 : decode cX9_noLiteral 2 = .ok (.ifCond .lt 17, 3) := by decide +kernel
theorem dX9_noLiteral_5 : decode cX9_noLiteral 5 = .ok (.iload_n 1, 1) := by decide +kernel
theorem dX9_noLiteral_6 : decode cX9_noLiteral 6 = .ok (.iconst 2, 1) := by decide +kernel
theorem dX9_noLiteral_7 : decode cX9_noLiteral 7 = .ok (.aload_n 0, 1) := by decide +kernel
theorem dX9_noLiteral_8 : decode cX9_noLiteral 8 = .ok (.getfield 136, 3) := by decide +kernel
theorem dX9_noLiteral_11 : decode cX9_noLiteral 11 = .ok (.imul, 1) := by decide +kernel
theorem dX9_noLiteral_12 : decode cX9_noLiteral 12 = .ok (.if_icmp .ge 7, 3) := by decide +kernel
theorem dX9_noLiteral_15 : decode cX9_noLiteral 15 = .ok (.iconst 0, 1) := by decide +kernel
theorem dX9_noLiteral_16 : decode cX9_noLiteral 16 = .ok (.goto 4, 3) := by decide +kernel
theorem dX9_noLiteral_19 : decode cX9_noLiteral 19 = .ok (.iconst 1, 1) := by decide +kernel
theorem dX9_noLiteral_20 : decode cX9_noLiteral 20 = .ok (.putfield 97, 3) := by decide +kernel
theorem dX9_noLiteral_23 : decode cX9_noLiteral 23 = .ok (.aload_n 0, 1) := by decide +kernel
theorem dX9_noLiteral_24 : decode cX9_noLiteral 24 = .ok (.getfield 97, 3) := by decide +kernel
theorem dX9_noLiteral_27 : decode cX9_noLiteral 27 = .ok (.ifCond .eq 7, 3) := by decide +kernel
theorem dX9_noLiteral_30 : decode cX9_noLiteral 30 = .ok (.iconst 1, 1) := by decide +kernel
theorem dX9_noLiteral_31 : decode cX9_noLiteral 31 = .ok (.goto 4, 3) := by decide +kernel
theorem dX9_noLiteral_34 : decode cX9_noLiteral 34 = .ok (.iconst 0, 1) := by decide +kernel
theorem dX9_noLiteral_35 : decode cX9_noLiteral 35 = .ok (.ireturn, 1) := by decide +kernel
theorem dX9_clause_0 : decode cX9_clause 0 = .ok (.aload_n 0, 1) := by decide +kernel
theorem dX9_clause_1 : decode cX9_clause 1 = .ok (.iload_n 1, 1) := by decide +kernel
theorem dX9_clause_2 : decode cX9_clause 2 = .ok (.invokevirtual 143, 3) := by decide +kernel
theorem dX9_clause_5 : decode cX9_clause 5 = .ok (.ifCond .ne 29, 3) := by decide +kernel
theorem dX9_clause_8 : decode cX9_clause 8 = .ok (.iload_n 2, 1) := by decide +kernel
theorem dX9_clause_9 : decode cX9_clause 9 = .ok (.iconst (-1), 1) := by decide +kernel
theorem dX9_clause_10 : decode cX9_clause 10 = .ok (.if_icmp .eq 11, 3) := by decide +kernel
theorem dX9_clause_13 : decode cX9_clause 13 = .ok (.aload_n 0, 1) := by decide +kernel
theorem dX9_clause_14 : decode cX9_clause 14 = .ok (.iload_n 2, 1) := by decide +kernel
theorem dX9_clause_15 : decode cX9_clause 15 = .ok (.invokevirtual 143, 3) := by decide +kernel
theorem dX9_clause_18 : decode cX9_clause 18 = .ok (.ifCond .ne 16, 3) := by decide +kernel
theorem dX9_clause_21 : decode cX9_clause 21 = .ok (.iload_n 3, 1) := by decide +kernel
theorem dX9_clause_22 : decode cX9_clause 22 = .ok (.iconst (-1), 1) := by decide +kernel
theorem dX9_clause_23 : decode cX9_clause 23 = .ok (.if_icmp .eq 13, 3) := by decide +kernel
theorem dX9_clause_26 : decode cX9_clause 26 = .ok (.aload_n 0, 1) := by decide +kernel
theorem dX9_clause_27 : decode cX9_clause 27 = .ok (.iload_n 3, 1) := by decide +kernel
theorem dX9_clause_28 : decode cX9_clause 28 = .ok (.invokevirtual 143, 3) := by decide +kernel
theorem dX9_clause_31 : decode cX9_clause 31 = .ok (.ifCond .eq 5, 3) := by decide +kernel
theorem dX9_clause_34 : decode cX9_clause 34 = .ok (.iconst 0, 1) := by decide +kernel
theorem dX9_clause_35 : decode cX9_clause 35 = .ok (.ireturn, 1) := by decide +kernel
theorem dX9_clause_36 : decode cX9_clause 36 = .ok (.aload_n 0, 1) := by decide +kernel
theorem dX9_clause_37 : decode cX9_clause 37 = .ok (.getfield 146, 3) := by decide +kernel
theorem dX9_clause_40 : decode cX9_clause 40 = .ok (.bipush 14, 2) := by decide +kernel
theorem dX9_clause_42 : decode cX9_clause 42 = .ok (.if_icmp .ne 9, 3) := by decide +kernel
theorem dX9_clause_45 : decode cX9_clause 45 = .ok (.aload_n 0, 1) := by decide +kernel
theorem dX9_clause_46 : decode cX9_clause 46 = .ok (.iconst 2, 1) := by decide +kernel
theorem dX9_clause_47 : decode cX9_clause 47 = .ok (.invokevirtual 117, 3) := by decide +kernel
theorem dX9_clause_50 : decode cX9_clause 50 = .ok (.ireturn, 1) := by decide +kernel
theorem dX9_clause_51 : decode cX9_clause 51 = .ok (.aload_n 0, 1) := by decide +kernel
theorem dX9_clause_52 : decode cX9_clause 52 = .ok (.iconst 0, 1) := by decide +kernel
theorem dX9_clause_53 : decode cX9_clause 53 = .ok (.putfield 97, 3) := by decide +kernel
theorem dX9_clause_56 : decode cX9_clause 56 = .ok (.aload_n 0, 1) := by decide +kernel
theorem dX9_clause_57 : decode cX9_clause 57 = .ok (.getfield 54, 3) := by decide +kernel
theorem dX9_clause_60 : decode cX9_clause 60 = .ok (.iconst 3, 1) := by decide +kernel
theorem dX9_clause_61 : decode cX9_clause 61 = .ok (.aload_n 0, 1) := by decide +kernel
theorem dX9_clause_62 : decode cX9_clause 62 = .ok (.getfield 146, 3) := by decide +kernel
theorem dX9_clause_65 : decode cX9_clause 65 = .ok (.imul, 1) := by decide +kernel
theorem dX9_clause_66 : decode cX9_clause 66 = .ok (.iload_n 1, 1) := by decide +kernel
theorem dX9_clause_67 : decode cX9_clause 67 = .ok (.iastore, 1) := by decide +kernel
theorem dX9_clause_68 : decode cX9_clause 68 = .ok (.aload_n 0, 1) := by decide +kernel
theorem dX9_clause_69 : decode cX9_clause 69 = .ok (.getfield 54, 3) := by decide +kernel
theorem dX9_clause_72 : decode cX9_clause 72 = .ok (.iconst 3, 1) := by decide +kernel
theorem dX9_clause_73 : decode cX9_clause 73 = .ok (.aload_n 0, 1) := by decide +kernel
theorem dX9_clause_74 : decode cX9_clause 74 = .ok (.getfield 146, 3) := by decide +kernel
theorem dX9_clause_77 : decode cX9_clause 77 = .ok (.imul, 1) := by decide +kernel
theorem dX9_clause_78 : decode cX9_clause 78 = .ok (.iconst 1, 1) := by decide +kernel
theorem dX9_clause_79 : decode cX9_clause 79 = .ok (.iadd, 1) := by decide +kernel
theorem dX9_clause_80 : decode cX9_clause 80 = .ok (.iload_n 2, 1) := by decide +kernel
theorem dX9_clause_81 : decode cX9_clause 81 = .ok (.iastore, 1) := by decide +kernel
theorem dX9_clause_82 : decode cX9_clause 82 = .ok (.aload_n 0, 1) := by decide +kernel
theorem dX9_clause_83 : decode cX9_clause 83 = .ok (.getfield 54, 3) := by decide +kernel
theorem dX9_clause_86 : decode cX9_clause 86 = .ok (.iconst 3, 1) := by decide +kernel
theorem dX9_clause_87 : decode cX9_clause 87 = .ok (.aload_n 0, 1) := by decide +kernel
theorem dX9_clause_88 : decode cX9_clause 88 = .ok (.getfield 146, 3) := by decide +kernel
theorem dX9_clause_91 : decode cX9_clause 91 = .ok (.imul, 1) := by decide +kernel
theorem dX9_clause_92 : decode cX9_clause 92 = .ok (.iconst 2, 1) := by decide +kernel
theorem dX9_clause_93 : decode cX9_clause 93 = .ok (.iadd, 1) := by decide +kernel
theorem dX9_clause_94 : decode cX9_clause 94 = .ok (.iload_n 3, 1) := by decide +kernel
theorem dX9_clause_95 : decode cX9_clause 95 = .ok (.iastore, 1) := by decide +kernel
theorem dX9_clause_96 : decode cX9_clause 96 = .ok (.aload_n 0, 1) := by decide +kernel
theorem dX9_clause_97 : decode cX9_clause 97 = .ok (.invokevirtual 114, 3) := by decide +kernel
theorem dX9_clause_100 : decode cX9_clause 100 = .ok (.aload_n 0, 1) := by decide +kernel
theorem dX9_clause_101 : decode cX9_clause 101 = .ok (.dup, 1) := by decide +kernel
theorem dX9_clause_102 : decode cX9_clause 102 = .ok (.getfield 146, 3) := by decide +kernel
theorem dX9_clause_105 : decode cX9_clause 105 = .ok (.dup_x1, 1) := by decide +kernel
theorem dX9_clause_106 : decode cX9_clause 106 = .ok (.iconst 1, 1) := by decide +kernel
theorem dX9_clause_107 : decode cX9_clause 107 = .ok (.iadd, 1) := by decide +kernel
theorem dX9_clause_108 : decode cX9_clause 108 = .ok (.putfield 146, 3) := by decide +kernel
theorem dX9_clause_111 : decode cX9_clause 111 = .ok (.ireturn, 1) := by decide +kernel
theorem dX9_clauses_0 : decode cX9_clauses 0 = .ok (.aload_n 0, 1) := by decide +kernel
theorem dX9_clauses_1 : decode cX9_clauses 1 = .ok (.getfield 146, 3) := by decide +kernel
theorem dX9_clauses_4 : decode cX9_clauses 4 = .ok (.ireturn, 1) := by decide +kernel
theorem dX9_rule_0 : decode cX9_rule 0 = .ok (.iload_n 1, 1) := by decide +kernel
theorem dX9_rule_1 : decode cX9_rule 1 = .ok (.bipush 105, 2) := by decide +kernel
theorem dX9_rule_3 : decode cX9_rule 3 = .ok (.if_icmp .eq 15, 3) := by decide +kernel
theorem dX9_rule_6 : decode cX9_rule 6 = .ok (.iload_n 1, 1) := by decide +kernel
theorem dX9_rule_7 : decode cX9_rule 7 = .ok (.bipush 115, 2) := by decide +kernel
theorem dX9_rule_9 : decode cX9_rule 9 = .ok (.if_icmp .eq 9, 3) := by decide +kernel
theorem dX9_rule_12 : decode cX9_rule 12 = .ok (.iload_n 1, 1) := by decide +kernel
theorem dX9_rule_13 : decode cX9_rule 13 = .ok (.bipush 109, 2) := by decide +kernel
theorem dX9_rule_15 : decode cX9_rule 15 = .ok (.if_icmp .ne 7, 3) := by decide +kernel
theorem dX9_rule_18 : decode cX9_rule 18 = .ok (.iconst 1, 1) := by decide +kernel
theorem dX9_rule_19 : decode cX9_rule 19 = .ok (.goto 4, 3) := by decide +kernel
theorem dX9_rule_22 : decode cX9_rule 22 = .ok (.iconst 0, 1) := by decide +kernel
theorem dX9_rule_23 : decode cX9_rule 23 = .ok (.istore_n 3, 1) := by decide +kernel
theorem dX9_rule_24 : decode cX9_rule 24 = .ok (.iload_n 3, 1) := by decide +kernel
theorem dX9_rule_25 : decode cX9_rule 25 = .ok (.ifCond .ne 9, 3) := by decide +kernel
theorem dX9_rule_28 : decode cX9_rule 28 = .ok (.iload_n 1, 1) := by decide +kernel
theorem dX9_rule_29 : decode cX9_rule 29 = .ok (.bipush 99, 2) := by decide +kernel
theorem dX9_rule_31 : decode cX9_rule 31 = .ok (.if_icmp .ne 30, 3) := by decide +kernel
theorem dX9_rule_34 : decode cX9_rule 34 = .ok (.iload_n 3, 1) := by decide +kernel
theorem dX9_rule_35 : decode cX9_rule 35 = .ok (.ifCond .eq 12, 3) := by decide +kernel
theorem dX9_rule_38 : decode cX9_rule 38 = .ok (.iload_n 2, 1) := by decide +kernel
theorem dX9_rule_39 : decode cX9_rule 39 = .ok (.ifCond .eq 8, 3) := by decide +kernel
theorem dX9_rule_42 : decode cX9_rule 42 = .ok (.iload_n 2, 1) := by decide +kernel
theorem dX9_rule_43 : decode cX9_rule 43 = .ok (.iconst 1, 1) := by decide +kernel
theorem dX9_rule_44 : decode cX9_rule 44 = .ok (.if_icmp .ne 17, 3) := by decide +kernel
theorem dX9_rule_47 : decode cX9_rule 47 = .ok (.iload_n 3, 1) := by decide +kernel
theorem dX9_rule_48 : decode cX9_rule 48 = .ok (.ifCond .ne 19, 3) := by decide +kernel
theorem dX9_rule_51 : decode cX9_rule 51 = .ok (.iload_n 2, 1) := by decide +kernel
theorem dX9_rule_52 : decode cX9_rule 52 = .ok (.iconst 2, 1) := by decide +kernel
theorem dX9_rule_53 : decode cX9_rule 53 = .ok (.if_icmp .eq 14, 3) := by decide +kernel
theorem dX9_rule_56 : decode cX9_rule 56 = .ok (.iload_n 2, 1) := by decide +kernel
theorem dX9_rule_57 : decode cX9_rule 57 = .ok (.iconst 3, 1) := by decide +kernel
theorem dX9_rule_58 : decode cX9_rule 58 = .ok (.if_icmp .eq 9, 3) := by decide +kernel
theorem dX9_rule_61 : decode cX9_rule 61 = .ok (.aload_n 0, 1) := by decide +kernel
theorem dX9_rule_62 : decode cX9_rule 62 = .ok (.iconst 1, 1) := by decide +kernel
theorem dX9_rule_63 : decode cX9_rule 63 = .ok (.invokevirtual 117, 3) := by decide +kernel
theorem dX9_rule_66 : decode cX9_rule 66 = .ok (.ireturn, 1) := by decide +kernel
theorem dX9_rule_67 : decode cX9_rule 67 = .ok (.aload_n 0, 1) := by decide +kernel
theorem dX9_rule_68 : decode cX9_rule 68 = .ok (.getfield 149, 3) := by decide +kernel
theorem dX9_rule_71 : decode cX9_rule 71 = .ok (.iconst 4, 1) := by decide +kernel
theorem dX9_rule_72 : decode cX9_rule 72 = .ok (.if_icmp .ne 9, 3) := by decide +kernel
theorem dX9_rule_75 : decode cX9_rule 75 = .ok (.aload_n 0, 1) := by decide +kernel
theorem dX9_rule_76 : decode cX9_rule 76 = .ok (.iconst 2, 1) := by decide +kernel
theorem dX9_rule_77 : decode cX9_rule 77 = .ok (.invokevirtual 117, 3) := by decide +kernel
theorem dX9_rule_80 : decode cX9_rule 80 = .ok (.ireturn, 1) := by decide +kernel
theorem dX9_rule_81 : decode cX9_rule 81 = .ok (.aload_n 0, 1) := by decide +kernel
theorem dX9_rule_82 : decode cX9_rule 82 = .ok (.iconst 0, 1) := by decide +kernel
theorem dX9_rule_83 : decode cX9_rule 83 = .ok (.putfield 97, 3) := by decide +kernel
theorem dX9_rule_86 : decode cX9_rule 86 = .ok (.aload_n 0, 1) := by decide +kernel
theorem dX9_rule_87 : decode cX9_rule 87 = .ok (.getfield 13, 3) := by decide +kernel
theorem dX9_rule_90 : decode cX9_rule 90 = .ok (.aload_n 0, 1) := by decide +kernel
theorem dX9_rule_91 : decode cX9_rule 91 = .ok (.getfield 149, 3) := by decide +kernel
theorem dX9_rule_94 : decode cX9_rule 94 = .ok (.iload_n 1, 1) := by decide +kernel
theorem dX9_rule_95 : decode cX9_rule 95 = .ok (.castore, 1) := by decide +kernel
theorem dX9_rule_96 : decode cX9_rule 96 = .ok (.aload_n 0, 1) := by decide +kernel
theorem dX9_rule_97 : decode cX9_rule 97 = .ok (.getfield 29, 3) := by decide +kernel
theorem dX9_rule_100 : decode cX9_rule 100 = .ok (.aload_n 0, 1) := by decide +kernel
theorem dX9_rule_101 : decode cX9_rule 101 = .ok (.getfield 149, 3) := by decide +kernel
theorem dX9_rule_104 : decode cX9_rule 104 = .ok (.iload_n 2, 1) := by decide +kernel
theorem dX9_rule_105 : decode cX9_rule 105 = .ok (.iastore, 1) := by decide +kernel
theorem dX9_rule_106 : decode cX9_rule 106 = .ok (.aload_n 0, 1) := by decide +kernel
theorem dX9_rule_107 : decode cX9_rule 107 = .ok (.invokevirtual 114, 3) := by decide +kernel
theorem dX9_rule_110 : decode cX9_rule 110 = .ok (.aload_n 0, 1) := by decide +kernel
theorem dX9_rule_111 : decode cX9_rule 111 = .ok (.dup, 1) := by decide +kernel
theorem dX9_rule_112 : decode cX9_rule 112 = .ok (.getfield 149, 3) := by decide +kernel
theorem dX9_rule_115 : decode cX9_rule 115 = .ok (.iconst 1, 1) := by decide +kernel
theorem dX9_rule_116 : decode cX9_rule 116 = .ok (.iadd, 1) := by decide +kernel
theorem dX9_rule_117 : decode cX9_rule 117 = .ok (.dup_x1, 1) := by decide +kernel
theorem dX9_rule_118 : decode cX9_rule 118 = .ok (.putfield 149, 3) := by decide +kernel
theorem dX9_rule_121 : decode cX9_rule 121 = .ok (.ireturn, 1) := by decide +kernel
theorem dX9_push_0 : decode cX9_push 0 = .ok (.aload_n 0, 1) := by decide +kernel
theorem dX9_push_1 : decode cX9_push 1 = .ok (.getfield 152, 3) := by decide +kernel
theorem dX9_push_4 : decode cX9_push 4 = .ok (.bipush 6, 2) := by decide +kernel
theorem dX9_push_6 : decode cX9_push 6 = .ok (.if_icmp .ne 9, 3) := by decide +kernel
theorem dX9_push_9 : decode cX9_push 9 = .ok (.aload_n 0, 1) := by decide +kernel
theorem dX9_push_10 : decode cX9_push 10 = .ok (.iconst 1, 1) := by decide +kernel
theorem dX9_push_11 : decode cX9_push 11 = .ok (.invokevirtual 117, 3) := by decide +kernel
theorem dX9_push_14 : decode cX9_push 14 = .ok (.ireturn, 1) := by decide +kernel
theorem dX9_push_15 : decode cX9_push 15 = .ok (.aload_n 0, 1) := by decide +kernel
theorem dX9_push_16 : decode cX9_push 16 = .ok (.iconst 0, 1) := by decide +kernel
theorem dX9_push_17 : decode cX9_push 17 = .ok (.putfield 97, 3) := by decide +kernel
theorem dX9_push_20 : decode cX9_push 20 = .ok (.aload_n 0, 1) := by decide +kernel
theorem dX9_push_21 : decode cX9_push 21 = .ok (.getfield 57, 3) := by decide +kernel
theorem dX9_push_24 : decode cX9_push 24 = .ok (.iconst 4, 1) := by decide +kernel
theorem dX9_push_25 : decode cX9_push 25 = .ok (.aload_n 0, 1) := by decide +kernel
theorem dX9_push_26 : decode cX9_push 26 = .ok (.getfield 152, 3) := by decide +kernel
theorem dX9_push_29 : decode cX9_push 29 = .ok (.imul, 1) := by decide +kernel
theorem dX9_push_30 : decode cX9_push 30 = .ok (.aload_n 0, 1) := by decide +kernel
theorem dX9_push_31 : decode cX9_push 31 = .ok (.getfield 101, 3) := by decide +kernel
theorem dX9_push_34 : decode cX9_push 34 = .ok (.iastore, 1) := by decide +kernel
theorem dX9_push_35 : decode cX9_push 35 = .ok (.aload_n 0, 1) := by decide +kernel
theorem dX9_push_36 : decode cX9_push 36 = .ok (.getfield 57, 3) := by decide +kernel
theorem dX9_push_39 : decode cX9_push 39 = .ok (.iconst 4, 1) := by decide +kernel
theorem dX9_push_40 : decode cX9_push 40 = .ok (.aload_n 0, 1) := by decide +kernel
theorem dX9_push_41 : decode cX9_push 41 = .ok (.getfield 152, 3) := by decide +kernel
theorem dX9_push_44 : decode cX9_push 44 = .ok (.imul, 1) := by decide +kernel
theorem dX9_push_45 : decode cX9_push 45 = .ok (.iconst 1, 1) := by decide +kernel
theorem dX9_push_46 : decode cX9_push 46 = .ok (.iadd, 1) := by decide +kernel
theorem dX9_push_47 : decode cX9_push 47 = .ok (.aload_n 0, 1) := by decide +kernel
theorem dX9_push_48 : decode cX9_push 48 = .ok (.getfield 136, 3) := by decide +kernel
theorem dX9_push_51 : decode cX9_push 51 = .ok (.iastore, 1) := by decide +kernel
theorem dX9_push_52 : decode cX9_push 52 = .ok (.aload_n 0, 1) := by decide +kernel
theorem dX9_push_53 : decode cX9_push 53 = .ok (.getfield 57, 3) := by decide +kernel
theorem dX9_push_56 : decode cX9_push 56 = .ok (.iconst 4, 1) := by decide +kernel
theorem dX9_push_57 : decode cX9_push 57 = .ok (.aload_n 0, 1) := by decide +kernel
theorem dX9_push_58 : decode cX9_push 58 = .ok (.getfield 152, 3) := by decide +kernel
theorem dX9_push_61 : decode cX9_push 61 = .ok (.imul, 1) := by decide +kernel
theorem dX9_push_62 : decode cX9_push 62 = .ok (.iconst 2, 1) := by decide +kernel
theorem dX9_push_63 : decode cX9_push 63 = .ok (.iadd, 1) := by decide +kernel
theorem dX9_push_64 : decode cX9_push 64 = .ok (.aload_n 0, 1) := by decide +kernel
theorem dX9_push_65 : decode cX9_push 65 = .ok (.getfield 146, 3) := by decide +kernel
theorem dX9_push_68 : decode cX9_push 68 = .ok (.iastore, 1) := by decide +kernel
theorem dX9_push_69 : decode cX9_push 69 = .ok (.aload_n 0, 1) := by decide +kernel
theorem dX9_push_70 : decode cX9_push 70 = .ok (.getfield 57, 3) := by decide +kernel
theorem dX9_push_73 : decode cX9_push 73 = .ok (.iconst 4, 1) := by decide +kernel
theorem dX9_push_74 : decode cX9_push 74 = .ok (.aload_n 0, 1) := by decide +kernel
theorem dX9_push_75 : decode cX9_push 75 = .ok (.getfield 152, 3) := by decide +kernel
theorem dX9_push_78 : decode cX9_push 78 = .ok (.imul, 1) := by decide +kernel
theorem dX9_push_79 : decode cX9_push 79 = .ok (.iconst 3, 1) := by decide +kernel
theorem dX9_push_80 : decode cX9_push 80 = .ok (.iadd, 1) := by decide +kernel
theorem dX9_push_81 : decode cX9_push 81 = .ok (.aload_n 0, 1) := by decide +kernel
theorem dX9_push_82 : decode cX9_push 82 = .ok (.getfield 149, 3) := by decide +kernel
theorem dX9_push_85 : decode cX9_push 85 = .ok (.iastore, 1) := by decide +kernel
theorem dX9_push_86 : decode cX9_push 86 = .ok (.aload_n 0, 1) := by decide +kernel
theorem dX9_push_87 : decode cX9_push 87 = .ok (.dup, 1) := by decide +kernel
theorem dX9_push_88 : decode cX9_push 88 = .ok (.getfield 152, 3) := by decide +kernel
theorem dX9_push_91 : decode cX9_push 91 = .ok (.iconst 1, 1) := by decide +kernel
theorem dX9_push_92 : decode cX9_push 92 = .ok (.iadd, 1) := by decide +kernel
theorem dX9_push_93 : decode cX9_push 93 = .ok (.dup_x1, 1) := by decide +kernel
theorem dX9_push_94 : decode cX9_push 94 = .ok (.putfield 152, 3) := by decide +kernel
theorem dX9_push_97 : decode cX9_push 97 = .ok (.ireturn, 1) := by decide +kernel
theorem dX9_pop_0 : decode cX9_pop 0 = .ok (.aload_n 0, 1) := by decide +kernel
theorem dX9_pop_1 : decode cX9_pop 1 = .ok (.getfield 152, 3) := by decide +kernel
theorem dX9_pop_4 : decode cX9_pop 4 = .ok (.ifCond .ne 9, 3) := by decide +kernel
theorem dX9_pop_7 : decode cX9_pop 7 = .ok (.aload_n 0, 1) := by decide +kernel
theorem dX9_pop_8 : decode cX9_pop 8 = .ok (.iconst 1, 1) := by decide +kernel
theorem dX9_pop_9 : decode cX9_pop 9 = .ok (.invokevirtual 117, 3) := by decide +kernel
theorem dX9_pop_12 : decode cX9_pop 12 = .ok (.ireturn, 1) := by decide +kernel
theorem dX9_pop_13 : decode cX9_pop 13 = .ok (.aload_n 0, 1) := by decide +kernel
theorem dX9_pop_14 : decode cX9_pop 14 = .ok (.iconst 0, 1) := by decide +kernel
theorem dX9_pop_15 : decode cX9_pop 15 = .ok (.putfield 97, 3) := by decide +kernel
theorem dX9_pop_18 : decode cX9_pop 18 = .ok (.aload_n 0, 1) := by decide +kernel
theorem dX9_pop_19 : decode cX9_pop 19 = .ok (.dup, 1) := by decide +kernel
theorem dX9_pop_20 : decode cX9_pop 20 = .ok (.getfield 152, 3) := by decide +kernel
theorem dX9_pop_23 : decode cX9_pop 23 = .ok (.iconst 1, 1) := by decide +kernel
theorem dX9_pop_24 : decode cX9_pop 24 = .ok (.isub, 1) := by decide +kernel
theorem dX9_pop_25 : decode cX9_pop 25 = .ok (.putfield 152, 3) := by decide +kernel
theorem dX9_pop_28 : decode cX9_pop 28 = .ok (.aload_n 0, 1) := by decide +kernel
theorem dX9_pop_29 : decode cX9_pop 29 = .ok (.aload_n 0, 1) := by decide +kernel
theorem dX9_pop_30 : decode cX9_pop 30 = .ok (.getfield 57, 3) := by decide +kernel
theorem dX9_pop_33 : decode cX9_pop 33 = .ok (.iconst 4, 1) := by decide +kernel
theorem dX9_pop_34 : decode cX9_pop 34 = .ok (.aload_n 0, 1) := by decide +kernel
theorem dX9_pop_35 : decode cX9_pop 35 = .ok (.getfield 152, 3) := by decide +kernel
theorem dX9_pop_38 : decode cX9_pop 38 = .ok (.imul, 1) := by decide +kernel
theorem dX9_pop_39 : decode cX9_pop 39 = .ok (.iaload, 1) := by decide +kernel
theorem dX9_pop_40 : decode cX9_pop 40 = .ok (.putfield 101, 3) := by decide +kernel
theorem dX9_pop_43 : decode cX9_pop 43 = .ok (.aload_n 0, 1) := by decide +kernel
theorem dX9_pop_44 : decode cX9_pop 44 = .ok (.aload_n 0, 1) := by decide +kernel
theorem dX9_pop_45 : decode cX9_pop 45 = .ok (.getfield 57, 3) := by decide +kernel
theorem dX9_pop_48 : decode cX9_pop 48 = .ok (.iconst 4, 1) := by decide +kernel
theorem dX9_pop_49 : decode cX9_pop 49 = .ok (.aload_n 0, 1) := by decide +kernel
theorem dX9_pop_50 : decode cX9_pop 50 = .ok (.getfield 152, 3) := by decide +kernel
theorem dX9_pop_53 : decode cX9_pop 53 = .ok (.imul, 1) := by decide +kernel
theorem dX9_pop_54 : decode cX9_pop 54 = .ok (.iconst 1, 1) := by decide +kernel
theorem dX9_pop_55 : decode cX9_pop 55 = .ok (.iadd, 1) := by decide +kernel
theorem dX9_pop_56 : decode cX9_pop 56 = .ok (.iaload, 1) := by decide +kernel
theorem dX9_pop_57 : decode cX9_pop 57 = .ok (.putfield 136, 3) := by decide +kernel
theorem dX9_pop_60 : decode cX9_pop 60 = .ok (.aload_n 0, 1) := by decide +kernel
theorem dX9_pop_61 : decode cX9_pop 61 = .ok (.aload_n 0, 1) := by decide +kernel
theorem dX9_pop_62 : decode cX9_pop 62 = .ok (.getfield 57, 3) := by decide +kernel
theorem dX9_pop_65 : decode cX9_pop 65 = .ok (.iconst 4, 1) := by decide +kernel
theorem dX9_pop_66 : decode cX9_pop 66 = .ok (.aload_n 0, 1) := by decide +kernel
theorem dX9_pop_67 : decode cX9_pop 67 = .ok (.getfield 152, 3) := by decide +kernel
theorem dX9_pop_70 : decode cX9_pop 70 = .ok (.imul, 1) := by decide +kernel
theorem dX9_pop_71 : decode cX9_pop 71 = .ok (.iconst 2, 1) := by decide +kernel
theorem dX9_pop_72 : decode cX9_pop 72 = .ok (.iadd, 1) := by decide +kernel
theorem dX9_pop_73 : decode cX9_pop 73 = .ok (.iaload, 1) := by decide +kernel
theorem dX9_pop_74 : decode cX9_pop 74 = .ok (.putfield 146, 3) := by decide +kernel
theorem dX9_pop_77 : decode cX9_pop 77 = .ok (.aload_n 0, 1) := by decide +kernel
theorem dX9_pop_78 : decode cX9_pop 78 = .ok (.aload_n 0, 1) := by decide +kernel
theorem dX9_pop_79 : decode cX9_pop 79 = .ok (.getfield 57, 3) := by decide +kernel
theorem dX9_pop_82 : decode cX9_pop 82 = .ok (.iconst 4, 1) := by decide +kernel
theorem dX9_pop_83 : decode cX9_pop 83 = .ok (.aload_n 0, 1) := by decide +kernel
theorem dX9_pop_84 : decode cX9_pop 84 = .ok (.getfield 152, 3) := by decide +kernel
theorem dX9_pop_87 : decode cX9_pop 87 = .ok (.imul, 1) := by decide +kernel
theorem dX9_pop_88 : decode cX9_pop 88 = .ok (.iconst 3, 1) := by decide +kernel
theorem dX9_pop_89 : decode cX9_pop 89 = .ok (.iadd, 1) := by decide +kernel
theorem dX9_pop_90 : decode cX9_pop 90 = .ok (.iaload, 1) := by decide +kernel
theorem dX9_pop_91 : decode cX9_pop 91 = .ok (.putfield 149, 3) := by decide +kernel
theorem dX9_pop_94 : decode cX9_pop 94 = .ok (.aload_n 0, 1) := by decide +kernel
theorem dX9_pop_95 : decode cX9_pop 95 = .ok (.invokevirtual 114, 3) := by decide +kernel
theorem dX9_pop_98 : decode cX9_pop 98 = .ok (.aload_n 0, 1) := by decide +kernel
theorem dX9_pop_99 : decode cX9_pop 99 = .ok (.getfield 146, 3) := by decide +kernel
theorem dX9_pop_102 : decode cX9_pop 102 = .ok (.ireturn, 1) := by decide +kernel
theorem dX9_lit_0 : decode cX9_lit 0 = .ok (.aload_n 0, 1) := by decide +kernel
theorem dX9_lit_1 : decode cX9_lit 1 = .ok (.getfield 60, 3) := by decide +kernel
theorem dX9_lit_4 : decode cX9_lit 4 = .ok (.aload_n 0, 1) := by decide +kernel
theorem dX9_lit_5 : decode cX9_lit 5 = .ok (.getfield 155, 3) := by decide +kernel
theorem dX9_lit_8 : decode cX9_lit 8 = .ok (.iload_n 1, 1) := by decide +kernel
theorem dX9_lit_9 : decode cX9_lit 9 = .ok (.iastore, 1) := by decide +kernel
theorem dX9_lit_10 : decode cX9_lit 10 = .ok (.aload_n 0, 1) := by decide +kernel
theorem dX9_lit_11 : decode cX9_lit 11 = .ok (.getfield 63, 3) := by decide +kernel
theorem dX9_lit_14 : decode cX9_lit 14 = .ok (.aload_n 0, 1) := by decide +kernel
theorem dX9_lit_15 : decode cX9_lit 15 = .ok (.getfield 155, 3) := by decide +kernel
theorem dX9_lit_18 : decode cX9_lit 18 = .ok (.iload_n 2, 1) := by decide +kernel
theorem dX9_lit_19 : decode cX9_lit 19 = .ok (.iastore, 1) := by decide +kernel
theorem dX9_lit_20 : decode cX9_lit 20 = .ok (.aload_n 0, 1) := by decide +kernel
theorem dX9_lit_21 : decode cX9_lit 21 = .ok (.getfield 66, 3) := by decide +kernel
theorem dX9_lit_24 : decode cX9_lit 24 = .ok (.aload_n 0, 1) := by decide +kernel
theorem dX9_lit_25 : decode cX9_lit 25 = .ok (.getfield 155, 3) := by decide +kernel
theorem dX9_lit_28 : decode cX9_lit 28 = .ok (.iload_n 3, 1) := by decide +kernel
theorem dX9_lit_29 : decode cX9_lit 29 = .ok (.iastore, 1) := by decide +kernel
theorem dX9_lit_30 : decode cX9_lit 30 = .ok (.aload_n 0, 1) := by decide +kernel
theorem dX9_lit_31 : decode cX9_lit 31 = .ok (.dup, 1) := by decide +kernel
theorem dX9_lit_32 : decode cX9_lit 32 = .ok (.getfield 155, 3) := by decide +kernel
theorem dX9_lit_35 : decode cX9_lit 35 = .ok (.iconst 1, 1) := by decide +kernel
theorem dX9_lit_36 : decode cX9_lit 36 = .ok (.iadd, 1) := by decide +kernel
theorem dX9_lit_37 : decode cX9_lit 37 = .ok (.putfield 155, 3) := by decide +kernel
theorem dX9_lit_40 : decode cX9_lit 40 = .ok (.return_, 1) := by decide +kernel
theorem dX9_unlike_0 : decode cX9_unlike 0 = .ok (.aload_n 0, 1) := by decide +kernel
theorem dX9_unlike_1 : decode cX9_unlike 1 = .ok (.iload_n 1, 1) := by decide +kernel
theorem dX9_unlike_2 : decode cX9_unlike 2 = .ok (.iload_n 2, 1) := by decide +kernel
theorem dX9_unlike_3 : decode cX9_unlike 3 = .ok (.iconst (-1), 1) := by decide +kernel
theorem dX9_unlike_4 : decode cX9_unlike 4 = .ok (.invokevirtual 158, 3) := by decide +kernel
theorem dX9_unlike_7 : decode cX9_unlike 7 = .ok (.aload_n 0, 1) := by decide +kernel
theorem dX9_unlike_8 : decode cX9_unlike 8 = .ok (.iload_n 2, 1) := by decide +kernel
theorem dX9_unlike_9 : decode cX9_unlike 9 = .ok (.iload_n 1, 1) := by decide +kernel
theorem dX9_unlike_10 : decode cX9_unlike 10 = .ok (.iconst (-1), 1) := by decide +kernel
theorem dX9_unlike_11 : decode cX9_unlike 11 = .ok (.invokevirtual 158, 3) := by decide +kernel
theorem dX9_unlike_14 : decode cX9_unlike 14 = .ok (.return_, 1) := by decide +kernel
theorem dX9_ends_0 : decode cX9_ends 0 = .ok (.aload_n 0, 1) := by decide +kernel
theorem dX9_ends_1 : decode cX9_ends 1 = .ok (.dup, 1) := by decide +kernel
theorem dX9_ends_2 : decode cX9_ends 2 = .ok (.getfield 162, 3) := by decide +kernel
theorem dX9_ends_5 : decode cX9_ends 5 = .ok (.iconst 1, 1) := by decide +kernel
theorem dX9_ends_6 : decode cX9_ends 6 = .ok (.iadd, 1) := by decide +kernel
theorem dX9_ends_7 : decode cX9_ends 7 = .ok (.putfield 162, 3) := by decide +kernel
theorem dX9_ends_10 : decode cX9_ends 10 = .ok (.aload_n 0, 1) := by decide +kernel
theorem dX9_ends_11 : decode cX9_ends 11 = .ok (.getfield 69, 3) := by decide +kernel
theorem dX9_ends_14 : decode cX9_ends 14 = .ok (.aload_n 0, 1) := by decide +kernel
theorem dX9_ends_15 : decode cX9_ends 15 = .ok (.getfield 162, 3) := by decide +kernel
theorem dX9_ends_18 : decode cX9_ends 18 = .ok (.aload_n 0, 1) := by decide +kernel
theorem dX9_ends_19 : decode cX9_ends 19 = .ok (.getfield 155, 3) := by decide +kernel
theorem dX9_ends_22 : decode cX9_ends 22 = .ok (.iastore, 1) := by decide +kernel
theorem dX9_ends_23 : decode cX9_ends 23 = .ok (.return_, 1) := by decide +kernel
theorem dX9_literal_0 : decode cX9_literal 0 = .ok (.iload_n 1, 1) := by decide +kernel
theorem dX9_literal_1 : decode cX9_literal 1 = .ok (.iconst 2, 1) := by decide +kernel
theorem dX9_literal_2 : decode cX9_literal 2 = .ok (.idiv, 1) := by decide +kernel
theorem dX9_literal_3 : decode cX9_literal 3 = .ok (.istore_n 2, 1) := by decide +kernel
theorem dX9_literal_4 : decode cX9_literal 4 = .ok (.iload_n 1, 1) := by decide +kernel
theorem dX9_literal_5 : decode cX9_literal 5 = .ok (.iconst 2, 1) := by decide +kernel
theorem dX9_literal_6 : decode cX9_literal 6 = .ok (.irem, 1) := by decide +kernel
theorem dX9_literal_7 : decode cX9_literal 7 = .ok (.ifCond .ne 42, 3) := by decide +kernel
theorem dX9_literal_10 : decode cX9_literal 10 = .ok (.aload_n 0, 1) := by decide +kernel
theorem dX9_literal_11 : decode cX9_literal 11 = .ok (.aload_n 0, 1) := by decide +kernel
theorem dX9_literal_12 : decode cX9_literal 12 = .ok (.getfield 32, 3) := by decide +kernel
theorem dX9_literal_15 : decode cX9_literal 15 = .ok (.iload_n 2, 1) := by decide +kernel
theorem dX9_literal_16 : decode cX9_literal 16 = .ok (.iaload, 1) := by decide +kernel
theorem dX9_literal_17 : decode cX9_literal 17 = .ok (.aload_n 0, 1) := by decide +kernel
theorem dX9_literal_18 : decode cX9_literal 18 = .ok (.getfield 35, 3) := by decide +kernel
theorem dX9_literal_21 : decode cX9_literal 21 = .ok (.iload_n 2, 1) := by decide +kernel
theorem dX9_literal_22 : decode cX9_literal 22 = .ok (.iaload, 1) := by decide +kernel
theorem dX9_literal_23 : decode cX9_literal 23 = .ok (.aload_n 0, 1) := by decide +kernel
theorem dX9_literal_24 : decode cX9_literal 24 = .ok (.getfield 41, 3) := by decide +kernel
theorem dX9_literal_27 : decode cX9_literal 27 = .ok (.iload_n 2, 1) := by decide +kernel
theorem dX9_literal_28 : decode cX9_literal 28 = .ok (.baload, 1) := by decide +kernel
theorem dX9_literal_29 : decode cX9_literal 29 = .ok (.ifCond .eq 8, 3) := by decide +kernel
theorem dX9_literal_32 : decode cX9_literal 32 = .ok (.ldc 165, 2) := by decide +kernel
theorem dX9_literal_34 : decode cX9_literal 34 = .ok (.goto 9, 3) := by decide +kernel
theorem dX9_literal_37 : decode cX9_literal 37 = .ok (.aload_n 0, 1) := by decide +kernel
theorem dX9_literal_38 : decode cX9_literal 38 = .ok (.getfield 38, 3) := by decide +kernel
theorem dX9_literal_41 : decode cX9_literal 41 = .ok (.iload_n 2, 1) := by decide +kernel
theorem dX9_literal_42 : decode cX9_literal 42 = .ok (.iaload, 1) := by decide +kernel
theorem dX9_literal_43 : decode cX9_literal 43 = .ok (.invokevirtual 158, 3) := by decide +kernel
theorem dX9_literal_46 : decode cX9_literal 46 = .ok (.goto 56, 3) := by decide +kernel
theorem dX9_literal_49 : decode cX9_literal 49 = .ok (.aload_n 0, 1) := by decide +kernel
theorem dX9_literal_50 : decode cX9_literal 50 = .ok (.getfield 41, 3) := by decide +kernel
theorem dX9_literal_53 : decode cX9_literal 53 = .ok (.iload_n 2, 1) := by decide +kernel
theorem dX9_literal_54 : decode cX9_literal 54 = .ok (.baload, 1) := by decide +kernel
theorem dX9_literal_55 : decode cX9_literal 55 = .ok (.ifCond .eq 22, 3) := by decide +kernel
theorem dX9_literal_58 : decode cX9_literal 58 = .ok (.aload_n 0, 1) := by decide +kernel
theorem dX9_literal_59 : decode cX9_literal 59 = .ok (.aload_n 0, 1) := by decide +kernel
theorem dX9_literal_60 : decode cX9_literal 60 = .ok (.getfield 32, 3) := by decide +kernel
theorem dX9_literal_63 : decode cX9_literal 63 = .ok (.iload_n 2, 1) := by decide +kernel
theorem dX9_literal_64 : decode cX9_literal 64 = .ok (.iaload, 1) := by decide +kernel
theorem dX9_literal_65 : decode cX9_literal 65 = .ok (.aload_n 0, 1) := by decide +kernel
theorem dX9_literal_66 : decode cX9_literal 66 = .ok (.getfield 35, 3) := by decide +kernel
theorem dX9_literal_69 : decode cX9_literal 69 = .ok (.iload_n 2, 1) := by decide +kernel
theorem dX9_literal_70 : decode cX9_literal 70 = .ok (.iaload, 1) := by decide +kernel
theorem dX9_literal_71 : decode cX9_literal 71 = .ok (.invokevirtual 166, 3) := by decide +kernel
theorem dX9_literal_74 : decode cX9_literal 74 = .ok (.goto 28, 3) := by decide +kernel
theorem dX9_literal_77 : decode cX9_literal 77 = .ok (.aload_n 0, 1) := by decide +kernel
theorem dX9_literal_78 : decode cX9_literal 78 = .ok (.aload_n 0, 1) := by decide +kernel
theorem dX9_literal_79 : decode cX9_literal 79 = .ok (.getfield 35, 3) := by decide +kernel
theorem dX9_literal_82 : decode cX9_literal 82 = .ok (.iload_n 2, 1) := by decide +kernel
theorem dX9_literal_83 : decode cX9_literal 83 = .ok (.iaload, 1) := by decide +kernel
theorem dX9_literal_84 : decode cX9_literal 84 = .ok (.aload_n 0, 1) := by decide +kernel
theorem dX9_literal_85 : decode cX9_literal 85 = .ok (.getfield 32, 3) := by decide +kernel
theorem dX9_literal_88 : decode cX9_literal 88 = .ok (.iload_n 2, 1) := by decide +kernel
theorem dX9_literal_89 : decode cX9_literal 89 = .ok (.iaload, 1) := by decide +kernel
theorem dX9_literal_90 : decode cX9_literal 90 = .ok (.aload_n 0, 1) := by decide +kernel
theorem dX9_literal_91 : decode cX9_literal 91 = .ok (.getfield 38, 3) := by decide +kernel
theorem dX9_literal_94 : decode cX9_literal 94 = .ok (.iload_n 2, 1) := by decide +kernel
theorem dX9_literal_95 : decode cX9_literal 95 = .ok (.iaload, 1) := by decide +kernel
theorem dX9_literal_96 : decode cX9_literal 96 = .ok (.ineg, 1) := by decide +kernel
theorem dX9_literal_97 : decode cX9_literal 97 = .ok (.iconst 1, 1) := by decide +kernel
theorem dX9_literal_98 : decode cX9_literal 98 = .ok (.isub, 1) := by decide +kernel
theorem dX9_literal_99 : decode cX9_literal 99 = .ok (.invokevirtual 158, 3) := by decide +kernel
theorem dX9_literal_102 : decode cX9_literal 102 = .ok (.return_, 1) := by decide +kernel
theorem dX9_functions_0 : decode cX9_functions 0 = .ok (.iconst 0, 1) := by decide +kernel
theorem dX9_functions_1 : decode cX9_functions 1 = .ok (.istore_n 1, 1) := by decide +kernel
theorem dX9_functions_2 : decode cX9_functions 2 = .ok (.iload_n 1, 1) := by decide +kernel
theorem dX9_functions_3 : decode cX9_functions 3 = .ok (.aload_n 0, 1) := by decide +kernel
theorem dX9_functions_4 : decode cX9_functions 4 = .ok (.getfield 101, 3) := by decide +kernel
theorem dX9_functions_7 : decode cX9_functions 7 = .ok (.if_icmp .ge 116, 3) := by decide +kernel
theorem dX9_functions_10 : decode cX9_functions 10 = .ok (.iconst 0, 1) := by decide +kernel
theorem dX9_functions_11 : decode cX9_functions 11 = .ok (.istore_n 2, 1) := by decide +kernel
theorem dX9_functions_12 : decode cX9_functions 12 = .ok (.iload_n 2, 1) := by decide +kernel
theorem dX9_functions_13 : decode cX9_functions 13 = .ok (.iload_n 1, 1) := by decide +kernel
theorem dX9_functions_14 : decode cX9_functions 14 = .ok (.if_icmp .ge 103, 3) := by decide +kernel
theorem dX9_functions_17 : decode cX9_functions 17 = .ok (.aload_n 0, 1) := by decide +kernel
theorem dX9_functions_18 : decode cX9_functions 18 = .ok (.getfield 7, 3) := by decide +kernel
theorem dX9_functions_21 : decode cX9_functions 21 = .ok (.iload_n 1, 1) := by decide +kernel
theorem dX9_functions_22 : decode cX9_functions 22 = .ok (.caload, 1) := by decide +kernel
theorem dX9_functions_23 : decode cX9_functions 23 = .ok (.bipush 102, 2) := by decide +kernel
theorem dX9_functions_25 : decode cX9_functions 25 = .ok (.if_icmp .ne 86, 3) := by decide +kernel
theorem dX9_functions_28 : decode cX9_functions 28 = .ok (.aload_n 0, 1) := by decide +kernel
theorem dX9_functions_29 : decode cX9_functions 29 = .ok (.getfield 7, 3) := by decide +kernel
theorem dX9_functions_32 : decode cX9_functions 32 = .ok (.iload_n 2, 1) := by decide +kernel
theorem dX9_functions_33 : decode cX9_functions 33 = .ok (.caload, 1) := by decide +kernel
theorem dX9_functions_34 : decode cX9_functions 34 = .ok (.bipush 102, 2) := by decide +kernel
theorem dX9_functions_36 : decode cX9_functions 36 = .ok (.if_icmp .ne 75, 3) := by decide +kernel
theorem dX9_functions_39 : decode cX9_functions 39 = .ok (.aload_n 0, 1) := by decide +kernel
theorem dX9_functions_40 : decode cX9_functions 40 = .ok (.getfield 16, 3) := by decide +kernel
theorem dX9_functions_43 : decode cX9_functions 43 = .ok (.iload_n 1, 1) := by decide +kernel
theorem dX9_functions_44 : decode cX9_functions 44 = .ok (.iaload, 1) := by decide +kernel
theorem dX9_functions_45 : decode cX9_functions 45 = .ok (.aload_n 0, 1) := by decide +kernel
theorem dX9_functions_46 : decode cX9_functions 46 = .ok (.getfield 16, 3) := by decide +kernel
theorem dX9_functions_49 : decode cX9_functions 49 = .ok (.iload_n 2, 1) := by decide +kernel
theorem dX9_functions_50 : decode cX9_functions 50 = .ok (.iaload, 1) := by decide +kernel
theorem dX9_functions_51 : decode cX9_functions 51 = .ok (.if_icmp .eq 6, 3) := by decide +kernel
theorem dX9_functions_54 : decode cX9_functions 54 = .ok (.goto 57, 3) := by decide +kernel
theorem dX9_functions_57 : decode cX9_functions 57 = .ok (.aload_n 0, 1) := by decide +kernel
theorem dX9_functions_58 : decode cX9_functions 58 = .ok (.aload_n 0, 1) := by decide +kernel
theorem dX9_functions_59 : decode cX9_functions 59 = .ok (.getfield 20, 3) := by decide +kernel
theorem dX9_functions_62 : decode cX9_functions 62 = .ok (.iload_n 1, 1) := by decide +kernel
theorem dX9_functions_63 : decode cX9_functions 63 = .ok (.iaload, 1) := by decide +kernel
theorem dX9_functions_64 : decode cX9_functions 64 = .ok (.aload_n 0, 1) := by decide +kernel
theorem dX9_functions_65 : decode cX9_functions 65 = .ok (.getfield 20, 3) := by decide +kernel
theorem dX9_functions_68 : decode cX9_functions 68 = .ok (.iload_n 2, 1) := by decide +kernel
theorem dX9_functions_69 : decode cX9_functions 69 = .ok (.iaload, 1) := by decide +kernel
theorem dX9_functions_70 : decode cX9_functions 70 = .ok (.invokevirtual 166, 3) := by decide +kernel
theorem dX9_functions_73 : decode cX9_functions 73 = .ok (.aload_n 0, 1) := by decide +kernel
theorem dX9_functions_74 : decode cX9_functions 74 = .ok (.getfield 16, 3) := by decide +kernel
theorem dX9_functions_77 : decode cX9_functions 77 = .ok (.iload_n 1, 1) := by decide +kernel
theorem dX9_functions_78 : decode cX9_functions 78 = .ok (.iaload, 1) := by decide +kernel
theorem dX9_functions_79 : decode cX9_functions 79 = .ok (.iconst 2, 1) := by decide +kernel
theorem dX9_functions_80 : decode cX9_functions 80 = .ok (.if_icmp .lt 19, 3) := by decide +kernel
theorem dX9_functions_83 : decode cX9_functions 83 = .ok (.aload_n 0, 1) := by decide +kernel
theorem dX9_functions_84 : decode cX9_functions 84 = .ok (.aload_n 0, 1) := by decide +kernel
theorem dX9_functions_85 : decode cX9_functions 85 = .ok (.getfield 23, 3) := by decide +kernel
theorem dX9_functions_88 : decode cX9_functions 88 = .ok (.iload_n 1, 1) := by decide +kernel
theorem dX9_functions_89 : decode cX9_functions 89 = .ok (.iaload, 1) := by decide +kernel
theorem dX9_functions_90 : decode cX9_functions 90 = .ok (.aload_n 0, 1) := by decide +kernel
theorem dX9_functions_91 : decode cX9_functions 91 = .ok (.getfield 23, 3) := by decide +kernel
theorem dX9_functions_94 : decode cX9_functions 94 = .ok (.iload_n 2, 1) := by decide +kernel
theorem dX9_functions_95 : decode cX9_functions 95 = .ok (.iaload, 1) := by decide +kernel
theorem dX9_functions_96 : decode cX9_functions 96 = .ok (.invokevirtual 166, 3) := by decide +kernel
theorem dX9_functions_99 : decode cX9_functions 99 = .ok (.aload_n 0, 1) := by decide +kernel
theorem dX9_functions_100 : decode cX9_functions 100 = .ok (.iload_n 1, 1) := by decide +kernel
theorem dX9_functions_101 : decode cX9_functions 101 = .ok (.iload_n 2, 1) := by decide +kernel
theorem dX9_functions_102 : decode cX9_functions 102 = .ok (.ldc 165, 2) := by decide +kernel
theorem dX9_functions_104 : decode cX9_functions 104 = .ok (.invokevirtual 158, 3) := by decide +kernel
theorem dX9_functions_107 : decode cX9_functions 107 = .ok (.aload_n 0, 1) := by decide +kernel
theorem dX9_functions_108 : decode cX9_functions 108 = .ok (.invokevirtual 170, 3) := by decide +kernel
theorem dX9_functions_111 : decode cX9_functions 111 = .ok (.iinc 2 1, 3) := by decide +kernel
theorem dX9_functions_114 : decode cX9_functions 114 = .ok (.goto (-102), 3) := by decide +kernel
theorem dX9_functions_117 : decode cX9_functions 117 = .ok (.iinc 1 1, 3) := by decide +kernel
theorem dX9_functions_120 : decode cX9_functions 120 = .ok (.goto (-118), 3) := by decide +kernel
theorem dX9_functions_123 : decode cX9_functions 123 = .ok (.return_, 1) := by decide +kernel
theorem dX9_rules_0 : decode cX9_rules 0 = .ok (.iconst 0, 1) := by decide +kernel
theorem dX9_rules_1 : decode cX9_rules 1 = .ok (.istore_n 1, 1) := by decide +kernel
theorem dX9_rules_2 : decode cX9_rules 2 = .ok (.iload_n 1, 1) := by decide +kernel
theorem dX9_rules_3 : decode cX9_rules 3 = .ok (.aload_n 0, 1) := by decide +kernel
theorem dX9_rules_4 : decode cX9_rules 4 = .ok (.getfield 149, 3) := by decide +kernel
theorem dX9_rules_7 : decode cX9_rules 7 = .ok (.if_icmp .ge 277, 3) := by decide +kernel
theorem dX9_rules_10 : decode cX9_rules 10 = .ok (.iconst 0, 1) := by decide +kernel
theorem dX9_rules_11 : decode cX9_rules 11 = .ok (.istore_n 2, 1) := by decide +kernel
theorem dX9_rules_12 : decode cX9_rules 12 = .ok (.iload_n 2, 1) := by decide +kernel
theorem dX9_rules_13 : decode cX9_rules 13 = .ok (.aload_n 0, 1) := by decide +kernel
theorem dX9_rules_14 : decode cX9_rules 14 = .ok (.getfield 101, 3) := by decide +kernel
theorem dX9_rules_17 : decode cX9_rules 17 = .ok (.if_icmp .ge 261, 3) := by decide +kernel
theorem dX9_rules_20 : decode cX9_rules 20 = .ok (.iconst 0, 1) := by decide +kernel
theorem dX9_rules_21 : decode cX9_rules 21 = .ok (.istore_n 3, 1) := by decide +kernel
theorem dX9_rules_22 : decode cX9_rules 22 = .ok (.iload_n 3, 1) := by decide +kernel
theorem dX9_rules_23 : decode cX9_rules 23 = .ok (.aload_n 0, 1) := by decide +kernel
theorem dX9_rules_24 : decode cX9_rules 24 = .ok (.getfield 101, 3) := by decide +kernel
theorem dX9_rules_27 : decode cX9_rules 27 = .ok (.if_icmp .ge 245, 3) := by decide +kernel
theorem dX9_rules_30 : decode cX9_rules 30 = .ok (.aload_n 0, 1) := by decide +kernel
theorem dX9_rules_31 : decode cX9_rules 31 = .ok (.getfield 7, 3) := by decide +kernel
theorem dX9_rules_34 : decode cX9_rules 34 = .ok (.iload_n 2, 1) := by decide +kernel
theorem dX9_rules_35 : decode cX9_rules 35 = .ok (.caload, 1) := by decide +kernel
theorem dX9_rules_36 : decode cX9_rules 36 = .ok (.bipush 102, 2) := by decide +kernel
theorem dX9_rules_38 : decode cX9_rules 38 = .ok (.if_icmp .ne 228, 3) := by decide +kernel
theorem dX9_rules_41 : decode cX9_rules 41 = .ok (.aload_n 0, 1) := by decide +kernel
theorem dX9_rules_42 : decode cX9_rules 42 = .ok (.getfield 7, 3) := by decide +kernel
theorem dX9_rules_45 : decode cX9_rules 45 = .ok (.iload_n 3, 1) := by decide +kernel
theorem dX9_rules_46 : decode cX9_rules 46 = .ok (.caload, 1) := by decide +kernel
theorem dX9_rules_47 : decode cX9_rules 47 = .ok (.bipush 102, 2) := by decide +kernel
theorem dX9_rules_49 : decode cX9_rules 49 = .ok (.if_icmp .ne 217, 3) := by decide +kernel
theorem dX9_rules_52 : decode cX9_rules 52 = .ok (.aload_n 0, 1) := by decide +kernel
theorem dX9_rules_53 : decode cX9_rules 53 = .ok (.getfield 16, 3) := by decide +kernel
theorem dX9_rules_56 : decode cX9_rules 56 = .ok (.iload_n 2, 1) := by decide +kernel
theorem dX9_rules_57 : decode cX9_rules 57 = .ok (.iaload, 1) := by decide +kernel
theorem dX9_rules_58 : decode cX9_rules 58 = .ok (.aload_n 0, 1) := by decide +kernel
theorem dX9_rules_59 : decode cX9_rules 59 = .ok (.getfield 29, 3) := by decide +kernel
theorem dX9_rules_62 : decode cX9_rules 62 = .ok (.iload_n 1, 1) := by decide +kernel
theorem dX9_rules_63 : decode cX9_rules 63 = .ok (.iaload, 1) := by decide +kernel
theorem dX9_rules_64 : decode cX9_rules 64 = .ok (.if_icmp .ne 202, 3) := by decide +kernel
theorem dX9_rules_67 : decode cX9_rules 67 = .ok (.aload_n 0, 1) := by decide +kernel
theorem dX9_rules_68 : decode cX9_rules 68 = .ok (.getfield 16, 3) := by decide +kernel
theorem dX9_rules_71 : decode cX9_rules 71 = .ok (.iload_n 3, 1) := by decide +kernel
theorem dX9_rules_72 : decode cX9_rules 72 = .ok (.iaload, 1) := by decide +kernel
theorem dX9_rules_73 : decode cX9_rules 73 = .ok (.aload_n 0, 1) := by decide +kernel
theorem dX9_rules_74 : decode cX9_rules 74 = .ok (.getfield 29, 3) := by decide +kernel
theorem dX9_rules_77 : decode cX9_rules 77 = .ok (.iload_n 1, 1) := by decide +kernel
theorem dX9_rules_78 : decode cX9_rules 78 = .ok (.iaload, 1) := by decide +kernel
theorem dX9_rules_79 : decode cX9_rules 79 = .ok (.if_icmp .eq 6, 3) := by decide +kernel
theorem dX9_rules_82 : decode cX9_rules 82 = .ok (.goto 184, 3) := by decide +kernel
theorem dX9_rules_85 : decode cX9_rules 85 = .ok (.aload_n 0, 1) := by decide +kernel
theorem dX9_rules_86 : decode cX9_rules 86 = .ok (.getfield 13, 3) := by decide +kernel
theorem dX9_rules_89 : decode cX9_rules 89 = .ok (.iload_n 1, 1) := by decide +kernel
theorem dX9_rules_90 : decode cX9_rules 90 = .ok (.caload, 1) := by decide +kernel
theorem dX9_rules_91 : decode cX9_rules 91 = .ok (.bipush 115, 2) := by decide +kernel
theorem dX9_rules_93 : decode cX9_rules 93 = .ok (.if_icmp .ne 30, 3) := by decide +kernel
theorem dX9_rules_96 : decode cX9_rules 96 = .ok (.aload_n 0, 1) := by decide +kernel
theorem dX9_rules_97 : decode cX9_rules 97 = .ok (.getfield 20, 3) := by decide +kernel
theorem dX9_rules_100 : decode cX9_rules 100 = .ok (.iload_n 2, 1) := by decide +kernel
theorem dX9_rules_101 : decode cX9_rules 101 = .ok (.iaload, 1) := by decide +kernel
theorem dX9_rules_102 : decode cX9_rules 102 = .ok (.iload_n 3, 1) := by decide +kernel
theorem dX9_rules_103 : decode cX9_rules 103 = .ok (.if_icmp .ne 20, 3) := by decide +kernel
theorem dX9_rules_106 : decode cX9_rules 106 = .ok (.aload_n 0, 1) := by decide +kernel
theorem dX9_rules_107 : decode cX9_rules 107 = .ok (.iload_n 2, 1) := by decide +kernel
theorem dX9_rules_108 : decode cX9_rules 108 = .ok (.aload_n 0, 1) := by decide +kernel
theorem dX9_rules_109 : decode cX9_rules 109 = .ok (.getfield 20, 3) := by decide +kernel
theorem dX9_rules_112 : decode cX9_rules 112 = .ok (.iload_n 3, 1) := by decide +kernel
theorem dX9_rules_113 : decode cX9_rules 113 = .ok (.iaload, 1) := by decide +kernel
theorem dX9_rules_114 : decode cX9_rules 114 = .ok (.ldc 165, 2) := by decide +kernel
theorem dX9_rules_116 : decode cX9_rules 116 = .ok (.invokevirtual 158, 3) := by decide +kernel
theorem dX9_rules_119 : decode cX9_rules 119 = .ok (.aload_n 0, 1) := by decide +kernel
theorem dX9_rules_120 : decode cX9_rules 120 = .ok (.invokevirtual 170, 3) := by decide +kernel
theorem dX9_rules_123 : decode cX9_rules 123 = .ok (.aload_n 0, 1) := by decide +kernel
theorem dX9_rules_124 : decode cX9_rules 124 = .ok (.getfield 13, 3) := by decide +kernel
theorem dX9_rules_127 : decode cX9_rules 127 = .ok (.iload_n 1, 1) := by decide +kernel
theorem dX9_rules_128 : decode cX9_rules 128 = .ok (.caload, 1) := by decide +kernel
theorem dX9_rules_129 : decode cX9_rules 129 = .ok (.bipush 105, 2) := by decide +kernel
theorem dX9_rules_131 : decode cX9_rules 131 = .ok (.if_icmp .ne 36, 3) := by decide +kernel
theorem dX9_rules_134 : decode cX9_rules 134 = .ok (.iload_n 3, 1) := by decide +kernel
theorem dX9_rules_135 : decode cX9_rules 135 = .ok (.iload_n 2, 1) := by decide +kernel
theorem dX9_rules_136 : decode cX9_rules 136 = .ok (.if_icmp .ge 31, 3) := by decide +kernel
theorem dX9_rules_139 : decode cX9_rules 139 = .ok (.aload_n 0, 1) := by decide +kernel
theorem dX9_rules_140 : decode cX9_rules 140 = .ok (.iload_n 2, 1) := by decide +kernel
theorem dX9_rules_141 : decode cX9_rules 141 = .ok (.iload_n 3, 1) := by decide +kernel
theorem dX9_rules_142 : decode cX9_rules 142 = .ok (.invokevirtual 166, 3) := by decide +kernel
theorem dX9_rules_145 : decode cX9_rules 145 = .ok (.aload_n 0, 1) := by decide +kernel
theorem dX9_rules_146 : decode cX9_rules 146 = .ok (.aload_n 0, 1) := by decide +kernel
theorem dX9_rules_147 : decode cX9_rules 147 = .ok (.getfield 20, 3) := by decide +kernel
theorem dX9_rules_150 : decode cX9_rules 150 = .ok (.iload_n 2, 1) := by decide +kernel
theorem dX9_rules_151 : decode cX9_rules 151 = .ok (.iaload, 1) := by decide +kernel
theorem dX9_rules_152 : decode cX9_rules 152 = .ok (.aload_n 0, 1) := by decide +kernel
theorem dX9_rules_153 : decode cX9_rules 153 = .ok (.getfield 20, 3) := by decide +kernel
theorem dX9_rules_156 : decode cX9_rules 156 = .ok (.iload_n 3, 1) := by decide +kernel
theorem dX9_rules_157 : decode cX9_rules 157 = .ok (.iaload, 1) := by decide +kernel
theorem dX9_rules_158 : decode cX9_rules 158 = .ok (.ldc 165, 2) := by decide +kernel
theorem dX9_rules_160 : decode cX9_rules 160 = .ok (.invokevirtual 158, 3) := by decide +kernel
theorem dX9_rules_163 : decode cX9_rules 163 = .ok (.aload_n 0, 1) := by decide +kernel
theorem dX9_rules_164 : decode cX9_rules 164 = .ok (.invokevirtual 170, 3) := by decide +kernel
theorem dX9_rules_167 : decode cX9_rules 167 = .ok (.aload_n 0, 1) := by decide +kernel
theorem dX9_rules_168 : decode cX9_rules 168 = .ok (.getfield 13, 3) := by decide +kernel
theorem dX9_rules_171 : decode cX9_rules 171 = .ok (.iload_n 1, 1) := by decide +kernel
theorem dX9_rules_172 : decode cX9_rules 172 = .ok (.caload, 1) := by decide +kernel
theorem dX9_rules_173 : decode cX9_rules 173 = .ok (.bipush 109, 2) := by decide +kernel
theorem dX9_rules_175 : decode cX9_rules 175 = .ok (.if_icmp .ne 36, 3) := by decide +kernel
theorem dX9_rules_178 : decode cX9_rules 178 = .ok (.iload_n 3, 1) := by decide +kernel
theorem dX9_rules_179 : decode cX9_rules 179 = .ok (.iload_n 2, 1) := by decide +kernel
theorem dX9_rules_180 : decode cX9_rules 180 = .ok (.if_icmp .eq 31, 3) := by decide +kernel
theorem dX9_rules_183 : decode cX9_rules 183 = .ok (.aload_n 0, 1) := by decide +kernel
theorem dX9_rules_184 : decode cX9_rules 184 = .ok (.aload_n 0, 1) := by decide +kernel
theorem dX9_rules_185 : decode cX9_rules 185 = .ok (.getfield 20, 3) := by decide +kernel
theorem dX9_rules_188 : decode cX9_rules 188 = .ok (.iload_n 3, 1) := by decide +kernel
theorem dX9_rules_189 : decode cX9_rules 189 = .ok (.iaload, 1) := by decide +kernel
theorem dX9_rules_190 : decode cX9_rules 190 = .ok (.aload_n 0, 1) := by decide +kernel
theorem dX9_rules_191 : decode cX9_rules 191 = .ok (.getfield 20, 3) := by decide +kernel
theorem dX9_rules_194 : decode cX9_rules 194 = .ok (.iload_n 2, 1) := by decide +kernel
theorem dX9_rules_195 : decode cX9_rules 195 = .ok (.iaload, 1) := by decide +kernel
theorem dX9_rules_196 : decode cX9_rules 196 = .ok (.iconst 0, 1) := by decide +kernel
theorem dX9_rules_197 : decode cX9_rules 197 = .ok (.invokevirtual 158, 3) := by decide +kernel
theorem dX9_rules_200 : decode cX9_rules 200 = .ok (.aload_n 0, 1) := by decide +kernel
theorem dX9_rules_201 : decode cX9_rules 201 = .ok (.iload_n 2, 1) := by decide +kernel
theorem dX9_rules_202 : decode cX9_rules 202 = .ok (.iload_n 3, 1) := by decide +kernel
theorem dX9_rules_203 : decode cX9_rules 203 = .ok (.iconst 0, 1) := by decide +kernel
theorem dX9_rules_204 : decode cX9_rules 204 = .ok (.invokevirtual 158, 3) := by decide +kernel
theorem dX9_rules_207 : decode cX9_rules 207 = .ok (.aload_n 0, 1) := by decide +kernel
theorem dX9_rules_208 : decode cX9_rules 208 = .ok (.invokevirtual 170, 3) := by decide +kernel
theorem dX9_rules_211 : decode cX9_rules 211 = .ok (.aload_n 0, 1) := by decide +kernel
theorem dX9_rules_212 : decode cX9_rules 212 = .ok (.getfield 13, 3) := by decide +kernel
theorem dX9_rules_215 : decode cX9_rules 215 = .ok (.iload_n 1, 1) := by decide +kernel
theorem dX9_rules_216 : decode cX9_rules 216 = .ok (.caload, 1) := by decide +kernel
theorem dX9_rules_217 : decode cX9_rules 217 = .ok (.bipush 99, 2) := by decide +kernel
theorem dX9_rules_219 : decode cX9_rules 219 = .ok (.if_icmp .ne 47, 3) := by decide +kernel
theorem dX9_rules_222 : decode cX9_rules 222 = .ok (.aload_n 0, 1) := by decide +kernel
theorem dX9_rules_223 : decode cX9_rules 223 = .ok (.aload_n 0, 1) := by decide +kernel
theorem dX9_rules_224 : decode cX9_rules 224 = .ok (.getfield 20, 3) := by decide +kernel
theorem dX9_rules_227 : decode cX9_rules 227 = .ok (.iload_n 2, 1) := by decide +kernel
theorem dX9_rules_228 : decode cX9_rules 228 = .ok (.iaload, 1) := by decide +kernel
theorem dX9_rules_229 : decode cX9_rules 229 = .ok (.aload_n 0, 1) := by decide +kernel
theorem dX9_rules_230 : decode cX9_rules 230 = .ok (.getfield 23, 3) := by decide +kernel
theorem dX9_rules_233 : decode cX9_rules 233 = .ok (.iload_n 3, 1) := by decide +kernel
theorem dX9_rules_234 : decode cX9_rules 234 = .ok (.iaload, 1) := by decide +kernel
theorem dX9_rules_235 : decode cX9_rules 235 = .ok (.invokevirtual 166, 3) := by decide +kernel
theorem dX9_rules_238 : decode cX9_rules 238 = .ok (.aload_n 0, 1) := by decide +kernel
theorem dX9_rules_239 : decode cX9_rules 239 = .ok (.aload_n 0, 1) := by decide +kernel
theorem dX9_rules_240 : decode cX9_rules 240 = .ok (.getfield 23, 3) := by decide +kernel
theorem dX9_rules_243 : decode cX9_rules 243 = .ok (.iload_n 2, 1) := by decide +kernel
theorem dX9_rules_244 : decode cX9_rules 244 = .ok (.iaload, 1) := by decide +kernel
theorem dX9_rules_245 : decode cX9_rules 245 = .ok (.aload_n 0, 1) := by decide +kernel
theorem dX9_rules_246 : decode cX9_rules 246 = .ok (.getfield 20, 3) := by decide +kernel
theorem dX9_rules_249 : decode cX9_rules 249 = .ok (.iload_n 3, 1) := by decide +kernel
theorem dX9_rules_250 : decode cX9_rules 250 = .ok (.iaload, 1) := by decide +kernel
theorem dX9_rules_251 : decode cX9_rules 251 = .ok (.invokevirtual 166, 3) := by decide +kernel
theorem dX9_rules_254 : decode cX9_rules 254 = .ok (.aload_n 0, 1) := by decide +kernel
theorem dX9_rules_255 : decode cX9_rules 255 = .ok (.iload_n 2, 1) := by decide +kernel
theorem dX9_rules_256 : decode cX9_rules 256 = .ok (.iload_n 3, 1) := by decide +kernel
theorem dX9_rules_257 : decode cX9_rules 257 = .ok (.ldc 165, 2) := by decide +kernel
theorem dX9_rules_259 : decode cX9_rules 259 = .ok (.invokevirtual 158, 3) := by decide +kernel
theorem dX9_rules_262 : decode cX9_rules 262 = .ok (.aload_n 0, 1) := by decide +kernel
theorem dX9_rules_263 : decode cX9_rules 263 = .ok (.invokevirtual 170, 3) := by decide +kernel
theorem dX9_rules_266 : decode cX9_rules 266 = .ok (.iinc 3 1, 3) := by decide +kernel
theorem dX9_rules_269 : decode cX9_rules 269 = .ok (.goto (-247), 3) := by decide +kernel
theorem dX9_rules_272 : decode cX9_rules 272 = .ok (.iinc 2 1, 3) := by decide +kernel
theorem dX9_rules_275 : decode cX9_rules 275 = .ok (.goto (-263), 3) := by decide +kernel
theorem dX9_rules_278 : decode cX9_rules 278 = .ok (.iinc 1 1, 3) := by decide +kernel
theorem dX9_rules_281 : decode cX9_rules 281 = .ok (.goto (-279), 3) := by decide +kernel
theorem dX9_rules_284 : decode cX9_rules 284 = .ok (.return_, 1) := by decide +kernel
theorem dX9_root_0 : decode cX9_root 0 = .ok (.iload_n 1, 1) := by decide +kernel
theorem dX9_root_1 : decode cX9_root 1 = .ok (.istore_n 2, 1) := by decide +kernel
theorem dX9_root_2 : decode cX9_root 2 = .ok (.aload_n 0, 1) := by decide +kernel
theorem dX9_root_3 : decode cX9_root 3 = .ok (.getfield 7, 3) := by decide +kernel
theorem dX9_root_6 : decode cX9_root 6 = .ok (.iload_n 2, 1) := by decide +kernel
theorem dX9_root_7 : decode cX9_root 7 = .ok (.caload, 1) := by decide +kernel
theorem dX9_root_8 : decode cX9_root 8 = .ok (.bipush 119, 2) := by decide +kernel
theorem dX9_root_10 : decode cX9_root 10 = .ok (.if_icmp .ne 13, 3) := by decide +kernel
theorem dX9_root_13 : decode cX9_root 13 = .ok (.aload_n 0, 1) := by decide +kernel
theorem dX9_root_14 : decode cX9_root 14 = .ok (.getfield 20, 3) := by decide +kernel
theorem dX9_root_17 : decode cX9_root 17 = .ok (.iload_n 2, 1) := by decide +kernel
theorem dX9_root_18 : decode cX9_root 18 = .ok (.iaload, 1) := by decide +kernel
theorem dX9_root_19 : decode cX9_root 19 = .ok (.istore_n 2, 1) := by decide +kernel
theorem dX9_root_20 : decode cX9_root 20 = .ok (.goto (-18), 3) := by decide +kernel
theorem dX9_root_23 : decode cX9_root 23 = .ok (.iload_n 2, 1) := by decide +kernel
theorem dX9_root_24 : decode cX9_root 24 = .ok (.ireturn, 1) := by decide +kernel
theorem dX9_meets_0 : decode cX9_meets 0 = .ok (.iload_n 2, 1) := by decide +kernel
theorem dX9_meets_1 : decode cX9_meets 1 = .ok (.istore 4, 2) := by decide +kernel
theorem dX9_meets_3 : decode cX9_meets 3 = .ok (.iload 4, 2) := by decide +kernel
theorem dX9_meets_5 : decode cX9_meets 5 = .ok (.iload_n 3, 1) := by decide +kernel
theorem dX9_meets_6 : decode cX9_meets 6 = .ok (.if_icmp .eq 29, 3) := by decide +kernel
theorem dX9_meets_9 : decode cX9_meets 9 = .ok (.aload_n 0, 1) := by decide +kernel
theorem dX9_meets_10 : decode cX9_meets 10 = .ok (.iload_n 1, 1) := by decide +kernel
theorem dX9_meets_11 : decode cX9_meets 11 = .ok (.aload_n 0, 1) := by decide +kernel
theorem dX9_meets_12 : decode cX9_meets 12 = .ok (.getfield 23, 3) := by decide +kernel
theorem dX9_meets_15 : decode cX9_meets 15 = .ok (.iload 4, 2) := by decide +kernel
theorem dX9_meets_17 : decode cX9_meets 17 = .ok (.iaload, 1) := by decide +kernel
theorem dX9_meets_18 : decode cX9_meets 18 = .ok (.ldc 165, 2) := by decide +kernel
theorem dX9_meets_20 : decode cX9_meets 20 = .ok (.invokevirtual 158, 3) := by decide +kernel
theorem dX9_meets_23 : decode cX9_meets 23 = .ok (.aload_n 0, 1) := by decide +kernel
theorem dX9_meets_24 : decode cX9_meets 24 = .ok (.getfield 20, 3) := by decide +kernel
theorem dX9_meets_27 : decode cX9_meets 27 = .ok (.iload 4, 2) := by decide +kernel
theorem dX9_meets_29 : decode cX9_meets 29 = .ok (.iaload, 1) := by decide +kernel
theorem dX9_meets_30 : decode cX9_meets 30 = .ok (.istore 4, 2) := by decide +kernel
theorem dX9_meets_32 : decode cX9_meets 32 = .ok (.goto (-29), 3) := by decide +kernel
theorem dX9_meets_35 : decode cX9_meets 35 = .ok (.return_, 1) := by decide +kernel
theorem dX9_arrays_0 : decode cX9_arrays 0 = .ok (.iconst 0, 1) := by decide +kernel
theorem dX9_arrays_1 : decode cX9_arrays 1 = .ok (.istore_n 1, 1) := by decide +kernel
theorem dX9_arrays_2 : decode cX9_arrays 2 = .ok (.iload_n 1, 1) := by decide +kernel
theorem dX9_arrays_3 : decode cX9_arrays 3 = .ok (.aload_n 0, 1) := by decide +kernel
theorem dX9_arrays_4 : decode cX9_arrays 4 = .ok (.getfield 101, 3) := by decide +kernel
theorem dX9_arrays_7 : decode cX9_arrays 7 = .ok (.if_icmp .ge 231, 3) := by decide +kernel
theorem dX9_arrays_10 : decode cX9_arrays 10 = .ok (.aload_n 0, 1) := by decide +kernel
theorem dX9_arrays_11 : decode cX9_arrays 11 = .ok (.getfield 7, 3) := by decide +kernel
theorem dX9_arrays_14 : decode cX9_arrays 14 = .ok (.iload_n 1, 1) := by decide +kernel
theorem dX9_arrays_15 : decode cX9_arrays 15 = .ok (.caload, 1) := by decide +kernel
theorem dX9_arrays_16 : decode cX9_arrays 16 = .ok (.bipush 114, 2) := by decide +kernel
theorem dX9_arrays_18 : decode cX9_arrays 18 = .ok (.if_icmp .eq 6, 3) := by decide +kernel
theorem dX9_arrays_21 : decode cX9_arrays 21 = .ok (.goto 211, 3) := by decide +kernel
theorem dX9_arrays_24 : decode cX9_arrays 24 = .ok (.aload_n 0, 1) := by decide +kernel
theorem dX9_arrays_25 : decode cX9_arrays 25 = .ok (.getfield 20, 3) := by decide +kernel
theorem dX9_arrays_28 : decode cX9_arrays 28 = .ok (.iload_n 1, 1) := by decide +kernel
theorem dX9_arrays_29 : decode cX9_arrays 29 = .ok (.iaload, 1) := by decide +kernel
theorem dX9_arrays_30 : decode cX9_arrays 30 = .ok (.istore_n 2, 1) := by decide +kernel
theorem dX9_arrays_31 : decode cX9_arrays 31 = .ok (.aload_n 0, 1) := by decide +kernel
theorem dX9_arrays_32 : decode cX9_arrays 32 = .ok (.getfield 7, 3) := by decide +kernel
theorem dX9_arrays_35 : decode cX9_arrays 35 = .ok (.iload_n 2, 1) := by decide +kernel
theorem dX9_arrays_36 : decode cX9_arrays 36 = .ok (.caload, 1) := by decide +kernel
theorem dX9_arrays_37 : decode cX9_arrays 37 = .ok (.bipush 119, 2) := by decide +kernel
theorem dX9_arrays_39 : decode cX9_arrays 39 = .ok (.if_icmp .ne 63, 3) := by decide +kernel
theorem dX9_arrays_42 : decode cX9_arrays 42 = .ok (.aload_n 0, 1) := by decide +kernel
theorem dX9_arrays_43 : decode cX9_arrays 43 = .ok (.aload_n 0, 1) := by decide +kernel
theorem dX9_arrays_44 : decode cX9_arrays 44 = .ok (.getfield 23, 3) := by decide +kernel
theorem dX9_arrays_47 : decode cX9_arrays 47 = .ok (.iload_n 1, 1) := by decide +kernel
theorem dX9_arrays_48 : decode cX9_arrays 48 = .ok (.iaload, 1) := by decide +kernel
theorem dX9_arrays_49 : decode cX9_arrays 49 = .ok (.aload_n 0, 1) := by decide +kernel
theorem dX9_arrays_50 : decode cX9_arrays 50 = .ok (.getfield 20, 3) := by decide +kernel
theorem dX9_arrays_53 : decode cX9_arrays 53 = .ok (.iload_n 1, 1) := by decide +kernel
theorem dX9_arrays_54 : decode cX9_arrays 54 = .ok (.iaload, 1) := by decide +kernel
theorem dX9_arrays_55 : decode cX9_arrays 55 = .ok (.iload_n 2, 1) := by decide +kernel
theorem dX9_arrays_56 : decode cX9_arrays 56 = .ok (.invokevirtual 173, 3) := by decide +kernel
theorem dX9_arrays_59 : decode cX9_arrays 59 = .ok (.aload_n 0, 1) := by decide +kernel
theorem dX9_arrays_60 : decode cX9_arrays 60 = .ok (.aload_n 0, 1) := by decide +kernel
theorem dX9_arrays_61 : decode cX9_arrays 61 = .ok (.getfield 23, 3) := by decide +kernel
theorem dX9_arrays_64 : decode cX9_arrays 64 = .ok (.iload_n 1, 1) := by decide +kernel
theorem dX9_arrays_65 : decode cX9_arrays 65 = .ok (.iaload, 1) := by decide +kernel
theorem dX9_arrays_66 : decode cX9_arrays 66 = .ok (.aload_n 0, 1) := by decide +kernel
theorem dX9_arrays_67 : decode cX9_arrays 67 = .ok (.getfield 23, 3) := by decide +kernel
theorem dX9_arrays_70 : decode cX9_arrays 70 = .ok (.iload_n 2, 1) := by decide +kernel
theorem dX9_arrays_71 : decode cX9_arrays 71 = .ok (.iaload, 1) := by decide +kernel
theorem dX9_arrays_72 : decode cX9_arrays 72 = .ok (.invokevirtual 166, 3) := by decide +kernel
theorem dX9_arrays_75 : decode cX9_arrays 75 = .ok (.aload_n 0, 1) := by decide +kernel
theorem dX9_arrays_76 : decode cX9_arrays 76 = .ok (.iload_n 1, 1) := by decide +kernel
theorem dX9_arrays_77 : decode cX9_arrays 77 = .ok (.aload_n 0, 1) := by decide +kernel
theorem dX9_arrays_78 : decode cX9_arrays 78 = .ok (.getfield 26, 3) := by decide +kernel
theorem dX9_arrays_81 : decode cX9_arrays 81 = .ok (.iload_n 2, 1) := by decide +kernel
theorem dX9_arrays_82 : decode cX9_arrays 82 = .ok (.iaload, 1) := by decide +kernel
theorem dX9_arrays_83 : decode cX9_arrays 83 = .ok (.ldc 165, 2) := by decide +kernel
theorem dX9_arrays_85 : decode cX9_arrays 85 = .ok (.invokevirtual 158, 3) := by decide +kernel
theorem dX9_arrays_88 : decode cX9_arrays 88 = .ok (.aload_n 0, 1) := by decide +kernel
theorem dX9_arrays_89 : decode cX9_arrays 89 = .ok (.invokevirtual 170, 3) := by decide +kernel
theorem dX9_arrays_92 : decode cX9_arrays 92 = .ok (.aload_n 0, 1) := by decide +kernel
theorem dX9_arrays_93 : decode cX9_arrays 93 = .ok (.getfield 20, 3) := by decide +kernel
theorem dX9_arrays_96 : decode cX9_arrays 96 = .ok (.iload_n 2, 1) := by decide +kernel
theorem dX9_arrays_97 : decode cX9_arrays 97 = .ok (.iaload, 1) := by decide +kernel
theorem dX9_arrays_98 : decode cX9_arrays 98 = .ok (.istore_n 2, 1) := by decide +kernel
theorem dX9_arrays_99 : decode cX9_arrays 99 = .ok (.goto (-68), 3) := by decide +kernel
theorem dX9_arrays_102 : decode cX9_arrays 102 = .ok (.iconst 0, 1) := by decide +kernel
theorem dX9_arrays_103 : decode cX9_arrays 103 = .ok (.istore_n 2, 1) := by decide +kernel
theorem dX9_arrays_104 : decode cX9_arrays 104 = .ok (.iload_n 2, 1) := by decide +kernel
theorem dX9_arrays_105 : decode cX9_arrays 105 = .ok (.iload_n 1, 1) := by decide +kernel
theorem dX9_arrays_106 : decode cX9_arrays 106 = .ok (.if_icmp .ge 126, 3) := by decide +kernel
theorem dX9_arrays_109 : decode cX9_arrays 109 = .ok (.aload_n 0, 1) := by decide +kernel
theorem dX9_arrays_110 : decode cX9_arrays 110 = .ok (.getfield 7, 3) := by decide +kernel
theorem dX9_arrays_113 : decode cX9_arrays 113 = .ok (.iload_n 2, 1) := by decide +kernel
theorem dX9_arrays_114 : decode cX9_arrays 114 = .ok (.caload, 1) := by decide +kernel
theorem dX9_arrays_115 : decode cX9_arrays 115 = .ok (.bipush 114, 2) := by decide +kernel
theorem dX9_arrays_117 : decode cX9_arrays 117 = .ok (.if_icmp .ne 109, 3) := by decide +kernel
theorem dX9_arrays_120 : decode cX9_arrays 120 = .ok (.aload_n 0, 1) := by decide +kernel
theorem dX9_arrays_121 : decode cX9_arrays 121 = .ok (.aload_n 0, 1) := by decide +kernel
theorem dX9_arrays_122 : decode cX9_arrays 122 = .ok (.getfield 20, 3) := by decide +kernel
theorem dX9_arrays_125 : decode cX9_arrays 125 = .ok (.iload_n 2, 1) := by decide +kernel
theorem dX9_arrays_126 : decode cX9_arrays 126 = .ok (.iaload, 1) := by decide +kernel
theorem dX9_arrays_127 : decode cX9_arrays 127 = .ok (.invokevirtual 176, 3) := by decide +kernel
theorem dX9_arrays_130 : decode cX9_arrays 130 = .ok (.aload_n 0, 1) := by decide +kernel
theorem dX9_arrays_131 : decode cX9_arrays 131 = .ok (.aload_n 0, 1) := by decide +kernel
theorem dX9_arrays_132 : decode cX9_arrays 132 = .ok (.getfield 20, 3) := by decide +kernel
theorem dX9_arrays_135 : decode cX9_arrays 135 = .ok (.iload_n 1, 1) := by decide +kernel
theorem dX9_arrays_136 : decode cX9_arrays 136 = .ok (.iaload, 1) := by decide +kernel
theorem dX9_arrays_137 : decode cX9_arrays 137 = .ok (.invokevirtual 176, 3) := by decide +kernel
theorem dX9_arrays_140 : decode cX9_arrays 140 = .ok (.if_icmp .eq 6, 3) := by decide +kernel
theorem dX9_arrays_143 : decode cX9_arrays 143 = .ok (.goto 83, 3) := by decide +kernel
theorem dX9_arrays_146 : decode cX9_arrays 146 = .ok (.aload_n 0, 1) := by decide +kernel
theorem dX9_arrays_147 : decode cX9_arrays 147 = .ok (.aload_n 0, 1) := by decide +kernel
theorem dX9_arrays_148 : decode cX9_arrays 148 = .ok (.getfield 23, 3) := by decide +kernel
theorem dX9_arrays_151 : decode cX9_arrays 151 = .ok (.iload_n 1, 1) := by decide +kernel
theorem dX9_arrays_152 : decode cX9_arrays 152 = .ok (.iaload, 1) := by decide +kernel
theorem dX9_arrays_153 : decode cX9_arrays 153 = .ok (.aload_n 0, 1) := by decide +kernel
theorem dX9_arrays_154 : decode cX9_arrays 154 = .ok (.getfield 20, 3) := by decide +kernel
theorem dX9_arrays_157 : decode cX9_arrays 157 = .ok (.iload_n 1, 1) := by decide +kernel
theorem dX9_arrays_158 : decode cX9_arrays 158 = .ok (.iaload, 1) := by decide +kernel
theorem dX9_arrays_159 : decode cX9_arrays 159 = .ok (.aload_n 0, 1) := by decide +kernel
theorem dX9_arrays_160 : decode cX9_arrays 160 = .ok (.aload_n 0, 1) := by decide +kernel
theorem dX9_arrays_161 : decode cX9_arrays 161 = .ok (.getfield 20, 3) := by decide +kernel
theorem dX9_arrays_164 : decode cX9_arrays 164 = .ok (.iload_n 1, 1) := by decide +kernel
theorem dX9_arrays_165 : decode cX9_arrays 165 = .ok (.iaload, 1) := by decide +kernel
theorem dX9_arrays_166 : decode cX9_arrays 166 = .ok (.invokevirtual 176, 3) := by decide +kernel
theorem dX9_arrays_169 : decode cX9_arrays 169 = .ok (.invokevirtual 173, 3) := by decide +kernel
theorem dX9_arrays_172 : decode cX9_arrays 172 = .ok (.aload_n 0, 1) := by decide +kernel
theorem dX9_arrays_173 : decode cX9_arrays 173 = .ok (.aload_n 0, 1) := by decide +kernel
theorem dX9_arrays_174 : decode cX9_arrays 174 = .ok (.getfield 23, 3) := by decide +kernel
theorem dX9_arrays_177 : decode cX9_arrays 177 = .ok (.iload_n 2, 1) := by decide +kernel
theorem dX9_arrays_178 : decode cX9_arrays 178 = .ok (.iaload, 1) := by decide +kernel
theorem dX9_arrays_179 : decode cX9_arrays 179 = .ok (.aload_n 0, 1) := by decide +kernel
theorem dX9_arrays_180 : decode cX9_arrays 180 = .ok (.getfield 20, 3) := by decide +kernel
theorem dX9_arrays_183 : decode cX9_arrays 183 = .ok (.iload_n 2, 1) := by decide +kernel
theorem dX9_arrays_184 : decode cX9_arrays 184 = .ok (.iaload, 1) := by decide +kernel
theorem dX9_arrays_185 : decode cX9_arrays 185 = .ok (.aload_n 0, 1) := by decide +kernel
theorem dX9_arrays_186 : decode cX9_arrays 186 = .ok (.aload_n 0, 1) := by decide +kernel
theorem dX9_arrays_187 : decode cX9_arrays 187 = .ok (.getfield 20, 3) := by decide +kernel
theorem dX9_arrays_190 : decode cX9_arrays 190 = .ok (.iload_n 2, 1) := by decide +kernel
theorem dX9_arrays_191 : decode cX9_arrays 191 = .ok (.iaload, 1) := by decide +kernel
theorem dX9_arrays_192 : decode cX9_arrays 192 = .ok (.invokevirtual 176, 3) := by decide +kernel
theorem dX9_arrays_195 : decode cX9_arrays 195 = .ok (.invokevirtual 173, 3) := by decide +kernel
theorem dX9_arrays_198 : decode cX9_arrays 198 = .ok (.aload_n 0, 1) := by decide +kernel
theorem dX9_arrays_199 : decode cX9_arrays 199 = .ok (.aload_n 0, 1) := by decide +kernel
theorem dX9_arrays_200 : decode cX9_arrays 200 = .ok (.getfield 23, 3) := by decide +kernel
theorem dX9_arrays_203 : decode cX9_arrays 203 = .ok (.iload_n 1, 1) := by decide +kernel
theorem dX9_arrays_204 : decode cX9_arrays 204 = .ok (.iaload, 1) := by decide +kernel
theorem dX9_arrays_205 : decode cX9_arrays 205 = .ok (.aload_n 0, 1) := by decide +kernel
theorem dX9_arrays_206 : decode cX9_arrays 206 = .ok (.getfield 23, 3) := by decide +kernel
theorem dX9_arrays_209 : decode cX9_arrays 209 = .ok (.iload_n 2, 1) := by decide +kernel
theorem dX9_arrays_210 : decode cX9_arrays 210 = .ok (.iaload, 1) := by decide +kernel
theorem dX9_arrays_211 : decode cX9_arrays 211 = .ok (.invokevirtual 166, 3) := by decide +kernel
theorem dX9_arrays_214 : decode cX9_arrays 214 = .ok (.aload_n 0, 1) := by decide +kernel
theorem dX9_arrays_215 : decode cX9_arrays 215 = .ok (.iload_n 1, 1) := by decide +kernel
theorem dX9_arrays_216 : decode cX9_arrays 216 = .ok (.iload_n 2, 1) := by decide +kernel
theorem dX9_arrays_217 : decode cX9_arrays 217 = .ok (.ldc 165, 2) := by decide +kernel
theorem dX9_arrays_219 : decode cX9_arrays 219 = .ok (.invokevirtual 158, 3) := by decide +kernel
theorem dX9_arrays_222 : decode cX9_arrays 222 = .ok (.aload_n 0, 1) := by decide +kernel
theorem dX9_arrays_223 : decode cX9_arrays 223 = .ok (.invokevirtual 170, 3) := by decide +kernel
theorem dX9_arrays_226 : decode cX9_arrays 226 = .ok (.iinc 2 1, 3) := by decide +kernel
theorem dX9_arrays_229 : decode cX9_arrays 229 = .ok (.goto (-125), 3) := by decide +kernel
theorem dX9_arrays_232 : decode cX9_arrays 232 = .ok (.iinc 1 1, 3) := by decide +kernel
theorem dX9_arrays_235 : decode cX9_arrays 235 = .ok (.goto (-233), 3) := by decide +kernel
theorem dX9_arrays_238 : decode cX9_arrays 238 = .ok (.return_, 1) := by decide +kernel
theorem dX9_fresh_0 : decode cX9_fresh 0 = .ok (.aload_n 0, 1) := by decide +kernel
theorem dX9_fresh_1 : decode cX9_fresh 1 = .ok (.getfield 104, 3) := by decide +kernel
theorem dX9_fresh_4 : decode cX9_fresh 4 = .ok (.ifCond .eq 4, 3) := by decide +kernel
theorem dX9_fresh_7 : decode cX9_fresh 7 = .ok (.return_, 1) := by decide +kernel
theorem dX9_fresh_8 : decode cX9_fresh 8 = .ok (.aload_n 0, 1) := by decide +kernel
theorem dX9_fresh_9 : decode cX9_fresh 9 = .ok (.iconst 0, 1) := by decide +kernel
theorem dX9_fresh_10 : decode cX9_fresh 10 = .ok (.putfield 155, 3) := by decide +kernel
theorem dX9_fresh_13 : decode cX9_fresh 13 = .ok (.aload_n 0, 1) := by decide +kernel
theorem dX9_fresh_14 : decode cX9_fresh 14 = .ok (.iconst 0, 1) := by decide +kernel
theorem dX9_fresh_15 : decode cX9_fresh 15 = .ok (.putfield 162, 3) := by decide +kernel
theorem dX9_fresh_18 : decode cX9_fresh 18 = .ok (.iconst 0, 1) := by decide +kernel
theorem dX9_fresh_19 : decode cX9_fresh 19 = .ok (.istore_n 1, 1) := by decide +kernel
theorem dX9_fresh_20 : decode cX9_fresh 20 = .ok (.iload_n 1, 1) := by decide +kernel
theorem dX9_fresh_21 : decode cX9_fresh 21 = .ok (.bipush 14, 2) := by decide +kernel
theorem dX9_fresh_23 : decode cX9_fresh 23 = .ok (.if_icmp .ge 62, 3) := by decide +kernel
theorem dX9_fresh_26 : decode cX9_fresh 26 = .ok (.iconst 0, 1) := by decide +kernel
theorem dX9_fresh_27 : decode cX9_fresh 27 = .ok (.istore_n 2, 1) := by decide +kernel
theorem dX9_fresh_28 : decode cX9_fresh 28 = .ok (.iload_n 1, 1) := by decide +kernel
theorem dX9_fresh_29 : decode cX9_fresh 29 = .ok (.aload_n 0, 1) := by decide +kernel
theorem dX9_fresh_30 : decode cX9_fresh 30 = .ok (.getfield 146, 3) := by decide +kernel
theorem dX9_fresh_33 : decode cX9_fresh 33 = .ok (.if_icmp .ge 42, 3) := by decide +kernel
theorem dX9_fresh_36 : decode cX9_fresh 36 = .ok (.iload_n 2, 1) := by decide +kernel
theorem dX9_fresh_37 : decode cX9_fresh 37 = .ok (.iconst 3, 1) := by decide +kernel
theorem dX9_fresh_38 : decode cX9_fresh 38 = .ok (.if_icmp .ge 37, 3) := by decide +kernel
theorem dX9_fresh_41 : decode cX9_fresh 41 = .ok (.aload_n 0, 1) := by decide +kernel
theorem dX9_fresh_42 : decode cX9_fresh 42 = .ok (.getfield 54, 3) := by decide +kernel
theorem dX9_fresh_45 : decode cX9_fresh 45 = .ok (.iconst 3, 1) := by decide +kernel
theorem dX9_fresh_46 : decode cX9_fresh 46 = .ok (.iload_n 1, 1) := by decide +kernel
theorem dX9_fresh_47 : decode cX9_fresh 47 = .ok (.imul, 1) := by decide +kernel
theorem dX9_fresh_48 : decode cX9_fresh 48 = .ok (.iload_n 2, 1) := by decide +kernel
theorem dX9_fresh_49 : decode cX9_fresh 49 = .ok (.iadd, 1) := by decide +kernel
theorem dX9_fresh_50 : decode cX9_fresh 50 = .ok (.iaload, 1) := by decide +kernel
theorem dX9_fresh_51 : decode cX9_fresh 51 = .ok (.iconst (-1), 1) := by decide +kernel
theorem dX9_fresh_52 : decode cX9_fresh 52 = .ok (.if_icmp .eq 17, 3) := by decide +kernel
theorem dX9_fresh_55 : decode cX9_fresh 55 = .ok (.aload_n 0, 1) := by decide +kernel
theorem dX9_fresh_56 : decode cX9_fresh 56 = .ok (.aload_n 0, 1) := by decide +kernel
theorem dX9_fresh_57 : decode cX9_fresh 57 = .ok (.getfield 54, 3) := by decide +kernel
theorem dX9_fresh_60 : decode cX9_fresh 60 = .ok (.iconst 3, 1) := by decide +kernel
theorem dX9_fresh_61 : decode cX9_fresh 61 = .ok (.iload_n 1, 1) := by decide +kernel
theorem dX9_fresh_62 : decode cX9_fresh 62 = .ok (.imul, 1) := by decide +kernel
theorem dX9_fresh_63 : decode cX9_fresh 63 = .ok (.iload_n 2, 1) := by decide +kernel
theorem dX9_fresh_64 : decode cX9_fresh 64 = .ok (.iadd, 1) := by decide +kernel
theorem dX9_fresh_65 : decode cX9_fresh 65 = .ok (.iaload, 1) := by decide +kernel
theorem dX9_fresh_66 : decode cX9_fresh 66 = .ok (.invokevirtual 179, 3) := by decide +kernel
theorem dX9_fresh_69 : decode cX9_fresh 69 = .ok (.iinc 2 1, 3) := by decide +kernel
theorem dX9_fresh_72 : decode cX9_fresh 72 = .ok (.goto (-44), 3) := by decide +kernel
theorem dX9_fresh_75 : decode cX9_fresh 75 = .ok (.aload_n 0, 1) := by decide +kernel
theorem dX9_fresh_76 : decode cX9_fresh 76 = .ok (.invokevirtual 170, 3) := by decide +kernel
theorem dX9_fresh_79 : decode cX9_fresh 79 = .ok (.iinc 1 1, 3) := by decide +kernel
theorem dX9_fresh_82 : decode cX9_fresh 82 = .ok (.goto (-62), 3) := by decide +kernel
theorem dX9_fresh_85 : decode cX9_fresh 85 = .ok (.aload_n 0, 1) := by decide +kernel
theorem dX9_fresh_86 : decode cX9_fresh 86 = .ok (.invokevirtual 183, 3) := by decide +kernel
theorem dX9_fresh_89 : decode cX9_fresh 89 = .ok (.aload_n 0, 1) := by decide +kernel
theorem dX9_fresh_90 : decode cX9_fresh 90 = .ok (.invokevirtual 186, 3) := by decide +kernel
theorem dX9_fresh_93 : decode cX9_fresh 93 = .ok (.aload_n 0, 1) := by decide +kernel
theorem dX9_fresh_94 : decode cX9_fresh 94 = .ok (.invokevirtual 188, 3) := by decide +kernel
theorem dX9_fresh_97 : decode cX9_fresh 97 = .ok (.aload_n 0, 1) := by decide +kernel
theorem dX9_fresh_98 : decode cX9_fresh 98 = .ok (.iconst 1, 1) := by decide +kernel
theorem dX9_fresh_99 : decode cX9_fresh 99 = .ok (.putfield 104, 3) := by decide +kernel
theorem dX9_fresh_102 : decode cX9_fresh 102 = .ok (.return_, 1) := by decide +kernel
theorem dX9_at_0 : decode cX9_at 0 = .ok (.sipush 225, 3) := by decide +kernel
theorem dX9_at_3 : decode cX9_at 3 = .ok (.aload_n 0, 1) := by decide +kernel
theorem dX9_at_4 : decode cX9_at 4 = .ok (.getfield 191, 3) := by decide +kernel
theorem dX9_at_7 : decode cX9_at 7 = .ok (.imul, 1) := by decide +kernel
theorem dX9_at_8 : decode cX9_at 8 = .ok (.bipush 15, 2) := by decide +kernel
theorem dX9_at_10 : decode cX9_at 10 = .ok (.iload_n 1, 1) := by decide +kernel
theorem dX9_at_11 : decode cX9_at 11 = .ok (.imul, 1) := by decide +kernel
theorem dX9_at_12 : decode cX9_at 12 = .ok (.iadd, 1) := by decide +kernel
theorem dX9_at_13 : decode cX9_at 13 = .ok (.iload_n 2, 1) := by decide +kernel
theorem dX9_at_14 : decode cX9_at 14 = .ok (.iadd, 1) := by decide +kernel
theorem dX9_at_15 : decode cX9_at 15 = .ok (.ireturn, 1) := by decide +kernel
theorem dX9_isSure_0 : decode cX9_isSure 0 = .ok (.aload_n 0, 1) := by decide +kernel
theorem dX9_isSure_1 : decode cX9_isSure 1 = .ok (.getfield 60, 3) := by decide +kernel
theorem dX9_isSure_4 : decode cX9_isSure 4 = .ok (.iload_n 1, 1) := by decide +kernel
theorem dX9_isSure_5 : decode cX9_isSure 5 = .ok (.iaload, 1) := by decide +kernel
theorem dX9_isSure_6 : decode cX9_isSure 6 = .ok (.istore_n 2, 1) := by decide +kernel
theorem dX9_isSure_7 : decode cX9_isSure 7 = .ok (.aload_n 0, 1) := by decide +kernel
theorem dX9_isSure_8 : decode cX9_isSure 8 = .ok (.getfield 63, 3) := by decide +kernel
theorem dX9_isSure_11 : decode cX9_isSure 11 = .ok (.iload_n 1, 1) := by decide +kernel
theorem dX9_isSure_12 : decode cX9_isSure 12 = .ok (.iaload, 1) := by decide +kernel
theorem dX9_isSure_13 : decode cX9_isSure 13 = .ok (.istore_n 3, 1) := by decide +kernel
theorem dX9_isSure_14 : decode cX9_isSure 14 = .ok (.aload_n 0, 1) := by decide +kernel
theorem dX9_isSure_15 : decode cX9_isSure 15 = .ok (.getfield 66, 3) := by decide +kernel
theorem dX9_isSure_18 : decode cX9_isSure 18 = .ok (.iload_n 1, 1) := by decide +kernel
theorem dX9_isSure_19 : decode cX9_isSure 19 = .ok (.iaload, 1) := by decide +kernel
theorem dX9_isSure_20 : decode cX9_isSure 20 = .ok (.ldc 165, 2) := by decide +kernel
theorem dX9_isSure_22 : decode cX9_isSure 22 = .ok (.if_icmp .ne 39, 3) := by decide +kernel
theorem dX9_isSure_25 : decode cX9_isSure 25 = .ok (.aload_n 0, 1) := by decide +kernel
theorem dX9_isSure_26 : decode cX9_isSure 26 = .ok (.getfield 82, 3) := by decide +kernel
theorem dX9_isSure_29 : decode cX9_isSure 29 = .ok (.aload_n 0, 1) := by decide +kernel
theorem dX9_isSure_30 : decode cX9_isSure 30 = .ok (.iload_n 2, 1) := by decide +kernel
theorem dX9_isSure_31 : decode cX9_isSure 31 = .ok (.iload_n 3, 1) := by decide +kernel
theorem dX9_isSure_32 : decode cX9_isSure 32 = .ok (.invokevirtual 194, 3) := by decide +kernel
theorem dX9_isSure_35 : decode cX9_isSure 35 = .ok (.iaload, 1) := by decide +kernel
theorem dX9_isSure_36 : decode cX9_isSure 36 = .ok (.ifCond .gt 21, 3) := by decide +kernel
theorem dX9_isSure_39 : decode cX9_isSure 39 = .ok (.aload_n 0, 1) := by decide +kernel
theorem dX9_isSure_40 : decode cX9_isSure 40 = .ok (.getfield 82, 3) := by decide +kernel
theorem dX9_isSure_43 : decode cX9_isSure 43 = .ok (.aload_n 0, 1) := by decide +kernel
theorem dX9_isSure_44 : decode cX9_isSure 44 = .ok (.iload_n 3, 1) := by decide +kernel
theorem dX9_isSure_45 : decode cX9_isSure 45 = .ok (.iload_n 2, 1) := by decide +kernel
theorem dX9_isSure_46 : decode cX9_isSure 46 = .ok (.invokevirtual 194, 3) := by decide +kernel
theorem dX9_isSure_49 : decode cX9_isSure 49 = .ok (.iaload, 1) := by decide +kernel
theorem dX9_isSure_50 : decode cX9_isSure 50 = .ok (.ifCond .gt 7, 3) := by decide +kernel
theorem dX9_isSure_53 : decode cX9_isSure 53 = .ok (.iconst 1, 1) := by decide +kernel
theorem dX9_isSure_54 : decode cX9_isSure 54 = .ok (.goto 32, 3) := by decide +kernel
theorem dX9_isSure_57 : decode cX9_isSure 57 = .ok (.iconst 0, 1) := by decide +kernel
theorem dX9_isSure_58 : decode cX9_isSure 58 = .ok (.goto 28, 3) := by decide +kernel
theorem dX9_isSure_61 : decode cX9_isSure 61 = .ok (.aload_n 0, 1) := by decide +kernel
theorem dX9_isSure_62 : decode cX9_isSure 62 = .ok (.getfield 82, 3) := by decide +kernel
theorem dX9_isSure_65 : decode cX9_isSure 65 = .ok (.aload_n 0, 1) := by decide +kernel
theorem dX9_isSure_66 : decode cX9_isSure 66 = .ok (.iload_n 2, 1) := by decide +kernel
theorem dX9_isSure_67 : decode cX9_isSure 67 = .ok (.iload_n 3, 1) := by decide +kernel
theorem dX9_isSure_68 : decode cX9_isSure 68 = .ok (.invokevirtual 194, 3) := by decide +kernel
theorem dX9_isSure_71 : decode cX9_isSure 71 = .ok (.iaload, 1) := by decide +kernel
theorem dX9_isSure_72 : decode cX9_isSure 72 = .ok (.aload_n 0, 1) := by decide +kernel
theorem dX9_isSure_73 : decode cX9_isSure 73 = .ok (.getfield 66, 3) := by decide +kernel
theorem dX9_isSure_76 : decode cX9_isSure 76 = .ok (.iload_n 1, 1) := by decide +kernel
theorem dX9_isSure_77 : decode cX9_isSure 77 = .ok (.iaload, 1) := by decide +kernel
theorem dX9_isSure_78 : decode cX9_isSure 78 = .ok (.if_icmp .gt 7, 3) := by decide +kernel
theorem dX9_isSure_81 : decode cX9_isSure 81 = .ok (.iconst 1, 1) := by decide +kernel
theorem dX9_isSure_82 : decode cX9_isSure 82 = .ok (.goto 4, 3) := by decide +kernel
theorem dX9_isSure_85 : decode cX9_isSure 85 = .ok (.iconst 0, 1) := by decide +kernel
theorem dX9_isSure_86 : decode cX9_isSure 86 = .ok (.ireturn, 1) := by decide +kernel
theorem dX9_isLost_0 : decode cX9_isLost 0 = .ok (.aload_n 0, 1) := by decide +kernel
theorem dX9_isLost_1 : decode cX9_isLost 1 = .ok (.getfield 60, 3) := by decide +kernel
theorem dX9_isLost_4 : decode cX9_isLost 4 = .ok (.iload_n 1, 1) := by decide +kernel
theorem dX9_isLost_5 : decode cX9_isLost 5 = .ok (.iaload, 1) := by decide +kernel
theorem dX9_isLost_6 : decode cX9_isLost 6 = .ok (.istore_n 2, 1) := by decide +kernel
theorem dX9_isLost_7 : decode cX9_isLost 7 = .ok (.aload_n 0, 1) := by decide +kernel
theorem dX9_isLost_8 : decode cX9_isLost 8 = .ok (.getfield 63, 3) := by decide +kernel
theorem dX9_isLost_11 : decode cX9_isLost 11 = .ok (.iload_n 1, 1) := by decide +kernel
theorem dX9_isLost_12 : decode cX9_isLost 12 = .ok (.iaload, 1) := by decide +kernel
theorem dX9_isLost_13 : decode cX9_isLost 13 = .ok (.istore_n 3, 1) := by decide +kernel
theorem dX9_isLost_14 : decode cX9_isLost 14 = .ok (.aload_n 0, 1) := by decide +kernel
theorem dX9_isLost_15 : decode cX9_isLost 15 = .ok (.getfield 66, 3) := by decide +kernel
theorem dX9_isLost_18 : decode cX9_isLost 18 = .ok (.iload_n 1, 1) := by decide +kernel
theorem dX9_isLost_19 : decode cX9_isLost 19 = .ok (.iaload, 1) := by decide +kernel
theorem dX9_isLost_20 : decode cX9_isLost 20 = .ok (.ldc 165, 2) := by decide +kernel
theorem dX9_isLost_22 : decode cX9_isLost 22 = .ok (.if_icmp .ne 39, 3) := by decide +kernel
theorem dX9_isLost_25 : decode cX9_isLost 25 = .ok (.aload_n 0, 1) := by decide +kernel
theorem dX9_isLost_26 : decode cX9_isLost 26 = .ok (.getfield 82, 3) := by decide +kernel
theorem dX9_isLost_29 : decode cX9_isLost 29 = .ok (.aload_n 0, 1) := by decide +kernel
theorem dX9_isLost_30 : decode cX9_isLost 30 = .ok (.iload_n 2, 1) := by decide +kernel
theorem dX9_isLost_31 : decode cX9_isLost 31 = .ok (.iload_n 3, 1) := by decide +kernel
theorem dX9_isLost_32 : decode cX9_isLost 32 = .ok (.invokevirtual 194, 3) := by decide +kernel
theorem dX9_isLost_35 : decode cX9_isLost 35 = .ok (.iaload, 1) := by decide +kernel
theorem dX9_isLost_36 : decode cX9_isLost 36 = .ok (.ifCond .lt 17, 3) := by decide +kernel
theorem dX9_isLost_39 : decode cX9_isLost 39 = .ok (.aload_n 0, 1) := by decide +kernel
theorem dX9_isLost_40 : decode cX9_isLost 40 = .ok (.getfield 82, 3) := by decide +kernel
theorem dX9_isLost_43 : decode cX9_isLost 43 = .ok (.aload_n 0, 1) := by decide +kernel
theorem dX9_isLost_44 : decode cX9_isLost 44 = .ok (.iload_n 3, 1) := by decide +kernel
theorem dX9_isLost_45 : decode cX9_isLost 45 = .ok (.iload_n 2, 1) := by decide +kernel
theorem dX9_isLost_46 : decode cX9_isLost 46 = .ok (.invokevirtual 194, 3) := by decide +kernel
theorem dX9_isLost_49 : decode cX9_isLost 49 = .ok (.iaload, 1) := by decide +kernel
theorem dX9_isLost_50 : decode cX9_isLost 50 = .ok (.ifCond .ge 7, 3) := by decide +kernel
theorem dX9_isLost_53 : decode cX9_isLost 53 = .ok (.iconst 1, 1) := by decide +kernel
theorem dX9_isLost_54 : decode cX9_isLost 54 = .ok (.goto 33, 3) := by decide +kernel
theorem dX9_isLost_57 : decode cX9_isLost 57 = .ok (.iconst 0, 1) := by decide +kernel
theorem dX9_isLost_58 : decode cX9_isLost 58 = .ok (.goto 29, 3) := by decide +kernel
theorem dX9_isLost_61 : decode cX9_isLost 61 = .ok (.aload_n 0, 1) := by decide +kernel
theorem dX9_isLost_62 : decode cX9_isLost 62 = .ok (.getfield 82, 3) := by decide +kernel
theorem dX9_isLost_65 : decode cX9_isLost 65 = .ok (.aload_n 0, 1) := by decide +kernel
theorem dX9_isLost_66 : decode cX9_isLost 66 = .ok (.iload_n 3, 1) := by decide +kernel
theorem dX9_isLost_67 : decode cX9_isLost 67 = .ok (.iload_n 2, 1) := by decide +kernel
theorem dX9_isLost_68 : decode cX9_isLost 68 = .ok (.invokevirtual 194, 3) := by decide +kernel
theorem dX9_isLost_71 : decode cX9_isLost 71 = .ok (.iaload, 1) := by decide +kernel
theorem dX9_isLost_72 : decode cX9_isLost 72 = .ok (.aload_n 0, 1) := by decide +kernel
theorem dX9_isLost_73 : decode cX9_isLost 73 = .ok (.getfield 66, 3) := by decide +kernel
theorem dX9_isLost_76 : decode cX9_isLost 76 = .ok (.iload_n 1, 1) := by decide +kernel
theorem dX9_isLost_77 : decode cX9_isLost 77 = .ok (.iaload, 1) := by decide +kernel
theorem dX9_isLost_78 : decode cX9_isLost 78 = .ok (.iadd, 1) := by decide +kernel
theorem dX9_isLost_79 : decode cX9_isLost 79 = .ok (.ifCond .ge 7, 3) := by decide +kernel
theorem dX9_isLost_82 : decode cX9_isLost 82 = .ok (.iconst 1, 1) := by decide +kernel
theorem dX9_isLost_83 : decode cX9_isLost 83 = .ok (.goto 4, 3) := by decide +kernel
theorem dX9_isLost_86 : decode cX9_isLost 86 = .ok (.iconst 0, 1) := by decide +kernel
theorem dX9_isLost_87 : decode cX9_isLost 87 = .ok (.ireturn, 1) := by decide +kernel
theorem dX9_bounds_0 : decode cX9_bounds 0 = .ok (.aload_n 0, 1) := by decide +kernel
theorem dX9_bounds_1 : decode cX9_bounds 1 = .ok (.getfield 82, 3) := by decide +kernel
theorem dX9_bounds_4 : decode cX9_bounds 4 = .ok (.aload_n 0, 1) := by decide +kernel
theorem dX9_bounds_5 : decode cX9_bounds 5 = .ok (.iload_n 1, 1) := by decide +kernel
theorem dX9_bounds_6 : decode cX9_bounds 6 = .ok (.iload_n 2, 1) := by decide +kernel
theorem dX9_bounds_7 : decode cX9_bounds 7 = .ok (.invokevirtual 194, 3) := by decide +kernel
theorem dX9_bounds_10 : decode cX9_bounds 10 = .ok (.iaload, 1) := by decide +kernel
theorem dX9_bounds_11 : decode cX9_bounds 11 = .ok (.iload_n 3, 1) := by decide +kernel
theorem dX9_bounds_12 : decode cX9_bounds 12 = .ok (.if_icmp .gt 4, 3) := by decide +kernel
theorem dX9_bounds_15 : decode cX9_bounds 15 = .ok (.return_, 1) := by decide +kernel
theorem dX9_bounds_16 : decode cX9_bounds 16 = .ok (.iconst 0, 1) := by decide +kernel
theorem dX9_bounds_17 : decode cX9_bounds 17 = .ok (.istore 4, 2) := by decide +kernel
theorem dX9_bounds_19 : decode cX9_bounds 19 = .ok (.iload 4, 2) := by decide +kernel
theorem dX9_bounds_21 : decode cX9_bounds 21 = .ok (.bipush 15, 2) := by decide +kernel
theorem dX9_bounds_23 : decode cX9_bounds 23 = .ok (.if_icmp .ge 87, 3) := by decide +kernel
theorem dX9_bounds_26 : decode cX9_bounds 26 = .ok (.iconst 0, 1) := by decide +kernel
theorem dX9_bounds_27 : decode cX9_bounds 27 = .ok (.istore 5, 2) := by decide +kernel
theorem dX9_bounds_29 : decode cX9_bounds 29 = .ok (.iload 5, 2) := by decide +kernel
theorem dX9_bounds_31 : decode cX9_bounds 31 = .ok (.bipush 15, 2) := by decide +kernel
theorem dX9_bounds_33 : decode cX9_bounds 33 = .ok (.if_icmp .ge 71, 3) := by decide +kernel
theorem dX9_bounds_36 : decode cX9_bounds 36 = .ok (.aload_n 0, 1) := by decide +kernel
theorem dX9_bounds_37 : decode cX9_bounds 37 = .ok (.getfield 82, 3) := by decide +kernel
theorem dX9_bounds_40 : decode cX9_bounds 40 = .ok (.aload_n 0, 1) := by decide +kernel
theorem dX9_bounds_41 : decode cX9_bounds 41 = .ok (.iload 4, 2) := by decide +kernel
theorem dX9_bounds_43 : decode cX9_bounds 43 = .ok (.iload_n 1, 1) := by decide +kernel
theorem dX9_bounds_44 : decode cX9_bounds 44 = .ok (.invokevirtual 194, 3) := by decide +kernel
theorem dX9_bounds_47 : decode cX9_bounds 47 = .ok (.iaload, 1) := by decide +kernel
theorem dX9_bounds_48 : decode cX9_bounds 48 = .ok (.iload_n 3, 1) := by decide +kernel
theorem dX9_bounds_49 : decode cX9_bounds 49 = .ok (.iadd, 1) := by decide +kernel
theorem dX9_bounds_50 : decode cX9_bounds 50 = .ok (.aload_n 0, 1) := by decide +kernel
theorem dX9_bounds_51 : decode cX9_bounds 51 = .ok (.getfield 82, 3) := by decide +kernel
theorem dX9_bounds_54 : decode cX9_bounds 54 = .ok (.aload_n 0, 1) := by decide +kernel
theorem dX9_bounds_55 : decode cX9_bounds 55 = .ok (.iload_n 2, 1) := by decide +kernel
theorem dX9_bounds_56 : decode cX9_bounds 56 = .ok (.iload 5, 2) := by decide +kernel
theorem dX9_bounds_58 : decode cX9_bounds 58 = .ok (.invokevirtual 194, 3) := by decide +kernel
theorem dX9_bounds_61 : decode cX9_bounds 61 = .ok (.iaload, 1) := by decide +kernel
theorem dX9_bounds_62 : decode cX9_bounds 62 = .ok (.iadd, 1) := by decide +kernel
theorem dX9_bounds_63 : decode cX9_bounds 63 = .ok (.istore 6, 2) := by decide +kernel
theorem dX9_bounds_65 : decode cX9_bounds 65 = .ok (.iload 6, 2) := by decide +kernel
theorem dX9_bounds_67 : decode cX9_bounds 67 = .ok (.aload_n 0, 1) := by decide +kernel
theorem dX9_bounds_68 : decode cX9_bounds 68 = .ok (.getfield 82, 3) := by decide +kernel
theorem dX9_bounds_71 : decode cX9_bounds 71 = .ok (.aload_n 0, 1) := by decide +kernel
theorem dX9_bounds_72 : decode cX9_bounds 72 = .ok (.iload 4, 2) := by decide +kernel
theorem dX9_bounds_74 : decode cX9_bounds 74 = .ok (.iload 5, 2) := by decide +kernel
theorem dX9_bounds_76 : decode cX9_bounds 76 = .ok (.invokevirtual 194, 3) := by decide +kernel
theorem dX9_bounds_79 : decode cX9_bounds 79 = .ok (.iaload, 1) := by decide +kernel
theorem dX9_bounds_80 : decode cX9_bounds 80 = .ok (.if_icmp .ge 18, 3) := by decide +kernel
theorem dX9_bounds_83 : decode cX9_bounds 83 = .ok (.aload_n 0, 1) := by decide +kernel
theorem dX9_bounds_84 : decode cX9_bounds 84 = .ok (.getfield 82, 3) := by decide +kernel
theorem dX9_bounds_87 : decode cX9_bounds 87 = .ok (.aload_n 0, 1) := by decide +kernel
theorem dX9_bounds_88 : decode cX9_bounds 88 = .ok (.iload 4, 2) := by decide +kernel
theorem dX9_bounds_90 : decode cX9_bounds 90 = .ok (.iload 5, 2) := by decide +kernel
theorem dX9_bounds_92 : decode cX9_bounds 92 = .ok (.invokevirtual 194, 3) := by decide +kernel
theorem dX9_bounds_95 : decode cX9_bounds 95 = .ok (.iload 6, 2) := by decide +kernel
theorem dX9_bounds_97 : decode cX9_bounds 97 = .ok (.iastore, 1) := by decide +kernel
theorem dX9_bounds_98 : decode cX9_bounds 98 = .ok (.iinc 5 1, 3) := by decide +kernel
theorem dX9_bounds_101 : decode cX9_bounds 101 = .ok (.goto (-72), 3) := by decide +kernel
theorem dX9_bounds_104 : decode cX9_bounds 104 = .ok (.iinc 4 1, 3) := by decide +kernel
theorem dX9_bounds_107 : decode cX9_bounds 107 = .ok (.goto (-88), 3) := by decide +kernel
theorem dX9_bounds_110 : decode cX9_bounds 110 = .ok (.return_, 1) := by decide +kernel
theorem dX9_holds_0 : decode cX9_holds 0 = .ok (.aload_n 0, 1) := by decide +kernel
theorem dX9_holds_1 : decode cX9_holds 1 = .ok (.getfield 66, 3) := by decide +kernel
theorem dX9_holds_4 : decode cX9_holds 4 = .ok (.iload_n 1, 1) := by decide +kernel
theorem dX9_holds_5 : decode cX9_holds 5 = .ok (.iaload, 1) := by decide +kernel
theorem dX9_holds_6 : decode cX9_holds 6 = .ok (.ldc 165, 2) := by decide +kernel
theorem dX9_holds_8 : decode cX9_holds 8 = .ok (.if_icmp .eq 28, 3) := by decide +kernel
theorem dX9_holds_11 : decode cX9_holds 11 = .ok (.aload_n 0, 1) := by decide +kernel
theorem dX9_holds_12 : decode cX9_holds 12 = .ok (.aload_n 0, 1) := by decide +kernel
theorem dX9_holds_13 : decode cX9_holds 13 = .ok (.getfield 60, 3) := by decide +kernel
theorem dX9_holds_16 : decode cX9_holds 16 = .ok (.iload_n 1, 1) := by decide +kernel
theorem dX9_holds_17 : decode cX9_holds 17 = .ok (.iaload, 1) := by decide +kernel
theorem dX9_holds_18 : decode cX9_holds 18 = .ok (.aload_n 0, 1) := by decide +kernel
theorem dX9_holds_19 : decode cX9_holds 19 = .ok (.getfield 63, 3) := by decide +kernel
theorem dX9_holds_22 : decode cX9_holds 22 = .ok (.iload_n 1, 1) := by decide +kernel
theorem dX9_holds_23 : decode cX9_holds 23 = .ok (.iaload, 1) := by decide +kernel
theorem dX9_holds_24 : decode cX9_holds 24 = .ok (.aload_n 0, 1) := by decide +kernel
theorem dX9_holds_25 : decode cX9_holds 25 = .ok (.getfield 66, 3) := by decide +kernel
theorem dX9_holds_28 : decode cX9_holds 28 = .ok (.iload_n 1, 1) := by decide +kernel
theorem dX9_holds_29 : decode cX9_holds 29 = .ok (.iaload, 1) := by decide +kernel
theorem dX9_holds_30 : decode cX9_holds 30 = .ok (.invokevirtual 198, 3) := by decide +kernel
theorem dX9_holds_33 : decode cX9_holds 33 = .ok (.goto 37, 3) := by decide +kernel
theorem dX9_holds_36 : decode cX9_holds 36 = .ok (.aload_n 0, 1) := by decide +kernel
theorem dX9_holds_37 : decode cX9_holds 37 = .ok (.aload_n 0, 1) := by decide +kernel
theorem dX9_holds_38 : decode cX9_holds 38 = .ok (.getfield 60, 3) := by decide +kernel
theorem dX9_holds_41 : decode cX9_holds 41 = .ok (.iload_n 1, 1) := by decide +kernel
theorem dX9_holds_42 : decode cX9_holds 42 = .ok (.iaload, 1) := by decide +kernel
theorem dX9_holds_43 : decode cX9_holds 43 = .ok (.aload_n 0, 1) := by decide +kernel
theorem dX9_holds_44 : decode cX9_holds 44 = .ok (.getfield 63, 3) := by decide +kernel
theorem dX9_holds_47 : decode cX9_holds 47 = .ok (.iload_n 1, 1) := by decide +kernel
theorem dX9_holds_48 : decode cX9_holds 48 = .ok (.iaload, 1) := by decide +kernel
theorem dX9_holds_49 : decode cX9_holds 49 = .ok (.iconst 0, 1) := by decide +kernel
theorem dX9_holds_50 : decode cX9_holds 50 = .ok (.invokevirtual 198, 3) := by decide +kernel
theorem dX9_holds_53 : decode cX9_holds 53 = .ok (.aload_n 0, 1) := by decide +kernel
theorem dX9_holds_54 : decode cX9_holds 54 = .ok (.aload_n 0, 1) := by decide +kernel
theorem dX9_holds_55 : decode cX9_holds 55 = .ok (.getfield 63, 3) := by decide +kernel
theorem dX9_holds_58 : decode cX9_holds 58 = .ok (.iload_n 1, 1) := by decide +kernel
theorem dX9_holds_59 : decode cX9_holds 59 = .ok (.iaload, 1) := by decide +kernel
theorem dX9_holds_60 : decode cX9_holds 60 = .ok (.aload_n 0, 1) := by decide +kernel
theorem dX9_holds_61 : decode cX9_holds 61 = .ok (.getfield 60, 3) := by decide +kernel
theorem dX9_holds_64 : decode cX9_holds 64 = .ok (.iload_n 1, 1) := by decide +kernel
theorem dX9_holds_65 : decode cX9_holds 65 = .ok (.iaload, 1) := by decide +kernel
theorem dX9_holds_66 : decode cX9_holds 66 = .ok (.iconst 0, 1) := by decide +kernel
theorem dX9_holds_67 : decode cX9_holds 67 = .ok (.invokevirtual 198, 3) := by decide +kernel
theorem dX9_holds_70 : decode cX9_holds 70 = .ok (.return_, 1) := by decide +kernel
theorem dX9_base_0 : decode cX9_base 0 = .ok (.aload_n 0, 1) := by decide +kernel
theorem dX9_base_1 : decode cX9_base 1 = .ok (.getfield 72, 3) := by decide +kernel
theorem dX9_base_4 : decode cX9_base 4 = .ok (.aload_n 0, 1) := by decide +kernel
theorem dX9_base_5 : decode cX9_base 5 = .ok (.getfield 201, 3) := by decide +kernel
theorem dX9_base_8 : decode cX9_base 8 = .ok (.iload_n 1, 1) := by decide +kernel
theorem dX9_base_9 : decode cX9_base 9 = .ok (.iastore, 1) := by decide +kernel
theorem dX9_base_10 : decode cX9_base 10 = .ok (.aload_n 0, 1) := by decide +kernel
theorem dX9_base_11 : decode cX9_base 11 = .ok (.getfield 75, 3) := by decide +kernel
theorem dX9_base_14 : decode cX9_base 14 = .ok (.aload_n 0, 1) := by decide +kernel
theorem dX9_base_15 : decode cX9_base 15 = .ok (.getfield 201, 3) := by decide +kernel
theorem dX9_base_18 : decode cX9_base 18 = .ok (.iload_n 2, 1) := by decide +kernel
theorem dX9_base_19 : decode cX9_base 19 = .ok (.iastore, 1) := by decide +kernel
theorem dX9_base_20 : decode cX9_base 20 = .ok (.aload_n 0, 1) := by decide +kernel
theorem dX9_base_21 : decode cX9_base 21 = .ok (.getfield 78, 3) := by decide +kernel
theorem dX9_base_24 : decode cX9_base 24 = .ok (.aload_n 0, 1) := by decide +kernel
theorem dX9_base_25 : decode cX9_base 25 = .ok (.getfield 201, 3) := by decide +kernel
theorem dX9_base_28 : decode cX9_base 28 = .ok (.iload_n 3, 1) := by decide +kernel
theorem dX9_base_29 : decode cX9_base 29 = .ok (.iastore, 1) := by decide +kernel
theorem dX9_base_30 : decode cX9_base 30 = .ok (.aload_n 0, 1) := by decide +kernel
theorem dX9_base_31 : decode cX9_base 31 = .ok (.dup, 1) := by decide +kernel
theorem dX9_base_32 : decode cX9_base 32 = .ok (.getfield 201, 3) := by decide +kernel
theorem dX9_base_35 : decode cX9_base 35 = .ok (.iconst 1, 1) := by decide +kernel
theorem dX9_base_36 : decode cX9_base 36 = .ok (.iadd, 1) := by decide +kernel
theorem dX9_base_37 : decode cX9_base 37 = .ok (.putfield 201, 3) := by decide +kernel
theorem dX9_base_40 : decode cX9_base 40 = .ok (.return_, 1) := by decide +kernel
theorem dX9_isBroken_0 : decode cX9_isBroken 0 = .ok (.iconst 0, 1) := by decide +kernel
theorem dX9_isBroken_1 : decode cX9_isBroken 1 = .ok (.istore_n 1, 1) := by decide +kernel
theorem dX9_isBroken_2 : decode cX9_isBroken 2 = .ok (.iconst 0, 1) := by decide +kernel
theorem dX9_isBroken_3 : decode cX9_isBroken 3 = .ok (.istore_n 2, 1) := by decide +kernel
theorem dX9_isBroken_4 : decode cX9_isBroken 4 = .ok (.iload_n 2, 1) := by decide +kernel
theorem dX9_isBroken_5 : decode cX9_isBroken 5 = .ok (.bipush 15, 2) := by decide +kernel
theorem dX9_isBroken_7 : decode cX9_isBroken 7 = .ok (.if_icmp .ge 31, 3) := by decide +kernel
theorem dX9_isBroken_10 : decode cX9_isBroken 10 = .ok (.iload_n 1, 1) := by decide +kernel
theorem dX9_isBroken_11 : decode cX9_isBroken 11 = .ok (.aload_n 0, 1) := by decide +kernel
theorem dX9_isBroken_12 : decode cX9_isBroken 12 = .ok (.getfield 82, 3) := by decide +kernel
theorem dX9_isBroken_15 : decode cX9_isBroken 15 = .ok (.aload_n 0, 1) := by decide +kernel
theorem dX9_isBroken_16 : decode cX9_isBroken 16 = .ok (.iload_n 2, 1) := by decide +kernel
theorem dX9_isBroken_17 : decode cX9_isBroken 17 = .ok (.iload_n 2, 1) := by decide +kernel
theorem dX9_isBroken_18 : decode cX9_isBroken 18 = .ok (.invokevirtual 194, 3) := by decide +kernel
theorem dX9_isBroken_21 : decode cX9_isBroken 21 = .ok (.iaload, 1) := by decide +kernel
theorem dX9_isBroken_22 : decode cX9_isBroken 22 = .ok (.ifCond .ge 7, 3) := by decide +kernel
theorem dX9_isBroken_25 : decode cX9_isBroken 25 = .ok (.iconst 1, 1) := by decide +kernel
theorem dX9_isBroken_26 : decode cX9_isBroken 26 = .ok (.goto 4, 3) := by decide +kernel
theorem dX9_isBroken_29 : decode cX9_isBroken 29 = .ok (.iconst 0, 1) := by decide +kernel
theorem dX9_isBroken_30 : decode cX9_isBroken 30 = .ok (.ior, 1) := by decide +kernel
theorem dX9_isBroken_31 : decode cX9_isBroken 31 = .ok (.istore_n 1, 1) := by decide +kernel
theorem dX9_isBroken_32 : decode cX9_isBroken 32 = .ok (.iinc 2 1, 3) := by decide +kernel
theorem dX9_isBroken_35 : decode cX9_isBroken 35 = .ok (.goto (-31), 3) := by decide +kernel
theorem dX9_isBroken_38 : decode cX9_isBroken 38 = .ok (.iload_n 1, 1) := by decide +kernel
theorem dX9_isBroken_39 : decode cX9_isBroken 39 = .ok (.ireturn, 1) := by decide +kernel
theorem dX9_begins_0 : decode cX9_begins 0 = .ok (.aload_n 0, 1) := by decide +kernel
theorem dX9_begins_1 : decode cX9_begins 1 = .ok (.iconst 0, 1) := by decide +kernel
theorem dX9_begins_2 : decode cX9_begins 2 = .ok (.putfield 191, 3) := by decide +kernel
theorem dX9_begins_5 : decode cX9_begins 5 = .ok (.iconst 0, 1) := by decide +kernel
theorem dX9_begins_6 : decode cX9_begins 6 = .ok (.istore_n 1, 1) := by decide +kernel
theorem dX9_begins_7 : decode cX9_begins 7 = .ok (.iload_n 1, 1) := by decide +kernel
theorem dX9_begins_8 : decode cX9_begins 8 = .ok (.bipush 15, 2) := by decide +kernel
theorem dX9_begins_10 : decode cX9_begins 10 = .ok (.if_icmp .ge 45, 3) := by decide +kernel
theorem dX9_begins_13 : decode cX9_begins 13 = .ok (.iconst 0, 1) := by decide +kernel
theorem dX9_begins_14 : decode cX9_begins 14 = .ok (.istore_n 2, 1) := by decide +kernel
theorem dX9_begins_15 : decode cX9_begins 15 = .ok (.iload_n 2, 1) := by decide +kernel
theorem dX9_begins_16 : decode cX9_begins 16 = .ok (.bipush 15, 2) := by decide +kernel
theorem dX9_begins_18 : decode cX9_begins 18 = .ok (.if_icmp .ge 31, 3) := by decide +kernel
theorem dX9_begins_21 : decode cX9_begins 21 = .ok (.aload_n 0, 1) := by decide +kernel
theorem dX9_begins_22 : decode cX9_begins 22 = .ok (.getfield 82, 3) := by decide +kernel
theorem dX9_begins_25 : decode cX9_begins 25 = .ok (.aload_n 0, 1) := by decide +kernel
theorem dX9_begins_26 : decode cX9_begins 26 = .ok (.iload_n 1, 1) := by decide +kernel
theorem dX9_begins_27 : decode cX9_begins 27 = .ok (.iload_n 2, 1) := by decide +kernel
theorem dX9_begins_28 : decode cX9_begins 28 = .ok (.invokevirtual 194, 3) := by decide +kernel
theorem dX9_begins_31 : decode cX9_begins 31 = .ok (.iload_n 1, 1) := by decide +kernel
theorem dX9_begins_32 : decode cX9_begins 32 = .ok (.iload_n 2, 1) := by decide +kernel
theorem dX9_begins_33 : decode cX9_begins 33 = .ok (.if_icmp .ne 7, 3) := by decide +kernel
theorem dX9_begins_36 : decode cX9_begins 36 = .ok (.iconst 0, 1) := by decide +kernel
theorem dX9_begins_37 : decode cX9_begins 37 = .ok (.goto 5, 3) := by decide +kernel
theorem dX9_begins_40 : decode cX9_begins 40 = .ok (.ldc 204, 2) := by decide +kernel
theorem dX9_begins_42 : decode cX9_begins 42 = .ok (.iastore, 1) := by decide +kernel
theorem dX9_begins_43 : decode cX9_begins 43 = .ok (.iinc 2 1, 3) := by decide +kernel
theorem dX9_begins_46 : decode cX9_begins 46 = .ok (.goto (-31), 3) := by decide +kernel
theorem dX9_begins_49 : decode cX9_begins 49 = .ok (.iinc 1 1, 3) := by decide +kernel
theorem dX9_begins_52 : decode cX9_begins 52 = .ok (.goto (-45), 3) := by decide +kernel
theorem dX9_begins_55 : decode cX9_begins 55 = .ok (.iconst 0, 1) := by decide +kernel
theorem dX9_begins_56 : decode cX9_begins 56 = .ok (.istore_n 1, 1) := by decide +kernel
theorem dX9_begins_57 : decode cX9_begins 57 = .ok (.iload_n 1, 1) := by decide +kernel
theorem dX9_begins_58 : decode cX9_begins 58 = .ok (.aload_n 0, 1) := by decide +kernel
theorem dX9_begins_59 : decode cX9_begins 59 = .ok (.getfield 201, 3) := by decide +kernel
theorem dX9_begins_62 : decode cX9_begins 62 = .ok (.if_icmp .ge 31, 3) := by decide +kernel
theorem dX9_begins_65 : decode cX9_begins 65 = .ok (.aload_n 0, 1) := by decide +kernel
theorem dX9_begins_66 : decode cX9_begins 66 = .ok (.aload_n 0, 1) := by decide +kernel
theorem dX9_begins_67 : decode cX9_begins 67 = .ok (.getfield 72, 3) := by decide +kernel
theorem dX9_begins_70 : decode cX9_begins 70 = .ok (.iload_n 1, 1) := by decide +kernel
theorem dX9_begins_71 : decode cX9_begins 71 = .ok (.iaload, 1) := by decide +kernel
theorem dX9_begins_72 : decode cX9_begins 72 = .ok (.aload_n 0, 1) := by decide +kernel
theorem dX9_begins_73 : decode cX9_begins 73 = .ok (.getfield 75, 3) := by decide +kernel
theorem dX9_begins_76 : decode cX9_begins 76 = .ok (.iload_n 1, 1) := by decide +kernel
theorem dX9_begins_77 : decode cX9_begins 77 = .ok (.iaload, 1) := by decide +kernel
theorem dX9_begins_78 : decode cX9_begins 78 = .ok (.aload_n 0, 1) := by decide +kernel
theorem dX9_begins_79 : decode cX9_begins 79 = .ok (.getfield 78, 3) := by decide +kernel
theorem dX9_begins_82 : decode cX9_begins 82 = .ok (.iload_n 1, 1) := by decide +kernel
theorem dX9_begins_83 : decode cX9_begins 83 = .ok (.iaload, 1) := by decide +kernel
theorem dX9_begins_84 : decode cX9_begins 84 = .ok (.invokevirtual 198, 3) := by decide +kernel
theorem dX9_begins_87 : decode cX9_begins 87 = .ok (.iinc 1 1, 3) := by decide +kernel
theorem dX9_begins_90 : decode cX9_begins 90 = .ok (.goto (-33), 3) := by decide +kernel
theorem dX9_begins_93 : decode cX9_begins 93 = .ok (.aload_n 0, 1) := by decide +kernel
theorem dX9_begins_94 : decode cX9_begins 94 = .ok (.invokevirtual 205, 3) := by decide +kernel
theorem dX9_begins_97 : decode cX9_begins 97 = .ok (.ifCond .ne 7, 3) := by decide +kernel
theorem dX9_begins_100 : decode cX9_begins 100 = .ok (.iconst 1, 1) := by decide +kernel
theorem dX9_begins_101 : decode cX9_begins 101 = .ok (.goto 4, 3) := by decide +kernel
theorem dX9_begins_104 : decode cX9_begins 104 = .ok (.iconst 0, 1) := by decide +kernel
theorem dX9_begins_105 : decode cX9_begins 105 = .ok (.ireturn, 1) := by decide +kernel
theorem dX9_narrow_0 : decode cX9_narrow 0 = .ok (.iconst (-1), 1) := by decide +kernel
theorem dX9_narrow_1 : decode cX9_narrow 1 = .ok (.istore_n 1, 1) := by decide +kernel
theorem dX9_narrow_2 : decode cX9_narrow 2 = .ok (.ldc 204, 2) := by decide +kernel
theorem dX9_narrow_4 : decode cX9_narrow 4 = .ok (.istore_n 2, 1) := by decide +kernel
theorem dX9_narrow_5 : decode cX9_narrow 5 = .ok (.iconst 0, 1) := by decide +kernel
theorem dX9_narrow_6 : decode cX9_narrow 6 = .ok (.istore_n 3, 1) := by decide +kernel
theorem dX9_narrow_7 : decode cX9_narrow 7 = .ok (.iload_n 3, 1) := by decide +kernel
theorem dX9_narrow_8 : decode cX9_narrow 8 = .ok (.aload_n 0, 1) := by decide +kernel
theorem dX9_narrow_9 : decode cX9_narrow 9 = .ok (.getfield 162, 3) := by decide +kernel
theorem dX9_narrow_12 : decode cX9_narrow 12 = .ok (.if_icmp .ge 130, 3) := by decide +kernel
theorem dX9_narrow_15 : decode cX9_narrow 15 = .ok (.iload_n 3, 1) := by decide +kernel
theorem dX9_narrow_16 : decode cX9_narrow 16 = .ok (.bipush 14, 2) := by decide +kernel
theorem dX9_narrow_18 : decode cX9_narrow 18 = .ok (.if_icmp .ge 23, 3) := by decide +kernel
theorem dX9_narrow_21 : decode cX9_narrow 21 = .ok (.iload_n 3, 1) := by decide +kernel
theorem dX9_narrow_22 : decode cX9_narrow 22 = .ok (.aload_n 0, 1) := by decide +kernel
theorem dX9_narrow_23 : decode cX9_narrow 23 = .ok (.getfield 146, 3) := by decide +kernel
theorem dX9_narrow_26 : decode cX9_narrow 26 = .ok (.if_icmp .ge 110, 3) := by decide +kernel
theorem dX9_narrow_29 : decode cX9_narrow 29 = .ok (.aload_n 0, 1) := by decide +kernel
theorem dX9_narrow_30 : decode cX9_narrow 30 = .ok (.getfield 45, 3) := by decide +kernel
theorem dX9_narrow_33 : decode cX9_narrow 33 = .ok (.iload_n 3, 1) := by decide +kernel
theorem dX9_narrow_34 : decode cX9_narrow 34 = .ok (.baload, 1) := by decide +kernel
theorem dX9_narrow_35 : decode cX9_narrow 35 = .ok (.ifCond .ne 6, 3) := by decide +kernel
theorem dX9_narrow_38 : decode cX9_narrow 38 = .ok (.goto 98, 3) := by decide +kernel
theorem dX9_narrow_41 : decode cX9_narrow 41 = .ok (.iconst 0, 1) := by decide +kernel
theorem dX9_narrow_42 : decode cX9_narrow 42 = .ok (.istore 4, 2) := by decide +kernel
theorem dX9_narrow_44 : decode cX9_narrow 44 = .ok (.iconst 0, 1) := by decide +kernel
theorem dX9_narrow_45 : decode cX9_narrow 45 = .ok (.istore 5, 2) := by decide +kernel
theorem dX9_narrow_47 : decode cX9_narrow 47 = .ok (.aload_n 0, 1) := by decide +kernel
theorem dX9_narrow_48 : decode cX9_narrow 48 = .ok (.getfield 69, 3) := by decide +kernel
theorem dX9_narrow_51 : decode cX9_narrow 51 = .ok (.iload_n 3, 1) := by decide +kernel
theorem dX9_narrow_52 : decode cX9_narrow 52 = .ok (.iaload, 1) := by decide +kernel
theorem dX9_narrow_53 : decode cX9_narrow 53 = .ok (.istore 6, 2) := by decide +kernel
theorem dX9_narrow_55 : decode cX9_narrow 55 = .ok (.iload 5, 2) := by decide +kernel
theorem dX9_narrow_57 : decode cX9_narrow 57 = .ok (.ifCond .ne 49, 3) := by decide +kernel
theorem dX9_narrow_60 : decode cX9_narrow 60 = .ok (.iload 6, 2) := by decide +kernel
theorem dX9_narrow_62 : decode cX9_narrow 62 = .ok (.aload_n 0, 1) := by decide +kernel
theorem dX9_narrow_63 : decode cX9_narrow 63 = .ok (.getfield 69, 3) := by decide +kernel
theorem dX9_narrow_66 : decode cX9_narrow 66 = .ok (.iload_n 3, 1) := by decide +kernel
theorem dX9_narrow_67 : decode cX9_narrow 67 = .ok (.iconst 1, 1) := by decide +kernel
theorem dX9_narrow_68 : decode cX9_narrow 68 = .ok (.iadd, 1) := by decide +kernel
theorem dX9_narrow_69 : decode cX9_narrow 69 = .ok (.iaload, 1) := by decide +kernel
theorem dX9_narrow_70 : decode cX9_narrow 70 = .ok (.if_icmp .ge 36, 3) := by decide +kernel
theorem dX9_narrow_73 : decode cX9_narrow 73 = .ok (.aload_n 0, 1) := by decide +kernel
theorem dX9_narrow_74 : decode cX9_narrow 74 = .ok (.iload 6, 2) := by decide +kernel
theorem dX9_narrow_76 : decode cX9_narrow 76 = .ok (.invokevirtual 209, 3) := by decide +kernel
theorem dX9_narrow_79 : decode cX9_narrow 79 = .ok (.istore 5, 2) := by decide +kernel
theorem dX9_narrow_81 : decode cX9_narrow 81 = .ok (.iload 4, 2) := by decide +kernel
theorem dX9_narrow_83 : decode cX9_narrow 83 = .ok (.aload_n 0, 1) := by decide +kernel
theorem dX9_narrow_84 : decode cX9_narrow 84 = .ok (.iload 6, 2) := by decide +kernel
theorem dX9_narrow_86 : decode cX9_narrow 86 = .ok (.invokevirtual 212, 3) := by decide +kernel
theorem dX9_narrow_89 : decode cX9_narrow 89 = .ok (.ifCond .eq 7, 3) := by decide +kernel
theorem dX9_narrow_92 : decode cX9_narrow 92 = .ok (.iconst 0, 1) := by decide +kernel
theorem dX9_narrow_93 : decode cX9_narrow 93 = .ok (.goto 4, 3) := by decide +kernel
theorem dX9_narrow_96 : decode cX9_narrow 96 = .ok (.iconst 1, 1) := by decide +kernel
theorem dX9_narrow_97 : decode cX9_narrow 97 = .ok (.iadd, 1) := by decide +kernel
theorem dX9_narrow_98 : decode cX9_narrow 98 = .ok (.istore 4, 2) := by decide +kernel
theorem dX9_narrow_100 : decode cX9_narrow 100 = .ok (.iinc 6 1, 3) := by decide +kernel
theorem dX9_narrow_103 : decode cX9_narrow 103 = .ok (.goto (-48), 3) := by decide +kernel
theorem dX9_narrow_106 : decode cX9_narrow 106 = .ok (.iload 5, 2) := by decide +kernel
theorem dX9_narrow_108 : decode cX9_narrow 108 = .ok (.ifCond .eq 6, 3) := by decide +kernel
theorem dX9_narrow_111 : decode cX9_narrow 111 = .ok (.goto 25, 3) := by decide +kernel
theorem dX9_narrow_114 : decode cX9_narrow 114 = .ok (.iload 4, 2) := by decide +kernel
theorem dX9_narrow_116 : decode cX9_narrow 116 = .ok (.ifCond .ne 6, 3) := by decide +kernel
theorem dX9_narrow_119 : decode cX9_narrow 119 = .ok (.bipush (-2), 2) := by decide +kernel
theorem dX9_narrow_121 : decode cX9_narrow 121 = .ok (.ireturn, 1) := by decide +kernel
theorem dX9_narrow_122 : decode cX9_narrow 122 = .ok (.iload 4, 2) := by decide +kernel
theorem dX9_narrow_124 : decode cX9_narrow 124 = .ok (.iload_n 2, 1) := by decide +kernel
theorem dX9_narrow_125 : decode cX9_narrow 125 = .ok (.if_icmp .lt 6, 3) := by decide +kernel
theorem dX9_narrow_128 : decode cX9_narrow 128 = .ok (.goto 8, 3) := by decide +kernel
theorem dX9_narrow_131 : decode cX9_narrow 131 = .ok (.iload 4, 2) := by decide +kernel
theorem dX9_narrow_133 : decode cX9_narrow 133 = .ok (.istore_n 2, 1) := by decide +kernel
theorem dX9_narrow_134 : decode cX9_narrow 134 = .ok (.iload_n 3, 1) := by decide +kernel
theorem dX9_narrow_135 : decode cX9_narrow 135 = .ok (.istore_n 1, 1) := by decide +kernel
theorem dX9_narrow_136 : decode cX9_narrow 136 = .ok (.iinc 3 1, 3) := by decide +kernel
theorem dX9_narrow_139 : decode cX9_narrow 139 = .ok (.goto (-132), 3) := by decide +kernel
theorem dX9_narrow_142 : decode cX9_narrow 142 = .ok (.iload_n 1, 1) := by decide +kernel
theorem dX9_narrow_143 : decode cX9_narrow 143 = .ok (.ireturn, 1) := by decide +kernel
theorem dX9_goes_0 : decode cX9_goes 0 = .ok (.aload_n 0, 1) := by decide +kernel
theorem dX9_goes_1 : decode cX9_goes 1 = .ok (.getfield 191, 3) := by decide +kernel
theorem dX9_goes_4 : decode cX9_goes 4 = .ok (.ifCond .lt 200, 3) := by decide +kernel
theorem dX9_goes_7 : decode cX9_goes 7 = .ok (.aload_n 0, 1) := by decide +kernel
theorem dX9_goes_8 : decode cX9_goes 8 = .ok (.getfield 88, 3) := by decide +kernel
theorem dX9_goes_11 : decode cX9_goes 11 = .ok (.aload_n 0, 1) := by decide +kernel
theorem dX9_goes_12 : decode cX9_goes 12 = .ok (.getfield 191, 3) := by decide +kernel
theorem dX9_goes_15 : decode cX9_goes 15 = .ok (.iaload, 1) := by decide +kernel
theorem dX9_goes_16 : decode cX9_goes 16 = .ok (.istore_n 1, 1) := by decide +kernel
theorem dX9_goes_17 : decode cX9_goes 17 = .ok (.aload_n 0, 1) := by decide +kernel
theorem dX9_goes_18 : decode cX9_goes 18 = .ok (.getfield 69, 3) := by decide +kernel
theorem dX9_goes_21 : decode cX9_goes 21 = .ok (.aload_n 0, 1) := by decide +kernel
theorem dX9_goes_22 : decode cX9_goes 22 = .ok (.getfield 85, 3) := by decide +kernel
theorem dX9_goes_25 : decode cX9_goes 25 = .ok (.aload_n 0, 1) := by decide +kernel
theorem dX9_goes_26 : decode cX9_goes 26 = .ok (.getfield 191, 3) := by decide +kernel
theorem dX9_goes_29 : decode cX9_goes 29 = .ok (.iaload, 1) := by decide +kernel
theorem dX9_goes_30 : decode cX9_goes 30 = .ok (.iconst 1, 1) := by decide +kernel
theorem dX9_goes_31 : decode cX9_goes 31 = .ok (.iadd, 1) := by decide +kernel
theorem dX9_goes_32 : decode cX9_goes 32 = .ok (.iaload, 1) := by decide +kernel
theorem dX9_goes_33 : decode cX9_goes 33 = .ok (.istore_n 2, 1) := by decide +kernel
theorem dX9_goes_34 : decode cX9_goes 34 = .ok (.iload_n 1, 1) := by decide +kernel
theorem dX9_goes_35 : decode cX9_goes 35 = .ok (.iload_n 2, 1) := by decide +kernel
theorem dX9_goes_36 : decode cX9_goes 36 = .ok (.if_icmp .ge 17, 3) := by decide +kernel
theorem dX9_goes_39 : decode cX9_goes 39 = .ok (.aload_n 0, 1) := by decide +kernel
theorem dX9_goes_40 : decode cX9_goes 40 = .ok (.iload_n 1, 1) := by decide +kernel
theorem dX9_goes_41 : decode cX9_goes 41 = .ok (.invokevirtual 212, 3) := by decide +kernel
theorem dX9_goes_44 : decode cX9_goes 44 = .ok (.ifCond .eq 9, 3) := by decide +kernel
theorem dX9_goes_47 : decode cX9_goes 47 = .ok (.iinc 1 1, 3) := by decide +kernel
theorem dX9_goes_50 : decode cX9_goes 50 = .ok (.goto (-16), 3) := by decide +kernel
theorem dX9_goes_53 : decode cX9_goes 53 = .ok (.iload_n 1, 1) := by decide +kernel
theorem dX9_goes_54 : decode cX9_goes 54 = .ok (.iload_n 2, 1) := by decide +kernel
theorem dX9_goes_55 : decode cX9_goes 55 = .ok (.if_icmp .lt 16, 3) := by decide +kernel
theorem dX9_goes_58 : decode cX9_goes 58 = .ok (.aload_n 0, 1) := by decide +kernel
theorem dX9_goes_59 : decode cX9_goes 59 = .ok (.dup, 1) := by decide +kernel
theorem dX9_goes_60 : decode cX9_goes 60 = .ok (.getfield 191, 3) := by decide +kernel
theorem dX9_goes_63 : decode cX9_goes 63 = .ok (.iconst 1, 1) := by decide +kernel
theorem dX9_goes_64 : decode cX9_goes 64 = .ok (.isub, 1) := by decide +kernel
theorem dX9_goes_65 : decode cX9_goes 65 = .ok (.putfield 191, 3) := by decide +kernel
theorem dX9_goes_68 : decode cX9_goes 68 = .ok (.goto (-68), 3) := by decide +kernel
theorem dX9_goes_71 : decode cX9_goes 71 = .ok (.aload_n 0, 1) := by decide +kernel
theorem dX9_goes_72 : decode cX9_goes 72 = .ok (.getfield 88, 3) := by decide +kernel
theorem dX9_goes_75 : decode cX9_goes 75 = .ok (.aload_n 0, 1) := by decide +kernel
theorem dX9_goes_76 : decode cX9_goes 76 = .ok (.getfield 191, 3) := by decide +kernel
theorem dX9_goes_79 : decode cX9_goes 79 = .ok (.iload_n 1, 1) := by decide +kernel
theorem dX9_goes_80 : decode cX9_goes 80 = .ok (.iconst 1, 1) := by decide +kernel
theorem dX9_goes_81 : decode cX9_goes 81 = .ok (.iadd, 1) := by decide +kernel
theorem dX9_goes_82 : decode cX9_goes 82 = .ok (.iastore, 1) := by decide +kernel
theorem dX9_goes_83 : decode cX9_goes 83 = .ok (.sipush 225, 3) := by decide +kernel
theorem dX9_goes_86 : decode cX9_goes 86 = .ok (.aload_n 0, 1) := by decide +kernel
theorem dX9_goes_87 : decode cX9_goes 87 = .ok (.getfield 191, 3) := by decide +kernel
theorem dX9_goes_90 : decode cX9_goes 90 = .ok (.imul, 1) := by decide +kernel
theorem dX9_goes_91 : decode cX9_goes 91 = .ok (.istore_n 3, 1) := by decide +kernel
theorem dX9_goes_92 : decode cX9_goes 92 = .ok (.iconst 0, 1) := by decide +kernel
theorem dX9_goes_93 : decode cX9_goes 93 = .ok (.istore 4, 2) := by decide +kernel
theorem dX9_goes_95 : decode cX9_goes 95 = .ok (.iload 4, 2) := by decide +kernel
theorem dX9_goes_97 : decode cX9_goes 97 = .ok (.sipush 225, 3) := by decide +kernel
theorem dX9_goes_100 : decode cX9_goes 100 = .ok (.if_icmp .ge 31, 3) := by decide +kernel
theorem dX9_goes_103 : decode cX9_goes 103 = .ok (.aload_n 0, 1) := by decide +kernel
theorem dX9_goes_104 : decode cX9_goes 104 = .ok (.getfield 82, 3) := by decide +kernel
theorem dX9_goes_107 : decode cX9_goes 107 = .ok (.iload_n 3, 1) := by decide +kernel
theorem dX9_goes_108 : decode cX9_goes 108 = .ok (.sipush 225, 3) := by decide +kernel
theorem dX9_goes_111 : decode cX9_goes 111 = .ok (.iadd, 1) := by decide +kernel
theorem dX9_goes_112 : decode cX9_goes 112 = .ok (.iload 4, 2) := by decide +kernel
theorem dX9_goes_114 : decode cX9_goes 114 = .ok (.iadd, 1) := by decide +kernel
theorem dX9_goes_115 : decode cX9_goes 115 = .ok (.aload_n 0, 1) := by decide +kernel
theorem dX9_goes_116 : decode cX9_goes 116 = .ok (.getfield 82, 3) := by decide +kernel
theorem dX9_goes_119 : decode cX9_goes 119 = .ok (.iload_n 3, 1) := by decide +kernel
theorem dX9_goes_120 : decode cX9_goes 120 = .ok (.iload 4, 2) := by decide +kernel
theorem dX9_goes_122 : decode cX9_goes 122 = .ok (.iadd, 1) := by decide +kernel
theorem dX9_goes_123 : decode cX9_goes 123 = .ok (.iaload, 1) := by decide +kernel
theorem dX9_goes_124 : decode cX9_goes 124 = .ok (.iastore, 1) := by decide +kernel
theorem dX9_goes_125 : decode cX9_goes 125 = .ok (.iinc 4 1, 3) := by decide +kernel
theorem dX9_goes_128 : decode cX9_goes 128 = .ok (.goto (-33), 3) := by decide +kernel
theorem dX9_goes_131 : decode cX9_goes 131 = .ok (.aload_n 0, 1) := by decide +kernel
theorem dX9_goes_132 : decode cX9_goes 132 = .ok (.dup, 1) := by decide +kernel
theorem dX9_goes_133 : decode cX9_goes 133 = .ok (.getfield 191, 3) := by decide +kernel
theorem dX9_goes_136 : decode cX9_goes 136 = .ok (.iconst 1, 1) := by decide +kernel
theorem dX9_goes_137 : decode cX9_goes 137 = .ok (.iadd, 1) := by decide +kernel
theorem dX9_goes_138 : decode cX9_goes 138 = .ok (.putfield 191, 3) := by decide +kernel
theorem dX9_goes_141 : decode cX9_goes 141 = .ok (.aload_n 0, 1) := by decide +kernel
theorem dX9_goes_142 : decode cX9_goes 142 = .ok (.iload_n 1, 1) := by decide +kernel
theorem dX9_goes_143 : decode cX9_goes 143 = .ok (.invokevirtual 215, 3) := by decide +kernel
theorem dX9_goes_146 : decode cX9_goes 146 = .ok (.aload_n 0, 1) := by decide +kernel
theorem dX9_goes_147 : decode cX9_goes 147 = .ok (.getfield 66, 3) := by decide +kernel
theorem dX9_goes_150 : decode cX9_goes 150 = .ok (.iload_n 1, 1) := by decide +kernel
theorem dX9_goes_151 : decode cX9_goes 151 = .ok (.iaload, 1) := by decide +kernel
theorem dX9_goes_152 : decode cX9_goes 152 = .ok (.ldc 165, 2) := by decide +kernel
theorem dX9_goes_154 : decode cX9_goes 154 = .ok (.if_icmp .eq 48, 3) := by decide +kernel
theorem dX9_goes_157 : decode cX9_goes 157 = .ok (.aload_n 0, 1) := by decide +kernel
theorem dX9_goes_158 : decode cX9_goes 158 = .ok (.dup, 1) := by decide +kernel
theorem dX9_goes_159 : decode cX9_goes 159 = .ok (.getfield 191, 3) := by decide +kernel
theorem dX9_goes_162 : decode cX9_goes 162 = .ok (.iconst 1, 1) := by decide +kernel
theorem dX9_goes_163 : decode cX9_goes 163 = .ok (.isub, 1) := by decide +kernel
theorem dX9_goes_164 : decode cX9_goes 164 = .ok (.putfield 191, 3) := by decide +kernel
theorem dX9_goes_167 : decode cX9_goes 167 = .ok (.aload_n 0, 1) := by decide +kernel
theorem dX9_goes_168 : decode cX9_goes 168 = .ok (.aload_n 0, 1) := by decide +kernel
theorem dX9_goes_169 : decode cX9_goes 169 = .ok (.getfield 63, 3) := by decide +kernel
theorem dX9_goes_172 : decode cX9_goes 172 = .ok (.iload_n 1, 1) := by decide +kernel
theorem dX9_goes_173 : decode cX9_goes 173 = .ok (.iaload, 1) := by decide +kernel
theorem dX9_goes_174 : decode cX9_goes 174 = .ok (.aload_n 0, 1) := by decide +kernel
theorem dX9_goes_175 : decode cX9_goes 175 = .ok (.getfield 60, 3) := by decide +kernel
theorem dX9_goes_178 : decode cX9_goes 178 = .ok (.iload_n 1, 1) := by decide +kernel
theorem dX9_goes_179 : decode cX9_goes 179 = .ok (.iaload, 1) := by decide +kernel
theorem dX9_goes_180 : decode cX9_goes 180 = .ok (.aload_n 0, 1) := by decide +kernel
theorem dX9_goes_181 : decode cX9_goes 181 = .ok (.getfield 66, 3) := by decide +kernel
theorem dX9_goes_184 : decode cX9_goes 184 = .ok (.iload_n 1, 1) := by decide +kernel
theorem dX9_goes_185 : decode cX9_goes 185 = .ok (.iaload, 1) := by decide +kernel
theorem dX9_goes_186 : decode cX9_goes 186 = .ok (.ineg, 1) := by decide +kernel
theorem dX9_goes_187 : decode cX9_goes 187 = .ok (.iconst 1, 1) := by decide +kernel
theorem dX9_goes_188 : decode cX9_goes 188 = .ok (.isub, 1) := by decide +kernel
theorem dX9_goes_189 : decode cX9_goes 189 = .ok (.invokevirtual 198, 3) := by decide +kernel
theorem dX9_goes_192 : decode cX9_goes 192 = .ok (.aload_n 0, 1) := by decide +kernel
theorem dX9_goes_193 : decode cX9_goes 193 = .ok (.dup, 1) := by decide +kernel
theorem dX9_goes_194 : decode cX9_goes 194 = .ok (.getfield 191, 3) := by decide +kernel
theorem dX9_goes_197 : decode cX9_goes 197 = .ok (.iconst 1, 1) := by decide +kernel
theorem dX9_goes_198 : decode cX9_goes 198 = .ok (.iadd, 1) := by decide +kernel
theorem dX9_goes_199 : decode cX9_goes 199 = .ok (.putfield 191, 3) := by decide +kernel
theorem dX9_goes_202 : decode cX9_goes 202 = .ok (.iconst 1, 1) := by decide +kernel
theorem dX9_goes_203 : decode cX9_goes 203 = .ok (.ireturn, 1) := by decide +kernel
theorem dX9_goes_204 : decode cX9_goes 204 = .ok (.iconst 0, 1) := by decide +kernel
theorem dX9_goes_205 : decode cX9_goes 205 = .ok (.ireturn, 1) := by decide +kernel
theorem dX9_can_0 : decode cX9_can 0 = .ok (.aload_n 0, 1) := by decide +kernel
theorem dX9_can_1 : decode cX9_can 1 = .ok (.invokevirtual 218, 3) := by decide +kernel
theorem dX9_can_4 : decode cX9_can 4 = .ok (.aload_n 0, 1) := by decide +kernel
theorem dX9_can_5 : decode cX9_can 5 = .ok (.invokevirtual 221, 3) := by decide +kernel
theorem dX9_can_8 : decode cX9_can 8 = .ok (.ifCond .ne 5, 3) := by decide +kernel
theorem dX9_can_11 : decode cX9_can 11 = .ok (.iconst 0, 1) := by decide +kernel
theorem dX9_can_12 : decode cX9_can 12 = .ok (.ireturn, 1) := by decide +kernel
theorem dX9_can_13 : decode cX9_can 13 = .ok (.aload_n 0, 1) := by decide +kernel
theorem dX9_can_14 : decode cX9_can 14 = .ok (.invokevirtual 224, 3) := by decide +kernel
theorem dX9_can_17 : decode cX9_can 17 = .ok (.istore_n 1, 1) := by decide +kernel
theorem dX9_can_18 : decode cX9_can 18 = .ok (.iload_n 1, 1) := by decide +kernel
theorem dX9_can_19 : decode cX9_can 19 = .ok (.iconst (-1), 1) := by decide +kernel
theorem dX9_can_20 : decode cX9_can 20 = .ok (.if_icmp .ne 5, 3) := by decide +kernel
theorem dX9_can_23 : decode cX9_can 23 = .ok (.iconst 1, 1) := by decide +kernel
theorem dX9_can_24 : decode cX9_can 24 = .ok (.ireturn, 1) := by decide +kernel
theorem dX9_can_25 : decode cX9_can 25 = .ok (.iload_n 1, 1) := by decide +kernel
theorem dX9_can_26 : decode cX9_can 26 = .ok (.ifCond .lt 31, 3) := by decide +kernel
theorem dX9_can_29 : decode cX9_can 29 = .ok (.aload_n 0, 1) := by decide +kernel
theorem dX9_can_30 : decode cX9_can 30 = .ok (.getfield 85, 3) := by decide +kernel
theorem dX9_can_33 : decode cX9_can 33 = .ok (.aload_n 0, 1) := by decide +kernel
theorem dX9_can_34 : decode cX9_can 34 = .ok (.getfield 191, 3) := by decide +kernel
theorem dX9_can_37 : decode cX9_can 37 = .ok (.iload_n 1, 1) := by decide +kernel
theorem dX9_can_38 : decode cX9_can 38 = .ok (.iastore, 1) := by decide +kernel
theorem dX9_can_39 : decode cX9_can 39 = .ok (.aload_n 0, 1) := by decide +kernel
theorem dX9_can_40 : decode cX9_can 40 = .ok (.getfield 88, 3) := by decide +kernel
theorem dX9_can_43 : decode cX9_can 43 = .ok (.aload_n 0, 1) := by decide +kernel
theorem dX9_can_44 : decode cX9_can 44 = .ok (.getfield 191, 3) := by decide +kernel
theorem dX9_can_47 : decode cX9_can 47 = .ok (.aload_n 0, 1) := by decide +kernel
theorem dX9_can_48 : decode cX9_can 48 = .ok (.getfield 69, 3) := by decide +kernel
theorem dX9_can_51 : decode cX9_can 51 = .ok (.iload_n 1, 1) := by decide +kernel
theorem dX9_can_52 : decode cX9_can 52 = .ok (.iaload, 1) := by decide +kernel
theorem dX9_can_53 : decode cX9_can 53 = .ok (.iastore, 1) := by decide +kernel
theorem dX9_can_54 : decode cX9_can 54 = .ok (.goto 13, 3) := by decide +kernel
theorem dX9_can_57 : decode cX9_can 57 = .ok (.aload_n 0, 1) := by decide +kernel
theorem dX9_can_58 : decode cX9_can 58 = .ok (.dup, 1) := by decide +kernel
theorem dX9_can_59 : decode cX9_can 59 = .ok (.getfield 191, 3) := by decide +kernel
theorem dX9_can_62 : decode cX9_can 62 = .ok (.iconst 1, 1) := by decide +kernel
theorem dX9_can_63 : decode cX9_can 63 = .ok (.isub, 1) := by decide +kernel
theorem dX9_can_64 : decode cX9_can 64 = .ok (.putfield 191, 3) := by decide +kernel
theorem dX9_can_67 : decode cX9_can 67 = .ok (.aload_n 0, 1) := by decide +kernel
theorem dX9_can_68 : decode cX9_can 68 = .ok (.invokevirtual 228, 3) := by decide +kernel
theorem dX9_can_71 : decode cX9_can 71 = .ok (.ifCond .ne 5, 3) := by decide +kernel
theorem dX9_can_74 : decode cX9_can 74 = .ok (.iconst 0, 1) := by decide +kernel
theorem dX9_can_75 : decode cX9_can 75 = .ok (.ireturn, 1) := by decide +kernel
theorem dX9_can_76 : decode cX9_can 76 = .ok (.goto (-63), 3) := by decide +kernel
theorem dX9_canWith_0 : decode cX9_canWith 0 = .ok (.aload_n 0, 1) := by decide +kernel
theorem dX9_canWith_1 : decode cX9_canWith 1 = .ok (.iload_n 1, 1) := by decide +kernel
theorem dX9_canWith_2 : decode cX9_canWith 2 = .ok (.iload_n 2, 1) := by decide +kernel
theorem dX9_canWith_3 : decode cX9_canWith 3 = .ok (.iload_n 3, 1) := by decide +kernel
theorem dX9_canWith_4 : decode cX9_canWith 4 = .ok (.invokevirtual 231, 3) := by decide +kernel
theorem dX9_canWith_7 : decode cX9_canWith 7 = .ok (.aload_n 0, 1) := by decide +kernel
theorem dX9_canWith_8 : decode cX9_canWith 8 = .ok (.invokevirtual 234, 3) := by decide +kernel
theorem dX9_canWith_11 : decode cX9_canWith 11 = .ok (.istore 4, 2) := by decide +kernel
theorem dX9_canWith_13 : decode cX9_canWith 13 = .ok (.aload_n 0, 1) := by decide +kernel
theorem dX9_canWith_14 : decode cX9_canWith 14 = .ok (.dup, 1) := by decide +kernel
theorem dX9_canWith_15 : decode cX9_canWith 15 = .ok (.getfield 201, 3) := by decide +kernel
theorem dX9_canWith_18 : decode cX9_canWith 18 = .ok (.iconst 1, 1) := by decide +kernel
theorem dX9_canWith_19 : decode cX9_canWith 19 = .ok (.isub, 1) := by decide +kernel
theorem dX9_canWith_20 : decode cX9_canWith 20 = .ok (.putfield 201, 3) := by decide +kernel
theorem dX9_canWith_23 : decode cX9_canWith 23 = .ok (.iload 4, 2) := by decide +kernel
theorem dX9_canWith_25 : decode cX9_canWith 25 = .ok (.ireturn, 1) := by decide +kernel
theorem dX9_usesAll_0 : decode cX9_usesAll 0 = .ok (.iconst 0, 1) := by decide +kernel
theorem dX9_usesAll_1 : decode cX9_usesAll 1 = .ok (.istore_n 1, 1) := by decide +kernel
theorem dX9_usesAll_2 : decode cX9_usesAll 2 = .ok (.iload_n 1, 1) := by decide +kernel
theorem dX9_usesAll_3 : decode cX9_usesAll 3 = .ok (.bipush 14, 2) := by decide +kernel
theorem dX9_usesAll_5 : decode cX9_usesAll 5 = .ok (.if_icmp .ge 16, 3) := by decide +kernel
theorem dX9_usesAll_8 : decode cX9_usesAll 8 = .ok (.aload_n 0, 1) := by decide +kernel
theorem dX9_usesAll_9 : decode cX9_usesAll 9 = .ok (.getfield 45, 3) := by decide +kernel
theorem dX9_usesAll_12 : decode cX9_usesAll 12 = .ok (.iload_n 1, 1) := by decide +kernel
theorem dX9_usesAll_13 : decode cX9_usesAll 13 = .ok (.iconst 1, 1) := by decide +kernel
theorem dX9_usesAll_14 : decode cX9_usesAll 14 = .ok (.bastore, 1) := by decide +kernel
theorem dX9_usesAll_15 : decode cX9_usesAll 15 = .ok (.iinc 1 1, 3) := by decide +kernel
theorem dX9_usesAll_18 : decode cX9_usesAll 18 = .ok (.goto (-16), 3) := by decide +kernel
theorem dX9_usesAll_21 : decode cX9_usesAll 21 = .ok (.return_, 1) := by decide +kernel
theorem dX9_canNow_0 : decode cX9_canNow 0 = .ok (.aload_n 0, 1) := by decide +kernel
theorem dX9_canNow_1 : decode cX9_canNow 1 = .ok (.invokevirtual 237, 3) := by decide +kernel
theorem dX9_canNow_4 : decode cX9_canNow 4 = .ok (.aload_n 0, 1) := by decide +kernel
theorem dX9_canNow_5 : decode cX9_canNow 5 = .ok (.iconst 0, 1) := by decide +kernel
theorem dX9_canNow_6 : decode cX9_canNow 6 = .ok (.putfield 201, 3) := by decide +kernel
theorem dX9_canNow_9 : decode cX9_canNow 9 = .ok (.aload_n 0, 1) := by decide +kernel
theorem dX9_canNow_10 : decode cX9_canNow 10 = .ok (.invokevirtual 234, 3) := by decide +kernel
theorem dX9_canNow_13 : decode cX9_canNow 13 = .ok (.ireturn, 1) := by decide +kernel
theorem dX9_check_0 : decode cX9_check 0 = .ok (.aload_n 0, 1) := by decide +kernel
theorem dX9_check_1 : decode cX9_check 1 = .ok (.invokevirtual 240, 3) := by decide +kernel
theorem dX9_check_4 : decode cX9_check 4 = .ok (.ireturn, 1) := by decide +kernel
theorem dX9_cores_0 : decode cX9_cores 0 = .ok (.aload_n 0, 1) := by decide +kernel
theorem dX9_cores_1 : decode cX9_cores 1 = .ok (.getfield 111, 3) := by decide +kernel
theorem dX9_cores_4 : decode cX9_cores 4 = .ok (.ifCond .eq 4, 3) := by decide +kernel
theorem dX9_cores_7 : decode cX9_cores 7 = .ok (.return_, 1) := by decide +kernel
theorem dX9_cores_8 : decode cX9_cores 8 = .ok (.aload_n 0, 1) := by decide +kernel
theorem dX9_cores_9 : decode cX9_cores 9 = .ok (.invokevirtual 237, 3) := by decide +kernel
theorem dX9_cores_12 : decode cX9_cores 12 = .ok (.aload_n 0, 1) := by decide +kernel
theorem dX9_cores_13 : decode cX9_cores 13 = .ok (.iconst 0, 1) := by decide +kernel
theorem dX9_cores_14 : decode cX9_cores 14 = .ok (.putfield 201, 3) := by decide +kernel
theorem dX9_cores_17 : decode cX9_cores 17 = .ok (.iconst 0, 1) := by decide +kernel
theorem dX9_cores_18 : decode cX9_cores 18 = .ok (.istore_n 1, 1) := by decide +kernel
theorem dX9_cores_19 : decode cX9_cores 19 = .ok (.iload_n 1, 1) := by decide +kernel
theorem dX9_cores_20 : decode cX9_cores 20 = .ok (.aload_n 0, 1) := by decide +kernel
theorem dX9_cores_21 : decode cX9_cores 21 = .ok (.getfield 146, 3) := by decide +kernel
theorem dX9_cores_24 : decode cX9_cores 24 = .ok (.if_icmp .ge 30, 3) := by decide +kernel
theorem dX9_cores_27 : decode cX9_cores 27 = .ok (.aload_n 0, 1) := by decide +kernel
theorem dX9_cores_28 : decode cX9_cores 28 = .ok (.getfield 45, 3) := by decide +kernel
theorem dX9_cores_31 : decode cX9_cores 31 = .ok (.iload_n 1, 1) := by decide +kernel
theorem dX9_cores_32 : decode cX9_cores 32 = .ok (.iconst 0, 1) := by decide +kernel
theorem dX9_cores_33 : decode cX9_cores 33 = .ok (.bastore, 1) := by decide +kernel
theorem dX9_cores_34 : decode cX9_cores 34 = .ok (.aload_n 0, 1) := by decide +kernel
theorem dX9_cores_35 : decode cX9_cores 35 = .ok (.invokevirtual 234, 3) := by decide +kernel
theorem dX9_cores_38 : decode cX9_cores 38 = .ok (.ifCond .eq 10, 3) := by decide +kernel
theorem dX9_cores_41 : decode cX9_cores 41 = .ok (.aload_n 0, 1) := by decide +kernel
theorem dX9_cores_42 : decode cX9_cores 42 = .ok (.getfield 45, 3) := by decide +kernel
theorem dX9_cores_45 : decode cX9_cores 45 = .ok (.iload_n 1, 1) := by decide +kernel
theorem dX9_cores_46 : decode cX9_cores 46 = .ok (.iconst 1, 1) := by decide +kernel
theorem dX9_cores_47 : decode cX9_cores 47 = .ok (.bastore, 1) := by decide +kernel
theorem dX9_cores_48 : decode cX9_cores 48 = .ok (.iinc 1 1, 3) := by decide +kernel
theorem dX9_cores_51 : decode cX9_cores 51 = .ok (.goto (-32), 3) := by decide +kernel
theorem dX9_cores_54 : decode cX9_cores 54 = .ok (.iconst 0, 1) := by decide +kernel
theorem dX9_cores_55 : decode cX9_cores 55 = .ok (.istore_n 1, 1) := by decide +kernel
theorem dX9_cores_56 : decode cX9_cores 56 = .ok (.iload_n 1, 1) := by decide +kernel
theorem dX9_cores_57 : decode cX9_cores 57 = .ok (.aload_n 0, 1) := by decide +kernel
theorem dX9_cores_58 : decode cX9_cores 58 = .ok (.getfield 146, 3) := by decide +kernel
theorem dX9_cores_61 : decode cX9_cores 61 = .ok (.if_icmp .ge 21, 3) := by decide +kernel
theorem dX9_cores_64 : decode cX9_cores 64 = .ok (.aload_n 0, 1) := by decide +kernel
theorem dX9_cores_65 : decode cX9_cores 65 = .ok (.getfield 48, 3) := by decide +kernel
theorem dX9_cores_68 : decode cX9_cores 68 = .ok (.iload_n 1, 1) := by decide +kernel
theorem dX9_cores_69 : decode cX9_cores 69 = .ok (.aload_n 0, 1) := by decide +kernel
theorem dX9_cores_70 : decode cX9_cores 70 = .ok (.getfield 45, 3) := by decide +kernel
theorem dX9_cores_73 : decode cX9_cores 73 = .ok (.iload_n 1, 1) := by decide +kernel
theorem dX9_cores_74 : decode cX9_cores 74 = .ok (.baload, 1) := by decide +kernel
theorem dX9_cores_75 : decode cX9_cores 75 = .ok (.bastore, 1) := by decide +kernel
theorem dX9_cores_76 : decode cX9_cores 76 = .ok (.iinc 1 1, 3) := by decide +kernel
theorem dX9_cores_79 : decode cX9_cores 79 = .ok (.goto (-23), 3) := by decide +kernel
theorem dX9_cores_82 : decode cX9_cores 82 = .ok (.aload_n 0, 1) := by decide +kernel
theorem dX9_cores_83 : decode cX9_cores 83 = .ok (.iconst 1, 1) := by decide +kernel
theorem dX9_cores_84 : decode cX9_cores 84 = .ok (.putfield 111, 3) := by decide +kernel
theorem dX9_cores_87 : decode cX9_cores 87 = .ok (.return_, 1) := by decide +kernel
theorem dX9_must_0 : decode cX9_must 0 = .ok (.iload_n 1, 1) := by decide +kernel
theorem dX9_must_1 : decode cX9_must 1 = .ok (.iconst 2, 1) := by decide +kernel
theorem dX9_must_2 : decode cX9_must 2 = .ok (.idiv, 1) := by decide +kernel
theorem dX9_must_3 : decode cX9_must 3 = .ok (.istore_n 2, 1) := by decide +kernel
theorem dX9_must_4 : decode cX9_must 4 = .ok (.aload_n 0, 1) := by decide +kernel
theorem dX9_must_5 : decode cX9_must 5 = .ok (.getfield 32, 3) := by decide +kernel
theorem dX9_must_8 : decode cX9_must 8 = .ok (.iload_n 2, 1) := by decide +kernel
theorem dX9_must_9 : decode cX9_must 9 = .ok (.iaload, 1) := by decide +kernel
theorem dX9_must_10 : decode cX9_must 10 = .ok (.istore_n 3, 1) := by decide +kernel
theorem dX9_must_11 : decode cX9_must 11 = .ok (.aload_n 0, 1) := by decide +kernel
theorem dX9_must_12 : decode cX9_must 12 = .ok (.getfield 35, 3) := by decide +kernel
theorem dX9_must_15 : decode cX9_must 15 = .ok (.iload_n 2, 1) := by decide +kernel
theorem dX9_must_16 : decode cX9_must 16 = .ok (.iaload, 1) := by decide +kernel
theorem dX9_must_17 : decode cX9_must 17 = .ok (.istore 4, 2) := by decide +kernel
theorem dX9_must_19 : decode cX9_must 19 = .ok (.aload_n 0, 1) := by decide +kernel
theorem dX9_must_20 : decode cX9_must 20 = .ok (.iconst 0, 1) := by decide +kernel
theorem dX9_must_21 : decode cX9_must 21 = .ok (.putfield 201, 3) := by decide +kernel
theorem dX9_must_24 : decode cX9_must 24 = .ok (.aload_n 0, 1) := by decide +kernel
theorem dX9_must_25 : decode cX9_must 25 = .ok (.getfield 41, 3) := by decide +kernel
theorem dX9_must_28 : decode cX9_must 28 = .ok (.iload_n 2, 1) := by decide +kernel
theorem dX9_must_29 : decode cX9_must 29 = .ok (.baload, 1) := by decide +kernel
theorem dX9_must_30 : decode cX9_must 30 = .ok (.ifCond .eq 37, 3) := by decide +kernel
theorem dX9_must_33 : decode cX9_must 33 = .ok (.iload_n 1, 1) := by decide +kernel
theorem dX9_must_34 : decode cX9_must 34 = .ok (.iconst 2, 1) := by decide +kernel
theorem dX9_must_35 : decode cX9_must 35 = .ok (.irem, 1) := by decide +kernel
theorem dX9_must_36 : decode cX9_must 36 = .ok (.ifCond .ne 31, 3) := by decide +kernel
theorem dX9_must_39 : decode cX9_must 39 = .ok (.aload_n 0, 1) := by decide +kernel
theorem dX9_must_40 : decode cX9_must 40 = .ok (.iload_n 3, 1) := by decide +kernel
theorem dX9_must_41 : decode cX9_must 41 = .ok (.iload 4, 2) := by decide +kernel
theorem dX9_must_43 : decode cX9_must 43 = .ok (.iconst (-1), 1) := by decide +kernel
theorem dX9_must_44 : decode cX9_must 44 = .ok (.invokevirtual 243, 3) := by decide +kernel
theorem dX9_must_47 : decode cX9_must 47 = .ok (.ifCond .ne 18, 3) := by decide +kernel
theorem dX9_must_50 : decode cX9_must 50 = .ok (.aload_n 0, 1) := by decide +kernel
theorem dX9_must_51 : decode cX9_must 51 = .ok (.iload 4, 2) := by decide +kernel
theorem dX9_must_53 : decode cX9_must 53 = .ok (.iload_n 3, 1) := by decide +kernel
theorem dX9_must_54 : decode cX9_must 54 = .ok (.iconst (-1), 1) := by decide +kernel
theorem dX9_must_55 : decode cX9_must 55 = .ok (.invokevirtual 243, 3) := by decide +kernel
theorem dX9_must_58 : decode cX9_must 58 = .ok (.ifCond .ne 7, 3) := by decide +kernel
theorem dX9_must_61 : decode cX9_must 61 = .ok (.iconst 1, 1) := by decide +kernel
theorem dX9_must_62 : decode cX9_must 62 = .ok (.goto 4, 3) := by decide +kernel
theorem dX9_must_65 : decode cX9_must 65 = .ok (.iconst 0, 1) := by decide +kernel
theorem dX9_must_66 : decode cX9_must 66 = .ok (.ireturn, 1) := by decide +kernel
theorem dX9_must_67 : decode cX9_must 67 = .ok (.aload_n 0, 1) := by decide +kernel
theorem dX9_must_68 : decode cX9_must 68 = .ok (.getfield 41, 3) := by decide +kernel
theorem dX9_must_71 : decode cX9_must 71 = .ok (.iload_n 2, 1) := by decide +kernel
theorem dX9_must_72 : decode cX9_must 72 = .ok (.baload, 1) := by decide +kernel
theorem dX9_must_73 : decode cX9_must 73 = .ok (.ifCond .ne 58, 3) := by decide +kernel
theorem dX9_must_76 : decode cX9_must 76 = .ok (.iload_n 1, 1) := by decide +kernel
theorem dX9_must_77 : decode cX9_must 77 = .ok (.iconst 2, 1) := by decide +kernel
theorem dX9_must_78 : decode cX9_must 78 = .ok (.irem, 1) := by decide +kernel
theorem dX9_must_79 : decode cX9_must 79 = .ok (.ifCond .ne 30, 3) := by decide +kernel
theorem dX9_must_82 : decode cX9_must 82 = .ok (.aload_n 0, 1) := by decide +kernel
theorem dX9_must_83 : decode cX9_must 83 = .ok (.iload 4, 2) := by decide +kernel
theorem dX9_must_85 : decode cX9_must 85 = .ok (.iload_n 3, 1) := by decide +kernel
theorem dX9_must_86 : decode cX9_must 86 = .ok (.aload_n 0, 1) := by decide +kernel
theorem dX9_must_87 : decode cX9_must 87 = .ok (.getfield 38, 3) := by decide +kernel
theorem dX9_must_90 : decode cX9_must 90 = .ok (.iload_n 2, 1) := by decide +kernel
theorem dX9_must_91 : decode cX9_must 91 = .ok (.iaload, 1) := by decide +kernel
theorem dX9_must_92 : decode cX9_must 92 = .ok (.ineg, 1) := by decide +kernel
theorem dX9_must_93 : decode cX9_must 93 = .ok (.iconst 1, 1) := by decide +kernel
theorem dX9_must_94 : decode cX9_must 94 = .ok (.isub, 1) := by decide +kernel
theorem dX9_must_95 : decode cX9_must 95 = .ok (.invokevirtual 243, 3) := by decide +kernel
theorem dX9_must_98 : decode cX9_must 98 = .ok (.ifCond .ne 7, 3) := by decide +kernel
theorem dX9_must_101 : decode cX9_must 101 = .ok (.iconst 1, 1) := by decide +kernel
theorem dX9_must_102 : decode cX9_must 102 = .ok (.goto 28, 3) := by decide +kernel
theorem dX9_must_105 : decode cX9_must 105 = .ok (.iconst 0, 1) := by decide +kernel
theorem dX9_must_106 : decode cX9_must 106 = .ok (.goto 24, 3) := by decide +kernel
theorem dX9_must_109 : decode cX9_must 109 = .ok (.aload_n 0, 1) := by decide +kernel
theorem dX9_must_110 : decode cX9_must 110 = .ok (.iload_n 3, 1) := by decide +kernel
theorem dX9_must_111 : decode cX9_must 111 = .ok (.iload 4, 2) := by decide +kernel
theorem dX9_must_113 : decode cX9_must 113 = .ok (.aload_n 0, 1) := by decide +kernel
theorem dX9_must_114 : decode cX9_must 114 = .ok (.getfield 38, 3) := by decide +kernel
theorem dX9_must_117 : decode cX9_must 117 = .ok (.iload_n 2, 1) := by decide +kernel
theorem dX9_must_118 : decode cX9_must 118 = .ok (.iaload, 1) := by decide +kernel
theorem dX9_must_119 : decode cX9_must 119 = .ok (.invokevirtual 243, 3) := by decide +kernel
theorem dX9_must_122 : decode cX9_must 122 = .ok (.ifCond .ne 7, 3) := by decide +kernel
theorem dX9_must_125 : decode cX9_must 125 = .ok (.iconst 1, 1) := by decide +kernel
theorem dX9_must_126 : decode cX9_must 126 = .ok (.goto 4, 3) := by decide +kernel
theorem dX9_must_129 : decode cX9_must 129 = .ok (.iconst 0, 1) := by decide +kernel
theorem dX9_must_130 : decode cX9_must 130 = .ok (.ireturn, 1) := by decide +kernel
theorem dX9_must_131 : decode cX9_must 131 = .ok (.aload_n 0, 1) := by decide +kernel
theorem dX9_must_132 : decode cX9_must 132 = .ok (.iload_n 3, 1) := by decide +kernel
theorem dX9_must_133 : decode cX9_must 133 = .ok (.iload 4, 2) := by decide +kernel
theorem dX9_must_135 : decode cX9_must 135 = .ok (.iconst 0, 1) := by decide +kernel
theorem dX9_must_136 : decode cX9_must 136 = .ok (.invokevirtual 231, 3) := by decide +kernel
theorem dX9_must_139 : decode cX9_must 139 = .ok (.aload_n 0, 1) := by decide +kernel
theorem dX9_must_140 : decode cX9_must 140 = .ok (.iload 4, 2) := by decide +kernel
theorem dX9_must_142 : decode cX9_must 142 = .ok (.iload_n 3, 1) := by decide +kernel
theorem dX9_must_143 : decode cX9_must 143 = .ok (.iconst 0, 1) := by decide +kernel
theorem dX9_must_144 : decode cX9_must 144 = .ok (.invokevirtual 243, 3) := by decide +kernel
theorem dX9_must_147 : decode cX9_must 147 = .ok (.ifCond .ne 7, 3) := by decide +kernel
theorem dX9_must_150 : decode cX9_must 150 = .ok (.iconst 1, 1) := by decide +kernel
theorem dX9_must_151 : decode cX9_must 151 = .ok (.goto 4, 3) := by decide +kernel
theorem dX9_must_154 : decode cX9_must 154 = .ok (.iconst 0, 1) := by decide +kernel
theorem dX9_must_155 : decode cX9_must 155 = .ok (.istore 5, 2) := by decide +kernel
theorem dX9_must_157 : decode cX9_must 157 = .ok (.aload_n 0, 1) := by decide +kernel
theorem dX9_must_158 : decode cX9_must 158 = .ok (.iconst 0, 1) := by decide +kernel
theorem dX9_must_159 : decode cX9_must 159 = .ok (.putfield 201, 3) := by decide +kernel
theorem dX9_must_162 : decode cX9_must 162 = .ok (.iload 5, 2) := by decide +kernel
theorem dX9_must_164 : decode cX9_must 164 = .ok (.ireturn, 1) := by decide +kernel
theorem dX9_count_0 : decode cX9_count 0 = .ok (.iconst 0, 1) := by decide +kernel
theorem dX9_count_1 : decode cX9_count 1 = .ok (.istore_n 2, 1) := by decide +kernel
theorem dX9_count_2 : decode cX9_count 2 = .ok (.iconst 0, 1) := by decide +kernel
theorem dX9_count_3 : decode cX9_count 3 = .ok (.istore_n 3, 1) := by decide +kernel
theorem dX9_count_4 : decode cX9_count 4 = .ok (.iload_n 3, 1) := by decide +kernel
theorem dX9_count_5 : decode cX9_count 5 = .ok (.iload_n 1, 1) := by decide +kernel
theorem dX9_count_6 : decode cX9_count 6 = .ok (.if_icmp .ge 23, 3) := by decide +kernel
theorem dX9_count_9 : decode cX9_count 9 = .ok (.iload_n 2, 1) := by decide +kernel
theorem dX9_count_10 : decode cX9_count 10 = .ok (.aload_n 0, 1) := by decide +kernel
theorem dX9_count_11 : decode cX9_count 11 = .ok (.iload_n 3, 1) := by decide +kernel
theorem dX9_count_12 : decode cX9_count 12 = .ok (.baload, 1) := by decide +kernel
theorem dX9_count_13 : decode cX9_count 13 = .ok (.ifCond .eq 7, 3) := by decide +kernel
theorem dX9_count_16 : decode cX9_count 16 = .ok (.iconst 1, 1) := by decide +kernel
theorem dX9_count_17 : decode cX9_count 17 = .ok (.goto 4, 3) := by decide +kernel
theorem dX9_count_20 : decode cX9_count 20 = .ok (.iconst 0, 1) := by decide +kernel
theorem dX9_count_21 : decode cX9_count 21 = .ok (.iadd, 1) := by decide +kernel
theorem dX9_count_22 : decode cX9_count 22 = .ok (.istore_n 2, 1) := by decide +kernel
theorem dX9_count_23 : decode cX9_count 23 = .ok (.iinc 3 1, 3) := by decide +kernel
theorem dX9_count_26 : decode cX9_count 26 = .ok (.goto (-22), 3) := by decide +kernel
theorem dX9_count_29 : decode cX9_count 29 = .ok (.iload_n 2, 1) := by decide +kernel
theorem dX9_count_30 : decode cX9_count 30 = .ok (.ireturn, 1) := by decide +kernel
theorem dX9_nth_0 : decode cX9_nth 0 = .ok (.iload_n 2, 1) := by decide +kernel
theorem dX9_nth_1 : decode cX9_nth 1 = .ok (.istore_n 3, 1) := by decide +kernel
theorem dX9_nth_2 : decode cX9_nth 2 = .ok (.iconst 0, 1) := by decide +kernel
theorem dX9_nth_3 : decode cX9_nth 3 = .ok (.istore 4, 2) := by decide +kernel
theorem dX9_nth_5 : decode cX9_nth 5 = .ok (.iload 4, 2) := by decide +kernel
theorem dX9_nth_7 : decode cX9_nth 7 = .ok (.iload_n 1, 1) := by decide +kernel
theorem dX9_nth_8 : decode cX9_nth 8 = .ok (.if_icmp .ge 26, 3) := by decide +kernel
theorem dX9_nth_11 : decode cX9_nth 11 = .ok (.aload_n 0, 1) := by decide +kernel
theorem dX9_nth_12 : decode cX9_nth 12 = .ok (.iload 4, 2) := by decide +kernel
theorem dX9_nth_14 : decode cX9_nth 14 = .ok (.baload, 1) := by decide +kernel
theorem dX9_nth_15 : decode cX9_nth 15 = .ok (.ifCond .eq 13, 3) := by decide +kernel
theorem dX9_nth_18 : decode cX9_nth 18 = .ok (.iload_n 3, 1) := by decide +kernel
theorem dX9_nth_19 : decode cX9_nth 19 = .ok (.iinc 3 (-1), 3) := by decide +kernel
theorem dX9_nth_22 : decode cX9_nth 22 = .ok (.ifCond .ne 6, 3) := by decide +kernel
theorem dX9_nth_25 : decode cX9_nth 25 = .ok (.iload 4, 2) := by decide +kernel
theorem dX9_nth_27 : decode cX9_nth 27 = .ok (.ireturn, 1) := by decide +kernel
theorem dX9_nth_28 : decode cX9_nth 28 = .ok (.iinc 4 1, 3) := by decide +kernel
theorem dX9_nth_31 : decode cX9_nth 31 = .ok (.goto (-26), 3) := by decide +kernel
theorem dX9_nth_34 : decode cX9_nth 34 = .ok (.iconst (-1), 1) := by decide +kernel
theorem dX9_nth_35 : decode cX9_nth 35 = .ok (.ireturn, 1) := by decide +kernel
theorem dX9_core_0 : decode cX9_core 0 = .ok (.aload_n 0, 1) := by decide +kernel
theorem dX9_core_1 : decode cX9_core 1 = .ok (.invokevirtual 240, 3) := by decide +kernel
theorem dX9_core_4 : decode cX9_core 4 = .ok (.ifCond .eq 9, 3) := by decide +kernel
theorem dX9_core_7 : decode cX9_core 7 = .ok (.aload_n 0, 1) := by decide +kernel
theorem dX9_core_8 : decode cX9_core 8 = .ok (.iconst 1, 1) := by decide +kernel
theorem dX9_core_9 : decode cX9_core 9 = .ok (.invokevirtual 117, 3) := by decide +kernel
theorem dX9_core_12 : decode cX9_core 12 = .ok (.ireturn, 1) := by decide +kernel
theorem dX9_core_13 : decode cX9_core 13 = .ok (.aload_n 0, 1) := by decide +kernel
theorem dX9_core_14 : decode cX9_core 14 = .ok (.invokevirtual 247, 3) := by decide +kernel
theorem dX9_core_17 : decode cX9_core 17 = .ok (.aload_n 0, 1) := by decide +kernel
theorem dX9_core_18 : decode cX9_core 18 = .ok (.iconst 0, 1) := by decide +kernel
theorem dX9_core_19 : decode cX9_core 19 = .ok (.putfield 97, 3) := by decide +kernel
theorem dX9_core_22 : decode cX9_core 22 = .ok (.aload_n 0, 1) := by decide +kernel
theorem dX9_core_23 : decode cX9_core 23 = .ok (.getfield 48, 3) := by decide +kernel
theorem dX9_core_26 : decode cX9_core 26 = .ok (.aload_n 0, 1) := by decide +kernel
theorem dX9_core_27 : decode cX9_core 27 = .ok (.getfield 146, 3) := by decide +kernel
theorem dX9_core_30 : decode cX9_core 30 = .ok (.invokestatic 250, 3) := by decide +kernel
theorem dX9_core_33 : decode cX9_core 33 = .ok (.ireturn, 1) := by decide +kernel
theorem dX9_coreAt_0 : decode cX9_coreAt 0 = .ok (.aload_n 0, 1) := by decide +kernel
theorem dX9_coreAt_1 : decode cX9_coreAt 1 = .ok (.invokevirtual 254, 3) := by decide +kernel
theorem dX9_coreAt_4 : decode cX9_coreAt 4 = .ok (.istore_n 2, 1) := by decide +kernel
theorem dX9_coreAt_5 : decode cX9_coreAt 5 = .ok (.aload_n 0, 1) := by decide +kernel
theorem dX9_coreAt_6 : decode cX9_coreAt 6 = .ok (.getfield 97, 3) := by decide +kernel
theorem dX9_coreAt_9 : decode cX9_coreAt 9 = .ok (.ifCond .eq 5, 3) := by decide +kernel
theorem dX9_coreAt_12 : decode cX9_coreAt 12 = .ok (.iconst 0, 1) := by decide +kernel
theorem dX9_coreAt_13 : decode cX9_coreAt 13 = .ok (.ireturn, 1) := by decide +kernel
theorem dX9_coreAt_14 : decode cX9_coreAt 14 = .ok (.iload_n 1, 1) := by decide +kernel
theorem dX9_coreAt_15 : decode cX9_coreAt 15 = .ok (.ifCond .lt 8, 3) := by decide +kernel
theorem dX9_coreAt_18 : decode cX9_coreAt 18 = .ok (.iload_n 1, 1) := by decide +kernel
theorem dX9_coreAt_19 : decode cX9_coreAt 19 = .ok (.iload_n 2, 1) := by decide +kernel
theorem dX9_coreAt_20 : decode cX9_coreAt 20 = .ok (.if_icmp .lt 9, 3) := by decide +kernel
theorem dX9_coreAt_23 : decode cX9_coreAt 23 = .ok (.aload_n 0, 1) := by decide +kernel
theorem dX9_coreAt_24 : decode cX9_coreAt 24 = .ok (.iconst 2, 1) := by decide +kernel
theorem dX9_coreAt_25 : decode cX9_coreAt 25 = .ok (.invokevirtual 117, 3) := by decide +kernel
theorem dX9_coreAt_28 : decode cX9_coreAt 28 = .ok (.ireturn, 1) := by decide +kernel
theorem dX9_coreAt_29 : decode cX9_coreAt 29 = .ok (.aload_n 0, 1) := by decide +kernel
theorem dX9_coreAt_30 : decode cX9_coreAt 30 = .ok (.getfield 48, 3) := by decide +kernel
theorem dX9_coreAt_33 : decode cX9_coreAt 33 = .ok (.aload_n 0, 1) := by decide +kernel
theorem dX9_coreAt_34 : decode cX9_coreAt 34 = .ok (.getfield 146, 3) := by decide +kernel
theorem dX9_coreAt_37 : decode cX9_coreAt 37 = .ok (.iload_n 1, 1) := by decide +kernel
theorem dX9_coreAt_38 : decode cX9_coreAt 38 = .ok (.invokestatic 257, 3) := by decide +kernel
theorem dX9_coreAt_41 : decode cX9_coreAt 41 = .ok (.ireturn, 1) := by decide +kernel
theorem dX9_follows_0 : decode cX9_follows 0 = .ok (.aload_n 0, 1) := by decide +kernel
theorem dX9_follows_1 : decode cX9_follows 1 = .ok (.iload_n 1, 1) := by decide +kernel
theorem dX9_follows_2 : decode cX9_follows 2 = .ok (.invokevirtual 143, 3) := by decide +kernel
theorem dX9_follows_5 : decode cX9_follows 5 = .ok (.ifCond .eq 5, 3) := by decide +kernel
theorem dX9_follows_8 : decode cX9_follows 8 = .ok (.iconst 0, 1) := by decide +kernel
theorem dX9_follows_9 : decode cX9_follows 9 = .ok (.ireturn, 1) := by decide +kernel
theorem dX9_follows_10 : decode cX9_follows 10 = .ok (.aload_n 0, 1) := by decide +kernel
theorem dX9_follows_11 : decode cX9_follows 11 = .ok (.invokevirtual 237, 3) := by decide +kernel
theorem dX9_follows_14 : decode cX9_follows 14 = .ok (.aload_n 0, 1) := by decide +kernel
theorem dX9_follows_15 : decode cX9_follows 15 = .ok (.iload_n 1, 1) := by decide +kernel
theorem dX9_follows_16 : decode cX9_follows 16 = .ok (.invokevirtual 261, 3) := by decide +kernel
theorem dX9_follows_19 : decode cX9_follows 19 = .ok (.ireturn, 1) := by decide +kernel
theorem dX9_reasons_0 : decode cX9_reasons 0 = .ok (.aload_n 0, 1) := by decide +kernel
theorem dX9_reasons_1 : decode cX9_reasons 1 = .ok (.iload_n 1, 1) := by decide +kernel
theorem dX9_reasons_2 : decode cX9_reasons 2 = .ok (.invokevirtual 143, 3) := by decide +kernel
theorem dX9_reasons_5 : decode cX9_reasons 5 = .ok (.ifCond .eq 5, 3) := by decide +kernel
theorem dX9_reasons_8 : decode cX9_reasons 8 = .ok (.iconst 0, 1) := by decide +kernel
theorem dX9_reasons_9 : decode cX9_reasons 9 = .ok (.ireturn, 1) := by decide +kernel
theorem dX9_reasons_10 : decode cX9_reasons 10 = .ok (.aload_n 0, 1) := by decide +kernel
theorem dX9_reasons_11 : decode cX9_reasons 11 = .ok (.invokevirtual 237, 3) := by decide +kernel
theorem dX9_reasons_14 : decode cX9_reasons 14 = .ok (.aload_n 0, 1) := by decide +kernel
theorem dX9_reasons_15 : decode cX9_reasons 15 = .ok (.iload_n 1, 1) := by decide +kernel
theorem dX9_reasons_16 : decode cX9_reasons 16 = .ok (.invokevirtual 261, 3) := by decide +kernel
theorem dX9_reasons_19 : decode cX9_reasons 19 = .ok (.ifCond .ne 9, 3) := by decide +kernel
theorem dX9_reasons_22 : decode cX9_reasons 22 = .ok (.aload_n 0, 1) := by decide +kernel
theorem dX9_reasons_23 : decode cX9_reasons 23 = .ok (.iconst 2, 1) := by decide +kernel
theorem dX9_reasons_24 : decode cX9_reasons 24 = .ok (.invokevirtual 117, 3) := by decide +kernel
theorem dX9_reasons_27 : decode cX9_reasons 27 = .ok (.ireturn, 1) := by decide +kernel
theorem dX9_reasons_28 : decode cX9_reasons 28 = .ok (.iconst 0, 1) := by decide +kernel
theorem dX9_reasons_29 : decode cX9_reasons 29 = .ok (.istore_n 2, 1) := by decide +kernel
theorem dX9_reasons_30 : decode cX9_reasons 30 = .ok (.iload_n 2, 1) := by decide +kernel
theorem dX9_reasons_31 : decode cX9_reasons 31 = .ok (.aload_n 0, 1) := by decide +kernel
theorem dX9_reasons_32 : decode cX9_reasons 32 = .ok (.getfield 146, 3) := by decide +kernel
theorem dX9_reasons_35 : decode cX9_reasons 35 = .ok (.if_icmp .ge 31, 3) := by decide +kernel
theorem dX9_reasons_38 : decode cX9_reasons 38 = .ok (.aload_n 0, 1) := by decide +kernel
theorem dX9_reasons_39 : decode cX9_reasons 39 = .ok (.getfield 45, 3) := by decide +kernel
theorem dX9_reasons_42 : decode cX9_reasons 42 = .ok (.iload_n 2, 1) := by decide +kernel
theorem dX9_reasons_43 : decode cX9_reasons 43 = .ok (.iconst 0, 1) := by decide +kernel
theorem dX9_reasons_44 : decode cX9_reasons 44 = .ok (.bastore, 1) := by decide +kernel
theorem dX9_reasons_45 : decode cX9_reasons 45 = .ok (.aload_n 0, 1) := by decide +kernel
theorem dX9_reasons_46 : decode cX9_reasons 46 = .ok (.iload_n 1, 1) := by decide +kernel
theorem dX9_reasons_47 : decode cX9_reasons 47 = .ok (.invokevirtual 261, 3) := by decide +kernel
theorem dX9_reasons_50 : decode cX9_reasons 50 = .ok (.ifCond .ne 10, 3) := by decide +kernel
theorem dX9_reasons_53 : decode cX9_reasons 53 = .ok (.aload_n 0, 1) := by decide +kernel
theorem dX9_reasons_54 : decode cX9_reasons 54 = .ok (.getfield 45, 3) := by decide +kernel
theorem dX9_reasons_57 : decode cX9_reasons 57 = .ok (.iload_n 2, 1) := by decide +kernel
theorem dX9_reasons_58 : decode cX9_reasons 58 = .ok (.iconst 1, 1) := by decide +kernel
theorem dX9_reasons_59 : decode cX9_reasons 59 = .ok (.bastore, 1) := by decide +kernel
theorem dX9_reasons_60 : decode cX9_reasons 60 = .ok (.iinc 2 1, 3) := by decide +kernel
theorem dX9_reasons_63 : decode cX9_reasons 63 = .ok (.goto (-33), 3) := by decide +kernel
theorem dX9_reasons_66 : decode cX9_reasons 66 = .ok (.iconst 0, 1) := by decide +kernel
theorem dX9_reasons_67 : decode cX9_reasons 67 = .ok (.istore_n 2, 1) := by decide +kernel
theorem dX9_reasons_68 : decode cX9_reasons 68 = .ok (.iload_n 2, 1) := by decide +kernel
theorem dX9_reasons_69 : decode cX9_reasons 69 = .ok (.aload_n 0, 1) := by decide +kernel
theorem dX9_reasons_70 : decode cX9_reasons 70 = .ok (.getfield 146, 3) := by decide +kernel
theorem dX9_reasons_73 : decode cX9_reasons 73 = .ok (.if_icmp .ge 21, 3) := by decide +kernel
theorem dX9_reasons_76 : decode cX9_reasons 76 = .ok (.aload_n 0, 1) := by decide +kernel
theorem dX9_reasons_77 : decode cX9_reasons 77 = .ok (.getfield 51, 3) := by decide +kernel
theorem dX9_reasons_80 : decode cX9_reasons 80 = .ok (.iload_n 2, 1) := by decide +kernel
theorem dX9_reasons_81 : decode cX9_reasons 81 = .ok (.aload_n 0, 1) := by decide +kernel
theorem dX9_reasons_82 : decode cX9_reasons 82 = .ok (.getfield 45, 3) := by decide +kernel
theorem dX9_reasons_85 : decode cX9_reasons 85 = .ok (.iload_n 2, 1) := by decide +kernel
theorem dX9_reasons_86 : decode cX9_reasons 86 = .ok (.baload, 1) := by decide +kernel
theorem dX9_reasons_87 : decode cX9_reasons 87 = .ok (.bastore, 1) := by decide +kernel
theorem dX9_reasons_88 : decode cX9_reasons 88 = .ok (.iinc 2 1, 3) := by decide +kernel
theorem dX9_reasons_91 : decode cX9_reasons 91 = .ok (.goto (-23), 3) := by decide +kernel
theorem dX9_reasons_94 : decode cX9_reasons 94 = .ok (.aload_n 0, 1) := by decide +kernel
theorem dX9_reasons_95 : decode cX9_reasons 95 = .ok (.getfield 51, 3) := by decide +kernel
theorem dX9_reasons_98 : decode cX9_reasons 98 = .ok (.aload_n 0, 1) := by decide +kernel
theorem dX9_reasons_99 : decode cX9_reasons 99 = .ok (.getfield 146, 3) := by decide +kernel
theorem dX9_reasons_102 : decode cX9_reasons 102 = .ok (.invokestatic 250, 3) := by decide +kernel
theorem dX9_reasons_105 : decode cX9_reasons 105 = .ok (.ireturn, 1) := by decide +kernel
theorem dX9_reasonAt_0 : decode cX9_reasonAt 0 = .ok (.aload_n 0, 1) := by decide +kernel
theorem dX9_reasonAt_1 : decode cX9_reasonAt 1 = .ok (.iload_n 1, 1) := by decide +kernel
theorem dX9_reasonAt_2 : decode cX9_reasonAt 2 = .ok (.invokevirtual 264, 3) := by decide +kernel
theorem dX9_reasonAt_5 : decode cX9_reasonAt 5 = .ok (.istore_n 3, 1) := by decide +kernel
theorem dX9_reasonAt_6 : decode cX9_reasonAt 6 = .ok (.aload_n 0, 1) := by decide +kernel
theorem dX9_reasonAt_7 : decode cX9_reasonAt 7 = .ok (.getfield 97, 3) := by decide +kernel
theorem dX9_reasonAt_10 : decode cX9_reasonAt 10 = .ok (.ifCond .eq 5, 3) := by decide +kernel
theorem dX9_reasonAt_13 : decode cX9_reasonAt 13 = .ok (.iconst 0, 1) := by decide +kernel
theorem dX9_reasonAt_14 : decode cX9_reasonAt 14 = .ok (.ireturn, 1) := by decide +kernel
theorem dX9_reasonAt_15 : decode cX9_reasonAt 15 = .ok (.iload_n 2, 1) := by decide +kernel
theorem dX9_reasonAt_16 : decode cX9_reasonAt 16 = .ok (.ifCond .lt 8, 3) := by decide +kernel
theorem dX9_reasonAt_19 : decode cX9_reasonAt 19 = .ok (.iload_n 2, 1) := by decide +kernel
theorem dX9_reasonAt_20 : decode cX9_reasonAt 20 = .ok (.iload_n 3, 1) := by decide +kernel
theorem dX9_reasonAt_21 : decode cX9_reasonAt 21 = .ok (.if_icmp .lt 9, 3) := by decide +kernel
theorem dX9_reasonAt_24 : decode cX9_reasonAt 24 = .ok (.aload_n 0, 1) := by decide +kernel
theorem dX9_reasonAt_25 : decode cX9_reasonAt 25 = .ok (.iconst 3, 1) := by decide +kernel
theorem dX9_reasonAt_26 : decode cX9_reasonAt 26 = .ok (.invokevirtual 117, 3) := by decide +kernel
theorem dX9_reasonAt_29 : decode cX9_reasonAt 29 = .ok (.ireturn, 1) := by decide +kernel
theorem dX9_reasonAt_30 : decode cX9_reasonAt 30 = .ok (.aload_n 0, 1) := by decide +kernel
theorem dX9_reasonAt_31 : decode cX9_reasonAt 31 = .ok (.getfield 51, 3) := by decide +kernel
theorem dX9_reasonAt_34 : decode cX9_reasonAt 34 = .ok (.aload_n 0, 1) := by decide +kernel
theorem dX9_reasonAt_35 : decode cX9_reasonAt 35 = .ok (.getfield 146, 3) := by decide +kernel
theorem dX9_reasonAt_38 : decode cX9_reasonAt 38 = .ok (.iload_n 2, 1) := by decide +kernel
theorem dX9_reasonAt_39 : decode cX9_reasonAt 39 = .ok (.invokestatic 257, 3) := by decide +kernel
theorem dX9_reasonAt_42 : decode cX9_reasonAt 42 = .ok (.ireturn, 1) := by decide +kernel
theorem dX9_bound_0 : decode cX9_bound 0 = .ok (.aload_n 0, 1) := by decide +kernel
theorem dX9_bound_1 : decode cX9_bound 1 = .ok (.iload_n 1, 1) := by decide +kernel
theorem dX9_bound_2 : decode cX9_bound 2 = .ok (.invokevirtual 125, 3) := by decide +kernel
theorem dX9_bound_5 : decode cX9_bound 5 = .ok (.ifCond .eq 11, 3) := by decide +kernel
theorem dX9_bound_8 : decode cX9_bound 8 = .ok (.aload_n 0, 1) := by decide +kernel
theorem dX9_bound_9 : decode cX9_bound 9 = .ok (.iload_n 2, 1) := by decide +kernel
theorem dX9_bound_10 : decode cX9_bound 10 = .ok (.invokevirtual 125, 3) := by decide +kernel
theorem dX9_bound_13 : decode cX9_bound 13 = .ok (.ifCond .ne 9, 3) := by decide +kernel
theorem dX9_bound_16 : decode cX9_bound 16 = .ok (.aload_n 0, 1) := by decide +kernel
theorem dX9_bound_17 : decode cX9_bound 17 = .ok (.iconst 1, 1) := by decide +kernel
theorem dX9_bound_18 : decode cX9_bound 18 = .ok (.invokevirtual 117, 3) := by decide +kernel
theorem dX9_bound_21 : decode cX9_bound 21 = .ok (.ireturn, 1) := by decide +kernel
theorem dX9_bound_22 : decode cX9_bound 22 = .ok (.aload_n 0, 1) := by decide +kernel
theorem dX9_bound_23 : decode cX9_bound 23 = .ok (.invokevirtual 240, 3) := by decide +kernel
theorem dX9_bound_26 : decode cX9_bound 26 = .ok (.ifCond .ne 9, 3) := by decide +kernel
theorem dX9_bound_29 : decode cX9_bound 29 = .ok (.aload_n 0, 1) := by decide +kernel
theorem dX9_bound_30 : decode cX9_bound 30 = .ok (.iconst 2, 1) := by decide +kernel
theorem dX9_bound_31 : decode cX9_bound 31 = .ok (.invokevirtual 117, 3) := by decide +kernel
theorem dX9_bound_34 : decode cX9_bound 34 = .ok (.ireturn, 1) := by decide +kernel
theorem dX9_bound_35 : decode cX9_bound 35 = .ok (.aload_n 0, 1) := by decide +kernel
theorem dX9_bound_36 : decode cX9_bound 36 = .ok (.iload_n 2, 1) := by decide +kernel
theorem dX9_bound_37 : decode cX9_bound 37 = .ok (.iload_n 1, 1) := by decide +kernel
theorem dX9_bound_38 : decode cX9_bound 38 = .ok (.sipush (-401), 3) := by decide +kernel
theorem dX9_bound_41 : decode cX9_bound 41 = .ok (.invokevirtual 243, 3) := by decide +kernel
theorem dX9_bound_44 : decode cX9_bound 44 = .ok (.ifCond .eq 9, 3) := by decide +kernel
theorem dX9_bound_47 : decode cX9_bound 47 = .ok (.aload_n 0, 1) := by decide +kernel
theorem dX9_bound_48 : decode cX9_bound 48 = .ok (.iconst 3, 1) := by decide +kernel
theorem dX9_bound_49 : decode cX9_bound 49 = .ok (.invokevirtual 117, 3) := by decide +kernel
theorem dX9_bound_52 : decode cX9_bound 52 = .ok (.ireturn, 1) := by decide +kernel
theorem dX9_bound_53 : decode cX9_bound 53 = .ok (.aload_n 0, 1) := by decide +kernel
theorem dX9_bound_54 : decode cX9_bound 54 = .ok (.iconst 0, 1) := by decide +kernel
theorem dX9_bound_55 : decode cX9_bound 55 = .ok (.putfield 97, 3) := by decide +kernel
theorem dX9_bound_58 : decode cX9_bound 58 = .ok (.sipush (-400), 3) := by decide +kernel
theorem dX9_bound_61 : decode cX9_bound 61 = .ok (.istore_n 3, 1) := by decide +kernel
theorem dX9_bound_62 : decode cX9_bound 62 = .ok (.sipush 400, 3) := by decide +kernel
theorem dX9_bound_65 : decode cX9_bound 65 = .ok (.istore 4, 2) := by decide +kernel
theorem dX9_bound_67 : decode cX9_bound 67 = .ok (.iload_n 3, 1) := by decide +kernel
theorem dX9_bound_68 : decode cX9_bound 68 = .ok (.iload 4, 2) := by decide +kernel
theorem dX9_bound_70 : decode cX9_bound 70 = .ok (.if_icmp .ge 42, 3) := by decide +kernel
theorem dX9_bound_73 : decode cX9_bound 73 = .ok (.iload_n 3, 1) := by decide +kernel
theorem dX9_bound_74 : decode cX9_bound 74 = .ok (.iload 4, 2) := by decide +kernel
theorem dX9_bound_76 : decode cX9_bound 76 = .ok (.iload_n 3, 1) := by decide +kernel
theorem dX9_bound_77 : decode cX9_bound 77 = .ok (.isub, 1) := by decide +kernel
theorem dX9_bound_78 : decode cX9_bound 78 = .ok (.iconst 2, 1) := by decide +kernel
theorem dX9_bound_79 : decode cX9_bound 79 = .ok (.idiv, 1) := by decide +kernel
theorem dX9_bound_80 : decode cX9_bound 80 = .ok (.iadd, 1) := by decide +kernel
theorem dX9_bound_81 : decode cX9_bound 81 = .ok (.istore 5, 2) := by decide +kernel
theorem dX9_bound_83 : decode cX9_bound 83 = .ok (.aload_n 0, 1) := by decide +kernel
theorem dX9_bound_84 : decode cX9_bound 84 = .ok (.iload_n 2, 1) := by decide +kernel
theorem dX9_bound_85 : decode cX9_bound 85 = .ok (.iload_n 1, 1) := by decide +kernel
theorem dX9_bound_86 : decode cX9_bound 86 = .ok (.iload 5, 2) := by decide +kernel
theorem dX9_bound_88 : decode cX9_bound 88 = .ok (.ineg, 1) := by decide +kernel
theorem dX9_bound_89 : decode cX9_bound 89 = .ok (.iconst 1, 1) := by decide +kernel
theorem dX9_bound_90 : decode cX9_bound 90 = .ok (.isub, 1) := by decide +kernel
theorem dX9_bound_91 : decode cX9_bound 91 = .ok (.invokevirtual 243, 3) := by decide +kernel
theorem dX9_bound_94 : decode cX9_bound 94 = .ok (.ifCond .eq 11, 3) := by decide +kernel
theorem dX9_bound_97 : decode cX9_bound 97 = .ok (.iload 5, 2) := by decide +kernel
theorem dX9_bound_99 : decode cX9_bound 99 = .ok (.iconst 1, 1) := by decide +kernel
theorem dX9_bound_100 : decode cX9_bound 100 = .ok (.iadd, 1) := by decide +kernel
theorem dX9_bound_101 : decode cX9_bound 101 = .ok (.istore_n 3, 1) := by decide +kernel
theorem dX9_bound_102 : decode cX9_bound 102 = .ok (.goto 7, 3) := by decide +kernel
theorem dX9_bound_105 : decode cX9_bound 105 = .ok (.iload 5, 2) := by decide +kernel
theorem dX9_bound_107 : decode cX9_bound 107 = .ok (.istore 4, 2) := by decide +kernel
theorem dX9_bound_109 : decode cX9_bound 109 = .ok (.goto (-42), 3) := by decide +kernel
theorem dX9_bound_112 : decode cX9_bound 112 = .ok (.iload_n 3, 1) := by decide +kernel
theorem dX9_bound_113 : decode cX9_bound 113 = .ok (.ireturn, 1) := by decide +kernel
theorem dX9_models_0 : decode cX9_models 0 = .ok (.aload_n 0, 1) := by decide +kernel
theorem dX9_models_1 : decode cX9_models 1 = .ok (.getfield 108, 3) := by decide +kernel
theorem dX9_models_4 : decode cX9_models 4 = .ok (.ifCond .eq 4, 3) := by decide +kernel
theorem dX9_models_7 : decode cX9_models 7 = .ok (.return_, 1) := by decide +kernel
theorem dX9_models_8 : decode cX9_models 8 = .ok (.aload_n 0, 1) := by decide +kernel
theorem dX9_models_9 : decode cX9_models 9 = .ok (.aload_n 0, 1) := by decide +kernel
theorem dX9_models_10 : decode cX9_models 10 = .ok (.invokevirtual 240, 3) := by decide +kernel
theorem dX9_models_13 : decode cX9_models 13 = .ok (.putfield 267, 3) := by decide +kernel
theorem dX9_models_16 : decode cX9_models 16 = .ok (.aload_n 0, 1) := by decide +kernel
theorem dX9_models_17 : decode cX9_models 17 = .ok (.iconst 1, 1) := by decide +kernel
theorem dX9_models_18 : decode cX9_models 18 = .ok (.putfield 108, 3) := by decide +kernel
theorem dX9_models_21 : decode cX9_models 21 = .ok (.aload_n 0, 1) := by decide +kernel
theorem dX9_models_22 : decode cX9_models 22 = .ok (.getfield 267, 3) := by decide +kernel
theorem dX9_models_25 : decode cX9_models 25 = .ok (.ifCond .ne 4, 3) := by decide +kernel
theorem dX9_models_28 : decode cX9_models 28 = .ok (.return_, 1) := by decide +kernel
theorem dX9_models_29 : decode cX9_models 29 = .ok (.iconst 0, 1) := by decide +kernel
theorem dX9_models_30 : decode cX9_models 30 = .ok (.istore_n 1, 1) := by decide +kernel
theorem dX9_models_31 : decode cX9_models 31 = .ok (.iload_n 1, 1) := by decide +kernel
theorem dX9_models_32 : decode cX9_models 32 = .ok (.aload_n 0, 1) := by decide +kernel
theorem dX9_models_33 : decode cX9_models 33 = .ok (.getfield 101, 3) := by decide +kernel
theorem dX9_models_36 : decode cX9_models 36 = .ok (.if_icmp .ge 25, 3) := by decide +kernel
theorem dX9_models_39 : decode cX9_models 39 = .ok (.aload_n 0, 1) := by decide +kernel
theorem dX9_models_40 : decode cX9_models 40 = .ok (.iload_n 1, 1) := by decide +kernel
theorem dX9_models_41 : decode cX9_models 41 = .ok (.invokevirtual 125, 3) := by decide +kernel
theorem dX9_models_44 : decode cX9_models 44 = .ok (.ifCond .eq 11, 3) := by decide +kernel
theorem dX9_models_47 : decode cX9_models 47 = .ok (.aload_n 0, 1) := by decide +kernel
theorem dX9_models_48 : decode cX9_models 48 = .ok (.bipush 14, 2) := by decide +kernel
theorem dX9_models_50 : decode cX9_models 50 = .ok (.iload_n 1, 1) := by decide +kernel
theorem dX9_models_51 : decode cX9_models 51 = .ok (.iconst 0, 1) := by decide +kernel
theorem dX9_models_52 : decode cX9_models 52 = .ok (.invokevirtual 231, 3) := by decide +kernel
theorem dX9_models_55 : decode cX9_models 55 = .ok (.iinc 1 1, 3) := by decide +kernel
theorem dX9_models_58 : decode cX9_models 58 = .ok (.goto (-27), 3) := by decide +kernel
theorem dX9_models_61 : decode cX9_models 61 = .ok (.aload_n 0, 1) := by decide +kernel
theorem dX9_models_62 : decode cX9_models 62 = .ok (.invokevirtual 234, 3) := by decide +kernel
theorem dX9_models_65 : decode cX9_models 65 = .ok (.istore_n 1, 1) := by decide +kernel
theorem dX9_models_66 : decode cX9_models 66 = .ok (.iconst 0, 1) := by decide +kernel
theorem dX9_models_67 : decode cX9_models 67 = .ok (.istore_n 2, 1) := by decide +kernel
theorem dX9_models_68 : decode cX9_models 68 = .ok (.iload_n 2, 1) := by decide +kernel
theorem dX9_models_69 : decode cX9_models 69 = .ok (.aload_n 0, 1) := by decide +kernel
theorem dX9_models_70 : decode cX9_models 70 = .ok (.getfield 101, 3) := by decide +kernel
theorem dX9_models_73 : decode cX9_models 73 = .ok (.if_icmp .ge 97, 3) := by decide +kernel
theorem dX9_models_76 : decode cX9_models 76 = .ok (.aload_n 0, 1) := by decide +kernel
theorem dX9_models_77 : decode cX9_models 77 = .ok (.iload_n 2, 1) := by decide +kernel
theorem dX9_models_78 : decode cX9_models 78 = .ok (.invokevirtual 125, 3) := by decide +kernel
theorem dX9_models_81 : decode cX9_models 81 = .ok (.ifCond .ne 6, 3) := by decide +kernel
theorem dX9_models_84 : decode cX9_models 84 = .ok (.goto 80, 3) := by decide +kernel
theorem dX9_models_87 : decode cX9_models 87 = .ok (.aload_n 0, 1) := by decide +kernel
theorem dX9_models_88 : decode cX9_models 88 = .ok (.getfield 82, 3) := by decide +kernel
theorem dX9_models_91 : decode cX9_models 91 = .ok (.aload_n 0, 1) := by decide +kernel
theorem dX9_models_92 : decode cX9_models 92 = .ok (.bipush 14, 2) := by decide +kernel
theorem dX9_models_94 : decode cX9_models 94 = .ok (.iload_n 2, 1) := by decide +kernel
theorem dX9_models_95 : decode cX9_models 95 = .ok (.invokevirtual 194, 3) := by decide +kernel
theorem dX9_models_98 : decode cX9_models 98 = .ok (.iaload, 1) := by decide +kernel
theorem dX9_models_99 : decode cX9_models 99 = .ok (.ineg, 1) := by decide +kernel
theorem dX9_models_100 : decode cX9_models 100 = .ok (.istore_n 3, 1) := by decide +kernel
theorem dX9_models_101 : decode cX9_models 101 = .ok (.iload_n 3, 1) := by decide +kernel
theorem dX9_models_102 : decode cX9_models 102 = .ok (.ifCond .le 33, 3) := by decide +kernel
theorem dX9_models_105 : decode cX9_models 105 = .ok (.aload_n 0, 1) := by decide +kernel
theorem dX9_models_106 : decode cX9_models 106 = .ok (.iload_n 2, 1) := by decide +kernel
theorem dX9_models_107 : decode cX9_models 107 = .ok (.bipush 14, 2) := by decide +kernel
theorem dX9_models_109 : decode cX9_models 109 = .ok (.iload_n 3, 1) := by decide +kernel
theorem dX9_models_110 : decode cX9_models 110 = .ok (.iconst 1, 1) := by decide +kernel
theorem dX9_models_111 : decode cX9_models 111 = .ok (.isub, 1) := by decide +kernel
theorem dX9_models_112 : decode cX9_models 112 = .ok (.invokevirtual 243, 3) := by decide +kernel
theorem dX9_models_115 : decode cX9_models 115 = .ok (.ifCond .eq 20, 3) := by decide +kernel
theorem dX9_models_118 : decode cX9_models 118 = .ok (.aload_n 0, 1) := by decide +kernel
theorem dX9_models_119 : decode cX9_models 119 = .ok (.getfield 82, 3) := by decide +kernel
theorem dX9_models_122 : decode cX9_models 122 = .ok (.aload_n 0, 1) := by decide +kernel
theorem dX9_models_123 : decode cX9_models 123 = .ok (.bipush 14, 2) := by decide +kernel
theorem dX9_models_125 : decode cX9_models 125 = .ok (.iload_n 2, 1) := by decide +kernel
theorem dX9_models_126 : decode cX9_models 126 = .ok (.invokevirtual 194, 3) := by decide +kernel
theorem dX9_models_129 : decode cX9_models 129 = .ok (.iaload, 1) := by decide +kernel
theorem dX9_models_130 : decode cX9_models 130 = .ok (.ineg, 1) := by decide +kernel
theorem dX9_models_131 : decode cX9_models 131 = .ok (.istore_n 3, 1) := by decide +kernel
theorem dX9_models_132 : decode cX9_models 132 = .ok (.goto (-31), 3) := by decide +kernel
theorem dX9_models_135 : decode cX9_models 135 = .ok (.aload_n 0, 1) := by decide +kernel
theorem dX9_models_136 : decode cX9_models 136 = .ok (.getfield 91, 3) := by decide +kernel
theorem dX9_models_139 : decode cX9_models 139 = .ok (.iload_n 2, 1) := by decide +kernel
theorem dX9_models_140 : decode cX9_models 140 = .ok (.iload_n 3, 1) := by decide +kernel
theorem dX9_models_141 : decode cX9_models 141 = .ok (.iastore, 1) := by decide +kernel
theorem dX9_models_142 : decode cX9_models 142 = .ok (.aload_n 0, 1) := by decide +kernel
theorem dX9_models_143 : decode cX9_models 143 = .ok (.iload_n 2, 1) := by decide +kernel
theorem dX9_models_144 : decode cX9_models 144 = .ok (.bipush 14, 2) := by decide +kernel
theorem dX9_models_146 : decode cX9_models 146 = .ok (.iload_n 3, 1) := by decide +kernel
theorem dX9_models_147 : decode cX9_models 147 = .ok (.invokevirtual 231, 3) := by decide +kernel
theorem dX9_models_150 : decode cX9_models 150 = .ok (.aload_n 0, 1) := by decide +kernel
theorem dX9_models_151 : decode cX9_models 151 = .ok (.bipush 14, 2) := by decide +kernel
theorem dX9_models_153 : decode cX9_models 153 = .ok (.iload_n 2, 1) := by decide +kernel
theorem dX9_models_154 : decode cX9_models 154 = .ok (.iload_n 3, 1) := by decide +kernel
theorem dX9_models_155 : decode cX9_models 155 = .ok (.ineg, 1) := by decide +kernel
theorem dX9_models_156 : decode cX9_models 156 = .ok (.invokevirtual 231, 3) := by decide +kernel
theorem dX9_models_159 : decode cX9_models 159 = .ok (.aload_n 0, 1) := by decide +kernel
theorem dX9_models_160 : decode cX9_models 160 = .ok (.invokevirtual 234, 3) := by decide +kernel
theorem dX9_models_163 : decode cX9_models 163 = .ok (.istore_n 1, 1) := by decide +kernel
theorem dX9_models_164 : decode cX9_models 164 = .ok (.iinc 2 1, 3) := by decide +kernel
theorem dX9_models_167 : decode cX9_models 167 = .ok (.goto (-99), 3) := by decide +kernel
theorem dX9_models_170 : decode cX9_models 170 = .ok (.return_, 1) := by decide +kernel
theorem dX9_noModel_0 : decode cX9_noModel 0 = .ok (.aload_n 0, 1) := by decide +kernel
theorem dX9_noModel_1 : decode cX9_noModel 1 = .ok (.invokevirtual 270, 3) := by decide +kernel
theorem dX9_noModel_4 : decode cX9_noModel 4 = .ok (.aload_n 0, 1) := by decide +kernel
theorem dX9_noModel_5 : decode cX9_noModel 5 = .ok (.aload_n 0, 1) := by decide +kernel
theorem dX9_noModel_6 : decode cX9_noModel 6 = .ok (.getfield 267, 3) := by decide +kernel
theorem dX9_noModel_9 : decode cX9_noModel 9 = .ok (.ifCond .eq 7, 3) := by decide +kernel
theorem dX9_noModel_12 : decode cX9_noModel 12 = .ok (.iconst 0, 1) := by decide +kernel
theorem dX9_noModel_13 : decode cX9_noModel 13 = .ok (.goto 4, 3) := by decide +kernel
theorem dX9_noModel_16 : decode cX9_noModel 16 = .ok (.iload_n 1, 1) := by decide +kernel
theorem dX9_noModel_17 : decode cX9_noModel 17 = .ok (.putfield 97, 3) := by decide +kernel
theorem dX9_noModel_20 : decode cX9_noModel 20 = .ok (.aload_n 0, 1) := by decide +kernel
theorem dX9_noModel_21 : decode cX9_noModel 21 = .ok (.getfield 267, 3) := by decide +kernel
theorem dX9_noModel_24 : decode cX9_noModel 24 = .ok (.ifCond .ne 7, 3) := by decide +kernel
theorem dX9_noModel_27 : decode cX9_noModel 27 = .ok (.iconst 1, 1) := by decide +kernel
theorem dX9_noModel_28 : decode cX9_noModel 28 = .ok (.goto 4, 3) := by decide +kernel
theorem dX9_noModel_31 : decode cX9_noModel 31 = .ok (.iconst 0, 1) := by decide +kernel
theorem dX9_noModel_32 : decode cX9_noModel 32 = .ok (.ireturn, 1) := by decide +kernel
theorem dX9_sorts_0 : decode cX9_sorts 0 = .ok (.aload_n 0, 1) := by decide +kernel
theorem dX9_sorts_1 : decode cX9_sorts 1 = .ok (.invokevirtual 270, 3) := by decide +kernel
theorem dX9_sorts_4 : decode cX9_sorts 4 = .ok (.aload_n 0, 1) := by decide +kernel
theorem dX9_sorts_5 : decode cX9_sorts 5 = .ok (.invokevirtual 237, 3) := by decide +kernel
theorem dX9_sorts_8 : decode cX9_sorts 8 = .ok (.iconst 0, 1) := by decide +kernel
theorem dX9_sorts_9 : decode cX9_sorts 9 = .ok (.istore_n 1, 1) := by decide +kernel
theorem dX9_sorts_10 : decode cX9_sorts 10 = .ok (.iload_n 1, 1) := by decide +kernel
theorem dX9_sorts_11 : decode cX9_sorts 11 = .ok (.aload_n 0, 1) := by decide +kernel
theorem dX9_sorts_12 : decode cX9_sorts 12 = .ok (.getfield 101, 3) := by decide +kernel
theorem dX9_sorts_15 : decode cX9_sorts 15 = .ok (.if_icmp .ge 115, 3) := by decide +kernel
theorem dX9_sorts_18 : decode cX9_sorts 18 = .ok (.aload_n 0, 1) := by decide +kernel
theorem dX9_sorts_19 : decode cX9_sorts 19 = .ok (.getfield 94, 3) := by decide +kernel
theorem dX9_sorts_22 : decode cX9_sorts 22 = .ok (.iload_n 1, 1) := by decide +kernel
theorem dX9_sorts_23 : decode cX9_sorts 23 = .ok (.iload_n 1, 1) := by decide +kernel
theorem dX9_sorts_24 : decode cX9_sorts 24 = .ok (.iastore, 1) := by decide +kernel
theorem dX9_sorts_25 : decode cX9_sorts 25 = .ok (.iconst 0, 1) := by decide +kernel
theorem dX9_sorts_26 : decode cX9_sorts 26 = .ok (.istore_n 2, 1) := by decide +kernel
theorem dX9_sorts_27 : decode cX9_sorts 27 = .ok (.iload_n 2, 1) := by decide +kernel
theorem dX9_sorts_28 : decode cX9_sorts 28 = .ok (.iload_n 1, 1) := by decide +kernel
theorem dX9_sorts_29 : decode cX9_sorts 29 = .ok (.if_icmp .ge 95, 3) := by decide +kernel
theorem dX9_sorts_32 : decode cX9_sorts 32 = .ok (.aload_n 0, 1) := by decide +kernel
theorem dX9_sorts_33 : decode cX9_sorts 33 = .ok (.getfield 94, 3) := by decide +kernel
theorem dX9_sorts_36 : decode cX9_sorts 36 = .ok (.iload_n 1, 1) := by decide +kernel
theorem dX9_sorts_37 : decode cX9_sorts 37 = .ok (.iaload, 1) := by decide +kernel
theorem dX9_sorts_38 : decode cX9_sorts 38 = .ok (.iload_n 1, 1) := by decide +kernel
theorem dX9_sorts_39 : decode cX9_sorts 39 = .ok (.if_icmp .ne 85, 3) := by decide +kernel
theorem dX9_sorts_42 : decode cX9_sorts 42 = .ok (.aload_n 0, 1) := by decide +kernel
theorem dX9_sorts_43 : decode cX9_sorts 43 = .ok (.iconst 0, 1) := by decide +kernel
theorem dX9_sorts_44 : decode cX9_sorts 44 = .ok (.putfield 201, 3) := by decide +kernel
theorem dX9_sorts_47 : decode cX9_sorts 47 = .ok (.aload_n 0, 1) := by decide +kernel
theorem dX9_sorts_48 : decode cX9_sorts 48 = .ok (.iload_n 1, 1) := by decide +kernel
theorem dX9_sorts_49 : decode cX9_sorts 49 = .ok (.invokevirtual 125, 3) := by decide +kernel
theorem dX9_sorts_52 : decode cX9_sorts 52 = .ok (.ifCond .eq 66, 3) := by decide +kernel
theorem dX9_sorts_55 : decode cX9_sorts 55 = .ok (.aload_n 0, 1) := by decide +kernel
theorem dX9_sorts_56 : decode cX9_sorts 56 = .ok (.iload_n 2, 1) := by decide +kernel
theorem dX9_sorts_57 : decode cX9_sorts 57 = .ok (.invokevirtual 125, 3) := by decide +kernel
theorem dX9_sorts_60 : decode cX9_sorts 60 = .ok (.ifCond .eq 58, 3) := by decide +kernel
theorem dX9_sorts_63 : decode cX9_sorts 63 = .ok (.aload_n 0, 1) := by decide +kernel
theorem dX9_sorts_64 : decode cX9_sorts 64 = .ok (.getfield 94, 3) := by decide +kernel
theorem dX9_sorts_67 : decode cX9_sorts 67 = .ok (.iload_n 2, 1) := by decide +kernel
theorem dX9_sorts_68 : decode cX9_sorts 68 = .ok (.iaload, 1) := by decide +kernel
theorem dX9_sorts_69 : decode cX9_sorts 69 = .ok (.iload_n 2, 1) := by decide +kernel
theorem dX9_sorts_70 : decode cX9_sorts 70 = .ok (.if_icmp .ne 48, 3) := by decide +kernel
theorem dX9_sorts_73 : decode cX9_sorts 73 = .ok (.aload_n 0, 1) := by decide +kernel
theorem dX9_sorts_74 : decode cX9_sorts 74 = .ok (.getfield 91, 3) := by decide +kernel
theorem dX9_sorts_77 : decode cX9_sorts 77 = .ok (.iload_n 2, 1) := by decide +kernel
theorem dX9_sorts_78 : decode cX9_sorts 78 = .ok (.iaload, 1) := by decide +kernel
theorem dX9_sorts_79 : decode cX9_sorts 79 = .ok (.aload_n 0, 1) := by decide +kernel
theorem dX9_sorts_80 : decode cX9_sorts 80 = .ok (.getfield 91, 3) := by decide +kernel
theorem dX9_sorts_83 : decode cX9_sorts 83 = .ok (.iload_n 1, 1) := by decide +kernel
theorem dX9_sorts_84 : decode cX9_sorts 84 = .ok (.iaload, 1) := by decide +kernel
theorem dX9_sorts_85 : decode cX9_sorts 85 = .ok (.if_icmp .eq 6, 3) := by decide +kernel
theorem dX9_sorts_88 : decode cX9_sorts 88 = .ok (.goto 30, 3) := by decide +kernel
theorem dX9_sorts_91 : decode cX9_sorts 91 = .ok (.aload_n 0, 1) := by decide +kernel
theorem dX9_sorts_92 : decode cX9_sorts 92 = .ok (.iload_n 2, 1) := by decide +kernel
theorem dX9_sorts_93 : decode cX9_sorts 93 = .ok (.iload_n 1, 1) := by decide +kernel
theorem dX9_sorts_94 : decode cX9_sorts 94 = .ok (.iconst (-1), 1) := by decide +kernel
theorem dX9_sorts_95 : decode cX9_sorts 95 = .ok (.invokevirtual 243, 3) := by decide +kernel
theorem dX9_sorts_98 : decode cX9_sorts 98 = .ok (.ifCond .ne 20, 3) := by decide +kernel
theorem dX9_sorts_101 : decode cX9_sorts 101 = .ok (.aload_n 0, 1) := by decide +kernel
theorem dX9_sorts_102 : decode cX9_sorts 102 = .ok (.iload_n 1, 1) := by decide +kernel
theorem dX9_sorts_103 : decode cX9_sorts 103 = .ok (.iload_n 2, 1) := by decide +kernel
theorem dX9_sorts_104 : decode cX9_sorts 104 = .ok (.iconst (-1), 1) := by decide +kernel
theorem dX9_sorts_105 : decode cX9_sorts 105 = .ok (.invokevirtual 243, 3) := by decide +kernel
theorem dX9_sorts_108 : decode cX9_sorts 108 = .ok (.ifCond .ne 10, 3) := by decide +kernel
theorem dX9_sorts_111 : decode cX9_sorts 111 = .ok (.aload_n 0, 1) := by decide +kernel
theorem dX9_sorts_112 : decode cX9_sorts 112 = .ok (.getfield 94, 3) := by decide +kernel
theorem dX9_sorts_115 : decode cX9_sorts 115 = .ok (.iload_n 1, 1) := by decide +kernel
theorem dX9_sorts_116 : decode cX9_sorts 116 = .ok (.iload_n 2, 1) := by decide +kernel
theorem dX9_sorts_117 : decode cX9_sorts 117 = .ok (.iastore, 1) := by decide +kernel
theorem dX9_sorts_118 : decode cX9_sorts 118 = .ok (.iinc 2 1, 3) := by decide +kernel
theorem dX9_sorts_121 : decode cX9_sorts 121 = .ok (.goto (-94), 3) := by decide +kernel
theorem dX9_sorts_124 : decode cX9_sorts 124 = .ok (.iinc 1 1, 3) := by decide +kernel
theorem dX9_sorts_127 : decode cX9_sorts 127 = .ok (.goto (-117), 3) := by decide +kernel
theorem dX9_sorts_130 : decode cX9_sorts 130 = .ok (.return_, 1) := by decide +kernel
theorem dX9_classOf_0 : decode cX9_classOf 0 = .ok (.aload_n 0, 1) := by decide +kernel
theorem dX9_classOf_1 : decode cX9_classOf 1 = .ok (.iload_n 1, 1) := by decide +kernel
theorem dX9_classOf_2 : decode cX9_classOf 2 = .ok (.invokevirtual 125, 3) := by decide +kernel
theorem dX9_classOf_5 : decode cX9_classOf 5 = .ok (.ifCond .ne 9, 3) := by decide +kernel
theorem dX9_classOf_8 : decode cX9_classOf 8 = .ok (.aload_n 0, 1) := by decide +kernel
theorem dX9_classOf_9 : decode cX9_classOf 9 = .ok (.iconst 1, 1) := by decide +kernel
theorem dX9_classOf_10 : decode cX9_classOf 10 = .ok (.invokevirtual 117, 3) := by decide +kernel
theorem dX9_classOf_13 : decode cX9_classOf 13 = .ok (.ireturn, 1) := by decide +kernel
theorem dX9_classOf_14 : decode cX9_classOf 14 = .ok (.aload_n 0, 1) := by decide +kernel
theorem dX9_classOf_15 : decode cX9_classOf 15 = .ok (.iconst 2, 1) := by decide +kernel
theorem dX9_classOf_16 : decode cX9_classOf 16 = .ok (.invokevirtual 273, 3) := by decide +kernel
theorem dX9_classOf_19 : decode cX9_classOf 19 = .ok (.ifCond .eq 5, 3) := by decide +kernel
theorem dX9_classOf_22 : decode cX9_classOf 22 = .ok (.iconst 0, 1) := by decide +kernel
theorem dX9_classOf_23 : decode cX9_classOf 23 = .ok (.ireturn, 1) := by decide +kernel
theorem dX9_classOf_24 : decode cX9_classOf 24 = .ok (.aload_n 0, 1) := by decide +kernel
theorem dX9_classOf_25 : decode cX9_classOf 25 = .ok (.invokevirtual 276, 3) := by decide +kernel
theorem dX9_classOf_28 : decode cX9_classOf 28 = .ok (.aload_n 0, 1) := by decide +kernel
theorem dX9_classOf_29 : decode cX9_classOf 29 = .ok (.getfield 94, 3) := by decide +kernel
theorem dX9_classOf_32 : decode cX9_classOf 32 = .ok (.iload_n 1, 1) := by decide +kernel
theorem dX9_classOf_33 : decode cX9_classOf 33 = .ok (.iaload, 1) := by decide +kernel
theorem dX9_classOf_34 : decode cX9_classOf 34 = .ok (.ireturn, 1) := by decide +kernel
theorem dX9_classes_0 : decode cX9_classes 0 = .ok (.aload_n 0, 1) := by decide +kernel
theorem dX9_classes_1 : decode cX9_classes 1 = .ok (.iconst 1, 1) := by decide +kernel
theorem dX9_classes_2 : decode cX9_classes 2 = .ok (.invokevirtual 273, 3) := by decide +kernel
theorem dX9_classes_5 : decode cX9_classes 5 = .ok (.ifCond .eq 5, 3) := by decide +kernel
theorem dX9_classes_8 : decode cX9_classes 8 = .ok (.iconst 0, 1) := by decide +kernel
theorem dX9_classes_9 : decode cX9_classes 9 = .ok (.ireturn, 1) := by decide +kernel
theorem dX9_classes_10 : decode cX9_classes 10 = .ok (.aload_n 0, 1) := by decide +kernel
theorem dX9_classes_11 : decode cX9_classes 11 = .ok (.invokevirtual 276, 3) := by decide +kernel
theorem dX9_classes_14 : decode cX9_classes 14 = .ok (.iconst 0, 1) := by decide +kernel
theorem dX9_classes_15 : decode cX9_classes 15 = .ok (.istore_n 1, 1) := by decide +kernel
theorem dX9_classes_16 : decode cX9_classes 16 = .ok (.iconst 0, 1) := by decide +kernel
theorem dX9_classes_17 : decode cX9_classes 17 = .ok (.istore_n 2, 1) := by decide +kernel
theorem dX9_classes_18 : decode cX9_classes 18 = .ok (.iload_n 2, 1) := by decide +kernel
theorem dX9_classes_19 : decode cX9_classes 19 = .ok (.aload_n 0, 1) := by decide +kernel
theorem dX9_classes_20 : decode cX9_classes 20 = .ok (.getfield 101, 3) := by decide +kernel
theorem dX9_classes_23 : decode cX9_classes 23 = .ok (.if_icmp .ge 35, 3) := by decide +kernel
theorem dX9_classes_26 : decode cX9_classes 26 = .ok (.iload_n 1, 1) := by decide +kernel
theorem dX9_classes_27 : decode cX9_classes 27 = .ok (.aload_n 0, 1) := by decide +kernel
theorem dX9_classes_28 : decode cX9_classes 28 = .ok (.iload_n 2, 1) := by decide +kernel
theorem dX9_classes_29 : decode cX9_classes 29 = .ok (.invokevirtual 125, 3) := by decide +kernel
theorem dX9_classes_32 : decode cX9_classes 32 = .ok (.ifCond .eq 17, 3) := by decide +kernel
theorem dX9_classes_35 : decode cX9_classes 35 = .ok (.aload_n 0, 1) := by decide +kernel
theorem dX9_classes_36 : decode cX9_classes 36 = .ok (.getfield 94, 3) := by decide +kernel
theorem dX9_classes_39 : decode cX9_classes 39 = .ok (.iload_n 2, 1) := by decide +kernel
theorem dX9_classes_40 : decode cX9_classes 40 = .ok (.iaload, 1) := by decide +kernel
theorem dX9_classes_41 : decode cX9_classes 41 = .ok (.iload_n 2, 1) := by decide +kernel
theorem dX9_classes_42 : decode cX9_classes 42 = .ok (.if_icmp .ne 7, 3) := by decide +kernel
theorem dX9_classes_45 : decode cX9_classes 45 = .ok (.iconst 1, 1) := by decide +kernel
theorem dX9_classes_46 : decode cX9_classes 46 = .ok (.goto 4, 3) := by decide +kernel
theorem dX9_classes_49 : decode cX9_classes 49 = .ok (.iconst 0, 1) := by decide +kernel
theorem dX9_classes_50 : decode cX9_classes 50 = .ok (.iadd, 1) := by decide +kernel
theorem dX9_classes_51 : decode cX9_classes 51 = .ok (.istore_n 1, 1) := by decide +kernel
theorem dX9_classes_52 : decode cX9_classes 52 = .ok (.iinc 2 1, 3) := by decide +kernel
theorem dX9_classes_55 : decode cX9_classes 55 = .ok (.goto (-37), 3) := by decide +kernel
theorem dX9_classes_58 : decode cX9_classes 58 = .ok (.iload_n 1, 1) := by decide +kernel
theorem dX9_classes_59 : decode cX9_classes 59 = .ok (.ireturn, 1) := by decide +kernel
theorem dX9_valueOf_0 : decode cX9_valueOf 0 = .ok (.aload_n 0, 1) := by decide +kernel
theorem dX9_valueOf_1 : decode cX9_valueOf 1 = .ok (.iload_n 1, 1) := by decide +kernel
theorem dX9_valueOf_2 : decode cX9_valueOf 2 = .ok (.invokevirtual 125, 3) := by decide +kernel
theorem dX9_valueOf_5 : decode cX9_valueOf 5 = .ok (.ifCond .ne 9, 3) := by decide +kernel
theorem dX9_valueOf_8 : decode cX9_valueOf 8 = .ok (.aload_n 0, 1) := by decide +kernel
theorem dX9_valueOf_9 : decode cX9_valueOf 9 = .ok (.iconst 1, 1) := by decide +kernel
theorem dX9_valueOf_10 : decode cX9_valueOf 10 = .ok (.invokevirtual 117, 3) := by decide +kernel
theorem dX9_valueOf_13 : decode cX9_valueOf 13 = .ok (.ireturn, 1) := by decide +kernel
theorem dX9_valueOf_14 : decode cX9_valueOf 14 = .ok (.aload_n 0, 1) := by decide +kernel
theorem dX9_valueOf_15 : decode cX9_valueOf 15 = .ok (.iconst 2, 1) := by decide +kernel
theorem dX9_valueOf_16 : decode cX9_valueOf 16 = .ok (.invokevirtual 273, 3) := by decide +kernel
theorem dX9_valueOf_19 : decode cX9_valueOf 19 = .ok (.ifCond .eq 7, 3) := by decide +kernel
theorem dX9_valueOf_22 : decode cX9_valueOf 22 = .ok (.iconst 0, 1) := by decide +kernel
theorem dX9_valueOf_23 : decode cX9_valueOf 23 = .ok (.goto 9, 3) := by decide +kernel
theorem dX9_valueOf_26 : decode cX9_valueOf 26 = .ok (.aload_n 0, 1) := by decide +kernel
theorem dX9_valueOf_27 : decode cX9_valueOf 27 = .ok (.getfield 91, 3) := by decide +kernel
theorem dX9_valueOf_30 : decode cX9_valueOf 30 = .ok (.iload_n 1, 1) := by decide +kernel
theorem dX9_valueOf_31 : decode cX9_valueOf 31 = .ok (.iaload, 1) := by decide +kernel
theorem dX9_valueOf_32 : decode cX9_valueOf 32 = .ok (.ireturn, 1) := by decide +kernel
theorem dX9_functionAt_0 : decode cX9_functionAt 0 = .ok (.iload_n 1, 1) := by decide +kernel
theorem dX9_functionAt_1 : decode cX9_functionAt 1 = .ok (.ifCond .lt 8, 3) := by decide +kernel
theorem dX9_functionAt_4 : decode cX9_functionAt 4 = .ok (.iload_n 1, 1) := by decide +kernel
theorem dX9_functionAt_5 : decode cX9_functionAt 5 = .ok (.iconst 3, 1) := by decide +kernel
theorem dX9_functionAt_6 : decode cX9_functionAt 6 = .ok (.if_icmp .le 9, 3) := by decide +kernel
theorem dX9_functionAt_9 : decode cX9_functionAt 9 = .ok (.aload_n 0, 1) := by decide +kernel
theorem dX9_functionAt_10 : decode cX9_functionAt 10 = .ok (.iconst 1, 1) := by decide +kernel
theorem dX9_functionAt_11 : decode cX9_functionAt 11 = .ok (.invokevirtual 117, 3) := by decide +kernel
theorem dX9_functionAt_14 : decode cX9_functionAt 14 = .ok (.ireturn, 1) := by decide +kernel
theorem dX9_functionAt_15 : decode cX9_functionAt 15 = .ok (.aload_n 0, 1) := by decide +kernel
theorem dX9_functionAt_16 : decode cX9_functionAt 16 = .ok (.iconst 2, 1) := by decide +kernel
theorem dX9_functionAt_17 : decode cX9_functionAt 17 = .ok (.invokevirtual 273, 3) := by decide +kernel
theorem dX9_functionAt_20 : decode cX9_functionAt 20 = .ok (.ifCond .eq 5, 3) := by decide +kernel
theorem dX9_functionAt_23 : decode cX9_functionAt 23 = .ok (.iconst 0, 1) := by decide +kernel
theorem dX9_functionAt_24 : decode cX9_functionAt 24 = .ok (.ireturn, 1) := by decide +kernel
theorem dX9_functionAt_25 : decode cX9_functionAt 25 = .ok (.iconst 0, 1) := by decide +kernel
theorem dX9_functionAt_26 : decode cX9_functionAt 26 = .ok (.istore 4, 2) := by decide +kernel
theorem dX9_functionAt_28 : decode cX9_functionAt 28 = .ok (.iload 4, 2) := by decide +kernel
theorem dX9_functionAt_30 : decode cX9_functionAt 30 = .ok (.aload_n 0, 1) := by decide +kernel
theorem dX9_functionAt_31 : decode cX9_functionAt 31 = .ok (.getfield 101, 3) := by decide +kernel
theorem dX9_functionAt_34 : decode cX9_functionAt 34 = .ok (.if_icmp .ge 77, 3) := by decide +kernel
theorem dX9_functionAt_37 : decode cX9_functionAt 37 = .ok (.aload_n 0, 1) := by decide +kernel
theorem dX9_functionAt_38 : decode cX9_functionAt 38 = .ok (.getfield 7, 3) := by decide +kernel
theorem dX9_functionAt_41 : decode cX9_functionAt 41 = .ok (.iload 4, 2) := by decide +kernel
theorem dX9_functionAt_43 : decode cX9_functionAt 43 = .ok (.caload, 1) := by decide +kernel
theorem dX9_functionAt_44 : decode cX9_functionAt 44 = .ok (.bipush 102, 2) := by decide +kernel
theorem dX9_functionAt_46 : decode cX9_functionAt 46 = .ok (.if_icmp .ne 59, 3) := by decide +kernel
theorem dX9_functionAt_49 : decode cX9_functionAt 49 = .ok (.aload_n 0, 1) := by decide +kernel
theorem dX9_functionAt_50 : decode cX9_functionAt 50 = .ok (.getfield 16, 3) := by decide +kernel
theorem dX9_functionAt_53 : decode cX9_functionAt 53 = .ok (.iload 4, 2) := by decide +kernel
theorem dX9_functionAt_55 : decode cX9_functionAt 55 = .ok (.iaload, 1) := by decide +kernel
theorem dX9_functionAt_56 : decode cX9_functionAt 56 = .ok (.iload_n 1, 1) := by decide +kernel
theorem dX9_functionAt_57 : decode cX9_functionAt 57 = .ok (.if_icmp .ne 48, 3) := by decide +kernel
theorem dX9_functionAt_60 : decode cX9_functionAt 60 = .ok (.aload_n 0, 1) := by decide +kernel
theorem dX9_functionAt_61 : decode cX9_functionAt 61 = .ok (.getfield 91, 3) := by decide +kernel
theorem dX9_functionAt_64 : decode cX9_functionAt 64 = .ok (.aload_n 0, 1) := by decide +kernel
theorem dX9_functionAt_65 : decode cX9_functionAt 65 = .ok (.getfield 20, 3) := by decide +kernel
theorem dX9_functionAt_68 : decode cX9_functionAt 68 = .ok (.iload 4, 2) := by decide +kernel
theorem dX9_functionAt_70 : decode cX9_functionAt 70 = .ok (.iaload, 1) := by decide +kernel
theorem dX9_functionAt_71 : decode cX9_functionAt 71 = .ok (.iaload, 1) := by decide +kernel
theorem dX9_functionAt_72 : decode cX9_functionAt 72 = .ok (.iload_n 2, 1) := by decide +kernel
theorem dX9_functionAt_73 : decode cX9_functionAt 73 = .ok (.if_icmp .ne 32, 3) := by decide +kernel
theorem dX9_functionAt_76 : decode cX9_functionAt 76 = .ok (.iload_n 1, 1) := by decide +kernel
theorem dX9_functionAt_77 : decode cX9_functionAt 77 = .ok (.iconst 2, 1) := by decide +kernel
theorem dX9_functionAt_78 : decode cX9_functionAt 78 = .ok (.if_icmp .lt 19, 3) := by decide +kernel
theorem dX9_functionAt_81 : decode cX9_functionAt 81 = .ok (.aload_n 0, 1) := by decide +kernel
theorem dX9_functionAt_82 : decode cX9_functionAt 82 = .ok (.getfield 91, 3) := by decide +kernel
theorem dX9_functionAt_85 : decode cX9_functionAt 85 = .ok (.aload_n 0, 1) := by decide +kernel
theorem dX9_functionAt_86 : decode cX9_functionAt 86 = .ok (.getfield 23, 3) := by decide +kernel
theorem dX9_functionAt_89 : decode cX9_functionAt 89 = .ok (.iload 4, 2) := by decide +kernel
theorem dX9_functionAt_91 : decode cX9_functionAt 91 = .ok (.iaload, 1) := by decide +kernel
theorem dX9_functionAt_92 : decode cX9_functionAt 92 = .ok (.iaload, 1) := by decide +kernel
theorem dX9_functionAt_93 : decode cX9_functionAt 93 = .ok (.iload_n 3, 1) := by decide +kernel
theorem dX9_functionAt_94 : decode cX9_functionAt 94 = .ok (.if_icmp .ne 11, 3) := by decide +kernel
theorem dX9_functionAt_97 : decode cX9_functionAt 97 = .ok (.aload_n 0, 1) := by decide +kernel
theorem dX9_functionAt_98 : decode cX9_functionAt 98 = .ok (.getfield 91, 3) := by decide +kernel
theorem dX9_functionAt_101 : decode cX9_functionAt 101 = .ok (.iload 4, 2) := by decide +kernel
theorem dX9_functionAt_103 : decode cX9_functionAt 103 = .ok (.iaload, 1) := by decide +kernel
theorem dX9_functionAt_104 : decode cX9_functionAt 104 = .ok (.ireturn, 1) := by decide +kernel
theorem dX9_functionAt_105 : decode cX9_functionAt 105 = .ok (.iinc 4 1, 3) := by decide +kernel
theorem dX9_functionAt_108 : decode cX9_functionAt 108 = .ok (.goto (-80), 3) := by decide +kernel
theorem dX9_functionAt_111 : decode cX9_functionAt 111 = .ok (.iconst 0, 1) := by decide +kernel
theorem dX9_functionAt_112 : decode cX9_functionAt 112 = .ok (.ireturn, 1) := by decide +kernel
theorem dX9_has_0 : decode cX9_has 0 = .ok (.iload_n 1, 1) := by decide +kernel
theorem dX9_has_1 : decode cX9_has 1 = .ok (.istore_n 3, 1) := by decide +kernel
theorem dX9_has_2 : decode cX9_has 2 = .ok (.aload_n 0, 1) := by decide +kernel
theorem dX9_has_3 : decode cX9_has 3 = .ok (.getfield 7, 3) := by decide +kernel
theorem dX9_has_6 : decode cX9_has 6 = .ok (.iload_n 3, 1) := by decide +kernel
theorem dX9_has_7 : decode cX9_has 7 = .ok (.caload, 1) := by decide +kernel
theorem dX9_has_8 : decode cX9_has 8 = .ok (.bipush 119, 2) := by decide +kernel
theorem dX9_has_10 : decode cX9_has 10 = .ok (.if_icmp .ne 40, 3) := by decide +kernel
theorem dX9_has_13 : decode cX9_has 13 = .ok (.aload_n 0, 1) := by decide +kernel
theorem dX9_has_14 : decode cX9_has 14 = .ok (.getfield 91, 3) := by decide +kernel
theorem dX9_has_17 : decode cX9_has 17 = .ok (.aload_n 0, 1) := by decide +kernel
theorem dX9_has_18 : decode cX9_has 18 = .ok (.getfield 23, 3) := by decide +kernel
theorem dX9_has_21 : decode cX9_has 21 = .ok (.iload_n 3, 1) := by decide +kernel
theorem dX9_has_22 : decode cX9_has 22 = .ok (.iaload, 1) := by decide +kernel
theorem dX9_has_23 : decode cX9_has 23 = .ok (.iaload, 1) := by decide +kernel
theorem dX9_has_24 : decode cX9_has 24 = .ok (.iload_n 2, 1) := by decide +kernel
theorem dX9_has_25 : decode cX9_has 25 = .ok (.if_icmp .ne 15, 3) := by decide +kernel
theorem dX9_has_28 : decode cX9_has 28 = .ok (.aload_n 0, 1) := by decide +kernel
theorem dX9_has_29 : decode cX9_has 29 = .ok (.getfield 91, 3) := by decide +kernel
theorem dX9_has_32 : decode cX9_has 32 = .ok (.aload_n 0, 1) := by decide +kernel
theorem dX9_has_33 : decode cX9_has 33 = .ok (.getfield 26, 3) := by decide +kernel
theorem dX9_has_36 : decode cX9_has 36 = .ok (.iload_n 3, 1) := by decide +kernel
theorem dX9_has_37 : decode cX9_has 37 = .ok (.iaload, 1) := by decide +kernel
theorem dX9_has_38 : decode cX9_has 38 = .ok (.iaload, 1) := by decide +kernel
theorem dX9_has_39 : decode cX9_has 39 = .ok (.ireturn, 1) := by decide +kernel
theorem dX9_has_40 : decode cX9_has 40 = .ok (.aload_n 0, 1) := by decide +kernel
theorem dX9_has_41 : decode cX9_has 41 = .ok (.getfield 20, 3) := by decide +kernel
theorem dX9_has_44 : decode cX9_has 44 = .ok (.iload_n 3, 1) := by decide +kernel
theorem dX9_has_45 : decode cX9_has 45 = .ok (.iaload, 1) := by decide +kernel
theorem dX9_has_46 : decode cX9_has 46 = .ok (.istore_n 3, 1) := by decide +kernel
theorem dX9_has_47 : decode cX9_has 47 = .ok (.goto (-45), 3) := by decide +kernel
theorem dX9_has_50 : decode cX9_has 50 = .ok (.iconst 0, 1) := by decide +kernel
theorem dX9_has_51 : decode cX9_has 51 = .ok (.istore 4, 2) := by decide +kernel
theorem dX9_has_53 : decode cX9_has 53 = .ok (.iload 4, 2) := by decide +kernel
theorem dX9_has_55 : decode cX9_has 55 = .ok (.aload_n 0, 1) := by decide +kernel
theorem dX9_has_56 : decode cX9_has 56 = .ok (.getfield 101, 3) := by decide +kernel
theorem dX9_has_59 : decode cX9_has 59 = .ok (.if_icmp .ge 130, 3) := by decide +kernel
theorem dX9_has_62 : decode cX9_has 62 = .ok (.aload_n 0, 1) := by decide +kernel
theorem dX9_has_63 : decode cX9_has 63 = .ok (.getfield 7, 3) := by decide +kernel
theorem dX9_has_66 : decode cX9_has 66 = .ok (.iload 4, 2) := by decide +kernel
theorem dX9_has_68 : decode cX9_has 68 = .ok (.caload, 1) := by decide +kernel
theorem dX9_has_69 : decode cX9_has 69 = .ok (.bipush 114, 2) := by decide +kernel
theorem dX9_has_71 : decode cX9_has 71 = .ok (.if_icmp .ne 112, 3) := by decide +kernel
theorem dX9_has_74 : decode cX9_has 74 = .ok (.aload_n 0, 1) := by decide +kernel
theorem dX9_has_75 : decode cX9_has 75 = .ok (.getfield 91, 3) := by decide +kernel
theorem dX9_has_78 : decode cX9_has 78 = .ok (.aload_n 0, 1) := by decide +kernel
theorem dX9_has_79 : decode cX9_has 79 = .ok (.getfield 23, 3) := by decide +kernel
theorem dX9_has_82 : decode cX9_has 82 = .ok (.iload 4, 2) := by decide +kernel
theorem dX9_has_84 : decode cX9_has 84 = .ok (.iaload, 1) := by decide +kernel
theorem dX9_has_85 : decode cX9_has 85 = .ok (.iaload, 1) := by decide +kernel
theorem dX9_has_86 : decode cX9_has 86 = .ok (.iload_n 2, 1) := by decide +kernel
theorem dX9_has_87 : decode cX9_has 87 = .ok (.if_icmp .ne 96, 3) := by decide +kernel
theorem dX9_has_90 : decode cX9_has 90 = .ok (.aload_n 0, 1) := by decide +kernel
theorem dX9_has_91 : decode cX9_has 91 = .ok (.aload_n 0, 1) := by decide +kernel
theorem dX9_has_92 : decode cX9_has 92 = .ok (.getfield 20, 3) := by decide +kernel
theorem dX9_has_95 : decode cX9_has 95 = .ok (.iload 4, 2) := by decide +kernel
theorem dX9_has_97 : decode cX9_has 97 = .ok (.iaload, 1) := by decide +kernel
theorem dX9_has_98 : decode cX9_has 98 = .ok (.invokevirtual 176, 3) := by decide +kernel
theorem dX9_has_101 : decode cX9_has 101 = .ok (.iload_n 3, 1) := by decide +kernel
theorem dX9_has_102 : decode cX9_has 102 = .ok (.if_icmp .eq 6, 3) := by decide +kernel
theorem dX9_has_105 : decode cX9_has 105 = .ok (.goto 78, 3) := by decide +kernel
theorem dX9_has_108 : decode cX9_has 108 = .ok (.iconst 1, 1) := by decide +kernel
theorem dX9_has_109 : decode cX9_has 109 = .ok (.istore 5, 2) := by decide +kernel
theorem dX9_has_111 : decode cX9_has 111 = .ok (.aload_n 0, 1) := by decide +kernel
theorem dX9_has_112 : decode cX9_has 112 = .ok (.getfield 20, 3) := by decide +kernel
theorem dX9_has_115 : decode cX9_has 115 = .ok (.iload 4, 2) := by decide +kernel
theorem dX9_has_117 : decode cX9_has 117 = .ok (.iaload, 1) := by decide +kernel
theorem dX9_has_118 : decode cX9_has 118 = .ok (.istore 6, 2) := by decide +kernel
theorem dX9_has_120 : decode cX9_has 120 = .ok (.aload_n 0, 1) := by decide +kernel
theorem dX9_has_121 : decode cX9_has 121 = .ok (.getfield 7, 3) := by decide +kernel
theorem dX9_has_124 : decode cX9_has 124 = .ok (.iload 6, 2) := by decide +kernel
theorem dX9_has_126 : decode cX9_has 126 = .ok (.caload, 1) := by decide +kernel
theorem dX9_has_127 : decode cX9_has 127 = .ok (.bipush 119, 2) := by decide +kernel
theorem dX9_has_129 : decode cX9_has 129 = .ok (.if_icmp .ne 41, 3) := by decide +kernel
theorem dX9_has_132 : decode cX9_has 132 = .ok (.iload 5, 2) := by decide +kernel
theorem dX9_has_134 : decode cX9_has 134 = .ok (.aload_n 0, 1) := by decide +kernel
theorem dX9_has_135 : decode cX9_has 135 = .ok (.getfield 91, 3) := by decide +kernel
theorem dX9_has_138 : decode cX9_has 138 = .ok (.aload_n 0, 1) := by decide +kernel
theorem dX9_has_139 : decode cX9_has 139 = .ok (.getfield 23, 3) := by decide +kernel
theorem dX9_has_142 : decode cX9_has 142 = .ok (.iload 6, 2) := by decide +kernel
theorem dX9_has_144 : decode cX9_has 144 = .ok (.iaload, 1) := by decide +kernel
theorem dX9_has_145 : decode cX9_has 145 = .ok (.iaload, 1) := by decide +kernel
theorem dX9_has_146 : decode cX9_has 146 = .ok (.iload_n 2, 1) := by decide +kernel
theorem dX9_has_147 : decode cX9_has 147 = .ok (.if_icmp .eq 7, 3) := by decide +kernel
theorem dX9_has_150 : decode cX9_has 150 = .ok (.iconst 1, 1) := by decide +kernel
theorem dX9_has_151 : decode cX9_has 151 = .ok (.goto 4, 3) := by decide +kernel
theorem dX9_has_154 : decode cX9_has 154 = .ok (.iconst 0, 1) := by decide +kernel
theorem dX9_has_155 : decode cX9_has 155 = .ok (.iand, 1) := by decide +kernel
theorem dX9_has_156 : decode cX9_has 156 = .ok (.istore 5, 2) := by decide +kernel
theorem dX9_has_158 : decode cX9_has 158 = .ok (.aload_n 0, 1) := by decide +kernel
theorem dX9_has_159 : decode cX9_has 159 = .ok (.getfield 20, 3) := by decide +kernel
theorem dX9_has_162 : decode cX9_has 162 = .ok (.iload 6, 2) := by decide +kernel
theorem dX9_has_164 : decode cX9_has 164 = .ok (.iaload, 1) := by decide +kernel
theorem dX9_has_165 : decode cX9_has 165 = .ok (.istore 6, 2) := by decide +kernel
theorem dX9_has_167 : decode cX9_has 167 = .ok (.goto (-47), 3) := by decide +kernel
theorem dX9_has_170 : decode cX9_has 170 = .ok (.iload 5, 2) := by decide +kernel
theorem dX9_has_172 : decode cX9_has 172 = .ok (.ifCond .eq 11, 3) := by decide +kernel
theorem dX9_has_175 : decode cX9_has 175 = .ok (.aload_n 0, 1) := by decide +kernel
theorem dX9_has_176 : decode cX9_has 176 = .ok (.getfield 91, 3) := by decide +kernel
theorem dX9_has_179 : decode cX9_has 179 = .ok (.iload 4, 2) := by decide +kernel
theorem dX9_has_181 : decode cX9_has 181 = .ok (.iaload, 1) := by decide +kernel
theorem dX9_has_182 : decode cX9_has 182 = .ok (.ireturn, 1) := by decide +kernel
theorem dX9_has_183 : decode cX9_has 183 = .ok (.iinc 4 1, 3) := by decide +kernel
theorem dX9_has_186 : decode cX9_has 186 = .ok (.goto (-133), 3) := by decide +kernel
theorem dX9_has_189 : decode cX9_has 189 = .ok (.iconst 0, 1) := by decide +kernel
theorem dX9_has_190 : decode cX9_has 190 = .ok (.ireturn, 1) := by decide +kernel
theorem dX9_entry_0 : decode cX9_entry 0 = .ok (.aload_n 0, 1) := by decide +kernel
theorem dX9_entry_1 : decode cX9_entry 1 = .ok (.iload_n 1, 1) := by decide +kernel
theorem dX9_entry_2 : decode cX9_entry 2 = .ok (.invokevirtual 133, 3) := by decide +kernel
theorem dX9_entry_5 : decode cX9_entry 5 = .ok (.ifCond .ne 9, 3) := by decide +kernel
theorem dX9_entry_8 : decode cX9_entry 8 = .ok (.aload_n 0, 1) := by decide +kernel
theorem dX9_entry_9 : decode cX9_entry 9 = .ok (.iconst 1, 1) := by decide +kernel
theorem dX9_entry_10 : decode cX9_entry 10 = .ok (.invokevirtual 117, 3) := by decide +kernel
theorem dX9_entry_13 : decode cX9_entry 13 = .ok (.ireturn, 1) := by decide +kernel
theorem dX9_entry_14 : decode cX9_entry 14 = .ok (.aload_n 0, 1) := by decide +kernel
theorem dX9_entry_15 : decode cX9_entry 15 = .ok (.iconst 2, 1) := by decide +kernel
theorem dX9_entry_16 : decode cX9_entry 16 = .ok (.invokevirtual 273, 3) := by decide +kernel
theorem dX9_entry_19 : decode cX9_entry 19 = .ok (.ifCond .eq 7, 3) := by decide +kernel
theorem dX9_entry_22 : decode cX9_entry 22 = .ok (.iconst 0, 1) := by decide +kernel
theorem dX9_entry_23 : decode cX9_entry 23 = .ok (.goto 9, 3) := by decide +kernel
theorem dX9_entry_26 : decode cX9_entry 26 = .ok (.aload_n 0, 1) := by decide +kernel
theorem dX9_entry_27 : decode cX9_entry 27 = .ok (.iload_n 1, 1) := by decide +kernel
theorem dX9_entry_28 : decode cX9_entry 28 = .ok (.iload_n 2, 1) := by decide +kernel
theorem dX9_entry_29 : decode cX9_entry 29 = .ok (.invokevirtual 279, 3) := by decide +kernel
theorem dX9_entry_32 : decode cX9_entry 32 = .ok (.ireturn, 1) := by decide +kernel
theorem dX9_isSo_0 : decode cX9_isSo 0 = .ok (.iload_n 1, 1) := by decide +kernel
theorem dX9_isSo_1 : decode cX9_isSo 1 = .ok (.iconst 2, 1) := by decide +kernel
theorem dX9_isSo_2 : decode cX9_isSo 2 = .ok (.idiv, 1) := by decide +kernel
theorem dX9_isSo_3 : decode cX9_isSo 3 = .ok (.istore_n 2, 1) := by decide +kernel
theorem dX9_isSo_4 : decode cX9_isSo 4 = .ok (.aload_n 0, 1) := by decide +kernel
theorem dX9_isSo_5 : decode cX9_isSo 5 = .ok (.getfield 91, 3) := by decide +kernel
theorem dX9_isSo_8 : decode cX9_isSo 8 = .ok (.aload_n 0, 1) := by decide +kernel
theorem dX9_isSo_9 : decode cX9_isSo 9 = .ok (.getfield 32, 3) := by decide +kernel
theorem dX9_isSo_12 : decode cX9_isSo 12 = .ok (.iload_n 2, 1) := by decide +kernel
theorem dX9_isSo_13 : decode cX9_isSo 13 = .ok (.iaload, 1) := by decide +kernel
theorem dX9_isSo_14 : decode cX9_isSo 14 = .ok (.iaload, 1) := by decide +kernel
theorem dX9_isSo_15 : decode cX9_isSo 15 = .ok (.istore_n 3, 1) := by decide +kernel
theorem dX9_isSo_16 : decode cX9_isSo 16 = .ok (.aload_n 0, 1) := by decide +kernel
theorem dX9_isSo_17 : decode cX9_isSo 17 = .ok (.getfield 91, 3) := by decide +kernel
theorem dX9_isSo_20 : decode cX9_isSo 20 = .ok (.aload_n 0, 1) := by decide +kernel
theorem dX9_isSo_21 : decode cX9_isSo 21 = .ok (.getfield 35, 3) := by decide +kernel
theorem dX9_isSo_24 : decode cX9_isSo 24 = .ok (.iload_n 2, 1) := by decide +kernel
theorem dX9_isSo_25 : decode cX9_isSo 25 = .ok (.iaload, 1) := by decide +kernel
theorem dX9_isSo_26 : decode cX9_isSo 26 = .ok (.iaload, 1) := by decide +kernel
theorem dX9_isSo_27 : decode cX9_isSo 27 = .ok (.istore 4, 2) := by decide +kernel
theorem dX9_isSo_29 : decode cX9_isSo 29 = .ok (.aload_n 0, 1) := by decide +kernel
theorem dX9_isSo_30 : decode cX9_isSo 30 = .ok (.getfield 41, 3) := by decide +kernel
theorem dX9_isSo_33 : decode cX9_isSo 33 = .ok (.iload_n 2, 1) := by decide +kernel
theorem dX9_isSo_34 : decode cX9_isSo 34 = .ok (.baload, 1) := by decide +kernel
theorem dX9_isSo_35 : decode cX9_isSo 35 = .ok (.ifCond .eq 17, 3) := by decide +kernel
theorem dX9_isSo_38 : decode cX9_isSo 38 = .ok (.iload_n 3, 1) := by decide +kernel
theorem dX9_isSo_39 : decode cX9_isSo 39 = .ok (.iload 4, 2) := by decide +kernel
theorem dX9_isSo_41 : decode cX9_isSo 41 = .ok (.if_icmp .ne 7, 3) := by decide +kernel
theorem dX9_isSo_44 : decode cX9_isSo 44 = .ok (.iconst 1, 1) := by decide +kernel
theorem dX9_isSo_45 : decode cX9_isSo 45 = .ok (.goto 25, 3) := by decide +kernel
theorem dX9_isSo_48 : decode cX9_isSo 48 = .ok (.iconst 0, 1) := by decide +kernel
theorem dX9_isSo_49 : decode cX9_isSo 49 = .ok (.goto 21, 3) := by decide +kernel
theorem dX9_isSo_52 : decode cX9_isSo 52 = .ok (.iload_n 3, 1) := by decide +kernel
theorem dX9_isSo_53 : decode cX9_isSo 53 = .ok (.iload 4, 2) := by decide +kernel
theorem dX9_isSo_55 : decode cX9_isSo 55 = .ok (.isub, 1) := by decide +kernel
theorem dX9_isSo_56 : decode cX9_isSo 56 = .ok (.aload_n 0, 1) := by decide +kernel
theorem dX9_isSo_57 : decode cX9_isSo 57 = .ok (.getfield 38, 3) := by decide +kernel
theorem dX9_isSo_60 : decode cX9_isSo 60 = .ok (.iload_n 2, 1) := by decide +kernel
theorem dX9_isSo_61 : decode cX9_isSo 61 = .ok (.iaload, 1) := by decide +kernel
theorem dX9_isSo_62 : decode cX9_isSo 62 = .ok (.if_icmp .gt 7, 3) := by decide +kernel
theorem dX9_isSo_65 : decode cX9_isSo 65 = .ok (.iconst 1, 1) := by decide +kernel
theorem dX9_isSo_66 : decode cX9_isSo 66 = .ok (.goto 4, 3) := by decide +kernel
theorem dX9_isSo_69 : decode cX9_isSo 69 = .ok (.iconst 0, 1) := by decide +kernel
theorem dX9_isSo_70 : decode cX9_isSo 70 = .ok (.istore 5, 2) := by decide +kernel
theorem dX9_isSo_72 : decode cX9_isSo 72 = .ok (.iload 5, 2) := by decide +kernel
theorem dX9_isSo_74 : decode cX9_isSo 74 = .ok (.iload_n 1, 1) := by decide +kernel
theorem dX9_isSo_75 : decode cX9_isSo 75 = .ok (.iconst 2, 1) := by decide +kernel
theorem dX9_isSo_76 : decode cX9_isSo 76 = .ok (.irem, 1) := by decide +kernel
theorem dX9_isSo_77 : decode cX9_isSo 77 = .ok (.ifCond .ne 7, 3) := by decide +kernel
theorem dX9_isSo_80 : decode cX9_isSo 80 = .ok (.iconst 1, 1) := by decide +kernel
theorem dX9_isSo_81 : decode cX9_isSo 81 = .ok (.goto 4, 3) := by decide +kernel
theorem dX9_isSo_84 : decode cX9_isSo 84 = .ok (.iconst 0, 1) := by decide +kernel
theorem dX9_isSo_85 : decode cX9_isSo 85 = .ok (.if_icmp .ne 7, 3) := by decide +kernel
theorem dX9_isSo_88 : decode cX9_isSo 88 = .ok (.iconst 1, 1) := by decide +kernel
theorem dX9_isSo_89 : decode cX9_isSo 89 = .ok (.goto 4, 3) := by decide +kernel
theorem dX9_isSo_92 : decode cX9_isSo 92 = .ok (.iconst 0, 1) := by decide +kernel
theorem dX9_isSo_93 : decode cX9_isSo 93 = .ok (.ireturn, 1) := by decide +kernel
theorem dX9_isTrue_0 : decode cX9_isTrue 0 = .ok (.aload_n 0, 1) := by decide +kernel
theorem dX9_isTrue_1 : decode cX9_isTrue 1 = .ok (.iload_n 1, 1) := by decide +kernel
theorem dX9_isTrue_2 : decode cX9_isTrue 2 = .ok (.invokevirtual 143, 3) := by decide +kernel
theorem dX9_isTrue_5 : decode cX9_isTrue 5 = .ok (.ifCond .eq 5, 3) := by decide +kernel
theorem dX9_isTrue_8 : decode cX9_isTrue 8 = .ok (.iconst 0, 1) := by decide +kernel
theorem dX9_isTrue_9 : decode cX9_isTrue 9 = .ok (.ireturn, 1) := by decide +kernel
theorem dX9_isTrue_10 : decode cX9_isTrue 10 = .ok (.aload_n 0, 1) := by decide +kernel
theorem dX9_isTrue_11 : decode cX9_isTrue 11 = .ok (.iconst 2, 1) := by decide +kernel
theorem dX9_isTrue_12 : decode cX9_isTrue 12 = .ok (.invokevirtual 273, 3) := by decide +kernel
theorem dX9_isTrue_15 : decode cX9_isTrue 15 = .ok (.ifCond .ne 15, 3) := by decide +kernel
theorem dX9_isTrue_18 : decode cX9_isTrue 18 = .ok (.aload_n 0, 1) := by decide +kernel
theorem dX9_isTrue_19 : decode cX9_isTrue 19 = .ok (.iload_n 1, 1) := by decide +kernel
theorem dX9_isTrue_20 : decode cX9_isTrue 20 = .ok (.invokevirtual 282, 3) := by decide +kernel
theorem dX9_isTrue_23 : decode cX9_isTrue 23 = .ok (.ifCond .eq 7, 3) := by decide +kernel
theorem dX9_isTrue_26 : decode cX9_isTrue 26 = .ok (.iconst 1, 1) := by decide +kernel
theorem dX9_isTrue_27 : decode cX9_isTrue 27 = .ok (.goto 4, 3) := by decide +kernel
theorem dX9_isTrue_30 : decode cX9_isTrue 30 = .ok (.iconst 0, 1) := by decide +kernel
theorem dX9_isTrue_31 : decode cX9_isTrue 31 = .ok (.ireturn, 1) := by decide +kernel
theorem dX9_trueLiterals_0 : decode cX9_trueLiterals 0 = .ok (.aload_n 0, 1) := by decide +kernel
theorem dX9_trueLiterals_1 : decode cX9_trueLiterals 1 = .ok (.iconst 1, 1) := by decide +kernel
theorem dX9_trueLiterals_2 : decode cX9_trueLiterals 2 = .ok (.invokevirtual 273, 3) := by decide +kernel
theorem dX9_trueLiterals_5 : decode cX9_trueLiterals 5 = .ok (.ifCond .eq 5, 3) := by decide +kernel
theorem dX9_trueLiterals_8 : decode cX9_trueLiterals 8 = .ok (.lconst 0, 1) := by decide +kernel
theorem dX9_trueLiterals_9 : decode cX9_trueLiterals 9 = .ok (.lreturn, 1) := by decide +kernel
theorem dX9_trueLiterals_10 : decode cX9_trueLiterals 10 = .ok (.lconst 0, 1) := by decide +kernel
theorem dX9_trueLiterals_11 : decode cX9_trueLiterals 11 = .ok (.lstore_n 1, 1) := by decide +kernel
theorem dX9_trueLiterals_12 : decode cX9_trueLiterals 12 = .ok (.iconst 0, 1) := by decide +kernel
theorem dX9_trueLiterals_13 : decode cX9_trueLiterals 13 = .ok (.istore_n 3, 1) := by decide +kernel
theorem dX9_trueLiterals_14 : decode cX9_trueLiterals 14 = .ok (.iload_n 3, 1) := by decide +kernel
theorem dX9_trueLiterals_15 : decode cX9_trueLiterals 15 = .ok (.iconst 3, 1) := by decide +kernel
theorem dX9_trueLiterals_16 : decode cX9_trueLiterals 16 = .ok (.aload_n 0, 1) := by decide +kernel
theorem dX9_trueLiterals_17 : decode cX9_trueLiterals 17 = .ok (.getfield 146, 3) := by decide +kernel
theorem dX9_trueLiterals_20 : decode cX9_trueLiterals 20 = .ok (.imul, 1) := by decide +kernel
theorem dX9_trueLiterals_21 : decode cX9_trueLiterals 21 = .ok (.if_icmp .ge 40, 3) := by decide +kernel
theorem dX9_trueLiterals_24 : decode cX9_trueLiterals 24 = .ok (.lload_n 1, 1) := by decide +kernel
theorem dX9_trueLiterals_25 : decode cX9_trueLiterals 25 = .ok (.aload_n 0, 1) := by decide +kernel
theorem dX9_trueLiterals_26 : decode cX9_trueLiterals 26 = .ok (.getfield 54, 3) := by decide +kernel
theorem dX9_trueLiterals_29 : decode cX9_trueLiterals 29 = .ok (.iload_n 3, 1) := by decide +kernel
theorem dX9_trueLiterals_30 : decode cX9_trueLiterals 30 = .ok (.iaload, 1) := by decide +kernel
theorem dX9_trueLiterals_31 : decode cX9_trueLiterals 31 = .ok (.iconst (-1), 1) := by decide +kernel
theorem dX9_trueLiterals_32 : decode cX9_trueLiterals 32 = .ok (.if_icmp .eq 20, 3) := by decide +kernel
theorem dX9_trueLiterals_35 : decode cX9_trueLiterals 35 = .ok (.aload_n 0, 1) := by decide +kernel
theorem dX9_trueLiterals_36 : decode cX9_trueLiterals 36 = .ok (.aload_n 0, 1) := by decide +kernel
theorem dX9_trueLiterals_37 : decode cX9_trueLiterals 37 = .ok (.getfield 54, 3) := by decide +kernel
theorem dX9_trueLiterals_40 : decode cX9_trueLiterals 40 = .ok (.iload_n 3, 1) := by decide +kernel
theorem dX9_trueLiterals_41 : decode cX9_trueLiterals 41 = .ok (.iaload, 1) := by decide +kernel
theorem dX9_trueLiterals_42 : decode cX9_trueLiterals 42 = .ok (.invokevirtual 282, 3) := by decide +kernel
theorem dX9_trueLiterals_45 : decode cX9_trueLiterals 45 = .ok (.ifCond .eq 7, 3) := by decide +kernel
theorem dX9_trueLiterals_48 : decode cX9_trueLiterals 48 = .ok (.lconst 1, 1) := by decide +kernel
theorem dX9_trueLiterals_49 : decode cX9_trueLiterals 49 = .ok (.goto 4, 3) := by decide +kernel
theorem dX9_trueLiterals_52 : decode cX9_trueLiterals 52 = .ok (.lconst 0, 1) := by decide +kernel
theorem dX9_trueLiterals_53 : decode cX9_trueLiterals 53 = .ok (.ladd, 1) := by decide +kernel
theorem dX9_trueLiterals_54 : decode cX9_trueLiterals 54 = .ok (.lstore_n 1, 1) := by decide +kernel
theorem dX9_trueLiterals_55 : decode cX9_trueLiterals 55 = .ok (.iinc 3 1, 3) := by decide +kernel
theorem dX9_trueLiterals_58 : decode cX9_trueLiterals 58 = .ok (.goto (-44), 3) := by decide +kernel
theorem dX9_trueLiterals_61 : decode cX9_trueLiterals 61 = .ok (.lload_n 1, 1) := by decide +kernel
theorem dX9_trueLiterals_62 : decode cX9_trueLiterals 62 = .ok (.lreturn, 1) := by decide +kernel
theorem dX9_coreShare_0 : decode cX9_coreShare 0 = .ok (.aload_n 0, 1) := by decide +kernel
theorem dX9_coreShare_1 : decode cX9_coreShare 1 = .ok (.invokevirtual 254, 3) := by decide +kernel
theorem dX9_coreShare_4 : decode cX9_coreShare 4 = .ok (.istore_n 1, 1) := by decide +kernel
theorem dX9_coreShare_5 : decode cX9_coreShare 5 = .ok (.aload_n 0, 1) := by decide +kernel
theorem dX9_coreShare_6 : decode cX9_coreShare 6 = .ok (.getfield 97, 3) := by decide +kernel
theorem dX9_coreShare_9 : decode cX9_coreShare 9 = .ok (.ifCond .ne 14, 3) := by decide +kernel
theorem dX9_coreShare_12 : decode cX9_coreShare 12 = .ok (.iload_n 1, 1) := by decide +kernel
theorem dX9_coreShare_13 : decode cX9_coreShare 13 = .ok (.i2f, 1) := by decide +kernel
theorem dX9_coreShare_14 : decode cX9_coreShare 14 = .ok (.aload_n 0, 1) := by decide +kernel
theorem dX9_coreShare_15 : decode cX9_coreShare 15 = .ok (.getfield 146, 3) := by decide +kernel
theorem dX9_coreShare_18 : decode cX9_coreShare 18 = .ok (.i2f, 1) := by decide +kernel
theorem dX9_coreShare_19 : decode cX9_coreShare 19 = .ok (.fdiv, 1) := by decide +kernel
theorem dX9_coreShare_20 : decode cX9_coreShare 20 = .ok (.goto 4, 3) := by decide +kernel
theorem dX9_coreShare_23 : decode cX9_coreShare 23 = .ok (.fconst 0, 1) := by decide +kernel
theorem dX9_coreShare_24 : decode cX9_coreShare 24 = .ok (.freturn, 1) := by decide +kernel
theorem dX9_meanValue_0 : decode cX9_meanValue 0 = .ok (.aload_n 0, 1) := by decide +kernel
theorem dX9_meanValue_1 : decode cX9_meanValue 1 = .ok (.iconst 1, 1) := by decide +kernel
theorem dX9_meanValue_2 : decode cX9_meanValue 2 = .ok (.invokevirtual 273, 3) := by decide +kernel
theorem dX9_meanValue_5 : decode cX9_meanValue 5 = .ok (.ifCond .eq 5, 3) := by decide +kernel
theorem dX9_meanValue_8 : decode cX9_meanValue 8 = .ok (.dconst 0, 1) := by decide +kernel
theorem dX9_meanValue_9 : decode cX9_meanValue 9 = .ok (.dreturn, 1) := by decide +kernel
theorem dX9_meanValue_10 : decode cX9_meanValue 10 = .ok (.iconst 0, 1) := by decide +kernel
theorem dX9_meanValue_11 : decode cX9_meanValue 11 = .ok (.istore_n 1, 1) := by decide +kernel
theorem dX9_meanValue_12 : decode cX9_meanValue 12 = .ok (.lconst 0, 1) := by decide +kernel
theorem dX9_meanValue_13 : decode cX9_meanValue 13 = .ok (.lstore_n 2, 1) := by decide +kernel
theorem dX9_meanValue_14 : decode cX9_meanValue 14 = .ok (.iconst 0, 1) := by decide +kernel
theorem dX9_meanValue_15 : decode cX9_meanValue 15 = .ok (.istore 4, 2) := by decide +kernel
theorem dX9_meanValue_17 : decode cX9_meanValue 17 = .ok (.iload 4, 2) := by decide +kernel
theorem dX9_meanValue_19 : decode cX9_meanValue 19 = .ok (.aload_n 0, 1) := by decide +kernel
theorem dX9_meanValue_20 : decode cX9_meanValue 20 = .ok (.getfield 101, 3) := by decide +kernel
theorem dX9_meanValue_23 : decode cX9_meanValue 23 = .ok (.if_icmp .ge 50, 3) := by decide +kernel
theorem dX9_meanValue_26 : decode cX9_meanValue 26 = .ok (.iload_n 1, 1) := by decide +kernel
theorem dX9_meanValue_27 : decode cX9_meanValue 27 = .ok (.aload_n 0, 1) := by decide +kernel
theorem dX9_meanValue_28 : decode cX9_meanValue 28 = .ok (.iload 4, 2) := by decide +kernel
theorem dX9_meanValue_30 : decode cX9_meanValue 30 = .ok (.invokevirtual 125, 3) := by decide +kernel
theorem dX9_meanValue_33 : decode cX9_meanValue 33 = .ok (.ifCond .eq 7, 3) := by decide +kernel
theorem dX9_meanValue_36 : decode cX9_meanValue 36 = .ok (.iconst 1, 1) := by decide +kernel
theorem dX9_meanValue_37 : decode cX9_meanValue 37 = .ok (.goto 4, 3) := by decide +kernel
theorem dX9_meanValue_40 : decode cX9_meanValue 40 = .ok (.iconst 0, 1) := by decide +kernel
theorem dX9_meanValue_41 : decode cX9_meanValue 41 = .ok (.iadd, 1) := by decide +kernel
theorem dX9_meanValue_42 : decode cX9_meanValue 42 = .ok (.istore_n 1, 1) := by decide +kernel
theorem dX9_meanValue_43 : decode cX9_meanValue 43 = .ok (.lload_n 2, 1) := by decide +kernel
theorem dX9_meanValue_44 : decode cX9_meanValue 44 = .ok (.aload_n 0, 1) := by decide +kernel
theorem dX9_meanValue_45 : decode cX9_meanValue 45 = .ok (.iload 4, 2) := by decide +kernel
theorem dX9_meanValue_47 : decode cX9_meanValue 47 = .ok (.invokevirtual 125, 3) := by decide +kernel
theorem dX9_meanValue_50 : decode cX9_meanValue 50 = .ok (.ifCond .eq 14, 3) := by decide +kernel
theorem dX9_meanValue_53 : decode cX9_meanValue 53 = .ok (.aload_n 0, 1) := by decide +kernel
theorem dX9_meanValue_54 : decode cX9_meanValue 54 = .ok (.getfield 91, 3) := by decide +kernel
theorem dX9_meanValue_57 : decode cX9_meanValue 57 = .ok (.iload 4, 2) := by decide +kernel
theorem dX9_meanValue_59 : decode cX9_meanValue 59 = .ok (.iaload, 1) := by decide +kernel
theorem dX9_meanValue_60 : decode cX9_meanValue 60 = .ok (.i2l, 1) := by decide +kernel
theorem dX9_meanValue_61 : decode cX9_meanValue 61 = .ok (.goto 4, 3) := by decide +kernel
theorem dX9_meanValue_64 : decode cX9_meanValue 64 = .ok (.lconst 0, 1) := by decide +kernel
theorem dX9_meanValue_65 : decode cX9_meanValue 65 = .ok (.ladd, 1) := by decide +kernel
theorem dX9_meanValue_66 : decode cX9_meanValue 66 = .ok (.lstore_n 2, 1) := by decide +kernel
theorem dX9_meanValue_67 : decode cX9_meanValue 67 = .ok (.iinc 4 1, 3) := by decide +kernel
theorem dX9_meanValue_70 : decode cX9_meanValue 70 = .ok (.goto (-53), 3) := by decide +kernel
theorem dX9_meanValue_73 : decode cX9_meanValue 73 = .ok (.aload_n 0, 1) := by decide +kernel
theorem dX9_meanValue_74 : decode cX9_meanValue 74 = .ok (.iload_n 1, 1) := by decide +kernel
theorem dX9_meanValue_75 : decode cX9_meanValue 75 = .ok (.ifCond .ne 7, 3) := by decide +kernel
theorem dX9_meanValue_78 : decode cX9_meanValue 78 = .ok (.iconst 2, 1) := by decide +kernel
theorem dX9_meanValue_79 : decode cX9_meanValue 79 = .ok (.goto 4, 3) := by decide +kernel
theorem dX9_meanValue_82 : decode cX9_meanValue 82 = .ok (.iconst 0, 1) := by decide +kernel
theorem dX9_meanValue_83 : decode cX9_meanValue 83 = .ok (.putfield 97, 3) := by decide +kernel
theorem dX9_meanValue_86 : decode cX9_meanValue 86 = .ok (.iload_n 1, 1) := by decide +kernel
theorem dX9_meanValue_87 : decode cX9_meanValue 87 = .ok (.ifCond .ne 7, 3) := by decide +kernel
theorem dX9_meanValue_90 : decode cX9_meanValue 90 = .ok (.dconst 0, 1) := by decide +kernel
theorem dX9_meanValue_91 : decode cX9_meanValue 91 = .ok (.goto 8, 3) := by decide +kernel
theorem dX9_meanValue_94 : decode cX9_meanValue 94 = .ok (.lload_n 2, 1) := by decide +kernel
theorem dX9_meanValue_95 : decode cX9_meanValue 95 = .ok (.l2d, 1) := by decide +kernel
theorem dX9_meanValue_96 : decode cX9_meanValue 96 = .ok (.iload_n 1, 1) := by decide +kernel
theorem dX9_meanValue_97 : decode cX9_meanValue 97 = .ok (.i2d, 1) := by decide +kernel
theorem dX9_meanValue_98 : decode cX9_meanValue 98 = .ok (.ddiv, 1) := by decide +kernel
theorem dX9_meanValue_99 : decode cX9_meanValue 99 = .ok (.dreturn, 1) := by decide +kernel
theorem dX9_isSound_0 : decode cX9_isSound 0 = .ok (.iconst 1, 1) := by decide +kernel
theorem dX9_isSound_1 : decode cX9_isSound 1 = .ok (.ireturn, 1) := by decide +kernel
