theorem dX8_init_0 : decode cX8_init 0 = .ok (.aload_n 0, 1) := by decide +kernel
theorem dX8_init_1 : decode cX8_init 1 = .ok (.invokespecial 1, 3) := by decide +kernel
theorem dX8_init_4 : decode cX8_init 4 = .ok (.aload_n 0, 1) := by decide +kernel
theorem dX8_init_5 : decode cX8_init 5 = .ok (.new 7, 3) := by decide +kernel
theorem dX8_init_8 : decode cX8_init 8 = .ok (.dup, 1) := by decide +kernel
theorem dX8_init_9 : decode cX8_init 9 = .ok (.invokespecial 9, 3) := by decide +kernel
theorem dX8_init_12 : decode cX8_init 12 = .ok (.putfield 10, 3) := by decide +kernel
theorem dX8_init_15 : decode cX8_init 15 = .ok (.aload_n 0, 1) := by decide +kernel
theorem dX8_init_16 : decode cX8_init 16 = .ok (.new 16, 3) := by decide +kernel
theorem dX8_init_19 : decode cX8_init 19 = .ok (.dup, 1) := by decide +kernel
theorem dX8_init_20 : decode cX8_init 20 = .ok (.invokespecial 18, 3) := by decide +kernel
theorem dX8_init_23 : decode cX8_init 23 = .ok (.putfield 19, 3) := by decide +kernel
theorem dX8_init_26 : decode cX8_init 26 = .ok (.aload_n 0, 1) := by decide +kernel
theorem dX8_init_27 : decode cX8_init 27 = .ok (.new 23, 3) := by decide +kernel
theorem dX8_init_30 : decode cX8_init 30 = .ok (.dup, 1) := by decide +kernel
theorem dX8_init_31 : decode cX8_init 31 = .ok (.aload_n 0, 1) := by decide +kernel
theorem dX8_init_32 : decode cX8_init 32 = .ok (.getfield 10, 3) := by decide +kernel
theorem dX8_init_35 : decode cX8_init 35 = .ok (.aload_n 0, 1) := by decide +kernel
theorem dX8_init_36 : decode cX8_init 36 = .ok (.getfield 19, 3) := by decide +kernel
theorem dX8_init_39 : decode cX8_init 39 = .ok (.invokespecial 25, 3) := by decide +kernel
theorem dX8_init_42 : decode cX8_init 42 = .ok (.putfield 28, 3) := by decide +kernel
theorem dX8_init_45 : decode cX8_init 45 = .ok (.aload_n 0, 1) := by decide +kernel
theorem dX8_init_46 : decode cX8_init 46 = .ok (.new 32, 3) := by decide +kernel
theorem dX8_init_49 : decode cX8_init 49 = .ok (.dup, 1) := by decide +kernel
theorem dX8_init_50 : decode cX8_init 50 = .ok (.aload_n 0, 1) := by decide +kernel
theorem dX8_init_51 : decode cX8_init 51 = .ok (.getfield 10, 3) := by decide +kernel
theorem dX8_init_54 : decode cX8_init 54 = .ok (.aload_n 0, 1) := by decide +kernel
theorem dX8_init_55 : decode cX8_init 55 = .ok (.getfield 19, 3) := by decide +kernel
theorem dX8_init_58 : decode cX8_init 58 = .ok (.aload_n 0, 1) := by decide +kernel
theorem dX8_init_59 : decode cX8_init 59 = .ok (.getfield 28, 3) := by decide +kernel
theorem dX8_init_62 : decode cX8_init 62 = .ok (.getfield 34, 3) := by decide +kernel
theorem dX8_init_65 : decode cX8_init 65 = .ok (.invokespecial 38, 3) := by decide +kernel
theorem dX8_init_68 : decode cX8_init 68 = .ok (.putfield 41, 3) := by decide +kernel
theorem dX8_init_71 : decode cX8_init 71 = .ok (.aload_n 0, 1) := by decide +kernel
theorem dX8_init_72 : decode cX8_init 72 = .ok (.bipush 6, 2) := by decide +kernel
theorem dX8_init_74 : decode cX8_init 74 = .ok (.newarray .int, 2) := by decide +kernel
theorem dX8_init_76 : decode cX8_init 76 = .ok (.putfield 45, 3) := by decide +kernel
theorem dX8_init_79 : decode cX8_init 79 = .ok (.aload_n 0, 1) := by decide +kernel
theorem dX8_init_80 : decode cX8_init 80 = .ok (.bipush 6, 2) := by decide +kernel
theorem dX8_init_82 : decode cX8_init 82 = .ok (.newarray .int, 2) := by decide +kernel
theorem dX8_init_84 : decode cX8_init 84 = .ok (.putfield 48, 3) := by decide +kernel
theorem dX8_init_87 : decode cX8_init 87 = .ok (.aload_n 0, 1) := by decide +kernel
theorem dX8_init_88 : decode cX8_init 88 = .ok (.bipush 6, 2) := by decide +kernel
theorem dX8_init_90 : decode cX8_init 90 = .ok (.newarray .int, 2) := by decide +kernel
theorem dX8_init_92 : decode cX8_init 92 = .ok (.putfield 51, 3) := by decide +kernel
theorem dX8_init_95 : decode cX8_init 95 = .ok (.aload_n 0, 1) := by decide +kernel
theorem dX8_init_96 : decode cX8_init 96 = .ok (.bipush 6, 2) := by decide +kernel
theorem dX8_init_98 : decode cX8_init 98 = .ok (.newarray .int, 2) := by decide +kernel
theorem dX8_init_100 : decode cX8_init 100 = .ok (.putfield 54, 3) := by decide +kernel
theorem dX8_init_103 : decode cX8_init 103 = .ok (.return_, 1) := by decide +kernel
theorem dX8_constant_0 : decode cX8_constant 0 = .ok (.aload_n 0, 1) := by decide +kernel
theorem dX8_constant_1 : decode cX8_constant 1 = .ok (.getfield 10, 3) := by decide +kernel
theorem dX8_constant_4 : decode cX8_constant 4 = .ok (.invokevirtual 57, 3) := by decide +kernel
theorem dX8_constant_7 : decode cX8_constant 7 = .ok (.ifCond .eq 11, 3) := by decide +kernel
theorem dX8_constant_10 : decode cX8_constant 10 = .ok (.new 61, 3) := by decide +kernel
theorem dX8_constant_13 : decode cX8_constant 13 = .ok (.dup, 1) := by decide +kernel
theorem dX8_constant_14 : decode cX8_constant 14 = .ok (.invokespecial 63, 3) := by decide +kernel
theorem dX8_constant_17 : decode cX8_constant 17 = .ok (.athrow, 1) := by decide +kernel
theorem dX8_constant_18 : decode cX8_constant 18 = .ok (.aload_n 0, 1) := by decide +kernel
theorem dX8_constant_19 : decode cX8_constant 19 = .ok (.getfield 28, 3) := by decide +kernel
theorem dX8_constant_22 : decode cX8_constant 22 = .ok (.invokevirtual 64, 3) := by decide +kernel
theorem dX8_constant_25 : decode cX8_constant 25 = .ok (.aload_n 0, 1) := by decide +kernel
theorem dX8_constant_26 : decode cX8_constant 26 = .ok (.getfield 10, 3) := by decide +kernel
theorem dX8_constant_29 : decode cX8_constant 29 = .ok (.bipush 99, 2) := by decide +kernel
theorem dX8_constant_31 : decode cX8_constant 31 = .ok (.iconst (-1), 1) := by decide +kernel
theorem dX8_constant_32 : decode cX8_constant 32 = .ok (.iconst (-1), 1) := by decide +kernel
theorem dX8_constant_33 : decode cX8_constant 33 = .ok (.iconst (-1), 1) := by decide +kernel
theorem dX8_constant_34 : decode cX8_constant 34 = .ok (.iconst (-1), 1) := by decide +kernel
theorem dX8_constant_35 : decode cX8_constant 35 = .ok (.invokevirtual 67, 3) := by decide +kernel
theorem dX8_constant_38 : decode cX8_constant 38 = .ok (.ireturn, 1) := by decide +kernel
theorem dX8_array_0 : decode cX8_array 0 = .ok (.aload_n 0, 1) := by decide +kernel
theorem dX8_array_1 : decode cX8_array 1 = .ok (.getfield 10, 3) := by decide +kernel
theorem dX8_array_4 : decode cX8_array 4 = .ok (.invokevirtual 57, 3) := by decide +kernel
theorem dX8_array_7 : decode cX8_array 7 = .ok (.ifCond .eq 11, 3) := by decide +kernel
theorem dX8_array_10 : decode cX8_array 10 = .ok (.new 61, 3) := by decide +kernel
theorem dX8_array_13 : decode cX8_array 13 = .ok (.dup, 1) := by decide +kernel
theorem dX8_array_14 : decode cX8_array 14 = .ok (.invokespecial 63, 3) := by decide +kernel
theorem dX8_array_17 : decode cX8_array 17 = .ok (.athrow, 1) := by decide +kernel
theorem dX8_array_18 : decode cX8_array 18 = .ok (.aload_n 0, 1) := by decide +kernel
theorem dX8_array_19 : decode cX8_array 19 = .ok (.getfield 28, 3) := by decide +kernel
theorem dX8_array_22 : decode cX8_array 22 = .ok (.invokevirtual 64, 3) := by decide +kernel
theorem dX8_array_25 : decode cX8_array 25 = .ok (.aload_n 0, 1) := by decide +kernel
theorem dX8_array_26 : decode cX8_array 26 = .ok (.getfield 10, 3) := by decide +kernel
theorem dX8_array_29 : decode cX8_array 29 = .ok (.bipush 97, 2) := by decide +kernel
theorem dX8_array_31 : decode cX8_array 31 = .ok (.iconst (-1), 1) := by decide +kernel
theorem dX8_array_32 : decode cX8_array 32 = .ok (.iconst (-1), 1) := by decide +kernel
theorem dX8_array_33 : decode cX8_array 33 = .ok (.iconst (-1), 1) := by decide +kernel
theorem dX8_array_34 : decode cX8_array 34 = .ok (.iconst (-1), 1) := by decide +kernel
theorem dX8_array_35 : decode cX8_array 35 = .ok (.invokevirtual 67, 3) := by decide +kernel
theorem dX8_array_38 : decode cX8_array 38 = .ok (.ireturn, 1) := by decide +kernel
theorem dX8_apply_0 : decode cX8_apply 0 = .ok (.iload_n 1, 1) := by decide +kernel
theorem dX8_apply_1 : decode cX8_apply 1 = .ok (.ifCond .lt 8, 3) := by decide +kernel
theorem dX8_apply_4 : decode cX8_apply 4 = .ok (.iload_n 1, 1) := by decide +kernel
theorem dX8_apply_5 : decode cX8_apply 5 = .ok (.iconst 4, 1) := by decide +kernel
theorem dX8_apply_6 : decode cX8_apply 6 = .ok (.if_icmp .lt 11, 3) := by decide +kernel
theorem dX8_apply_9 : decode cX8_apply 9 = .ok (.new 71, 3) := by decide +kernel
theorem dX8_apply_12 : decode cX8_apply 12 = .ok (.dup, 1) := by decide +kernel
theorem dX8_apply_13 : decode cX8_apply 13 = .ok (.invokespecial 73, 3) := by decide +kernel
theorem dX8_apply_16 : decode cX8_apply 16 = .ok (.athrow, 1) := by decide +kernel
theorem dX8_apply_17 : decode cX8_apply 17 = .ok (.iload_n 1, 1) := by decide +kernel
theorem dX8_apply_18 : decode cX8_apply 18 = .ok (.iconst 2, 1) := by decide +kernel
theorem dX8_apply_19 : decode cX8_apply 19 = .ok (.if_icmp .ge 7, 3) := by decide +kernel
theorem dX8_apply_22 : decode cX8_apply 22 = .ok (.iconst 1, 1) := by decide +kernel
theorem dX8_apply_23 : decode cX8_apply 23 = .ok (.goto 4, 3) := by decide +kernel
theorem dX8_apply_26 : decode cX8_apply 26 = .ok (.iconst 0, 1) := by decide +kernel
theorem dX8_apply_27 : decode cX8_apply 27 = .ok (.istore 4, 2) := by decide +kernel
theorem dX8_apply_29 : decode cX8_apply 29 = .ok (.iload 4, 2) := by decide +kernel
theorem dX8_apply_31 : decode cX8_apply 31 = .ok (.ifCond .eq 16, 3) := by decide +kernel
theorem dX8_apply_34 : decode cX8_apply 34 = .ok (.iload_n 3, 1) := by decide +kernel
theorem dX8_apply_35 : decode cX8_apply 35 = .ok (.iconst (-1), 1) := by decide +kernel
theorem dX8_apply_36 : decode cX8_apply 36 = .ok (.if_icmp .eq 11, 3) := by decide +kernel
theorem dX8_apply_39 : decode cX8_apply 39 = .ok (.new 71, 3) := by decide +kernel
theorem dX8_apply_42 : decode cX8_apply 42 = .ok (.dup, 1) := by decide +kernel
theorem dX8_apply_43 : decode cX8_apply 43 = .ok (.invokespecial 73, 3) := by decide +kernel
theorem dX8_apply_46 : decode cX8_apply 46 = .ok (.athrow, 1) := by decide +kernel
theorem dX8_apply_47 : decode cX8_apply 47 = .ok (.aload_n 0, 1) := by decide +kernel
theorem dX8_apply_48 : decode cX8_apply 48 = .ok (.getfield 10, 3) := by decide +kernel
theorem dX8_apply_51 : decode cX8_apply 51 = .ok (.iload_n 2, 1) := by decide +kernel
theorem dX8_apply_52 : decode cX8_apply 52 = .ok (.invokevirtual 74, 3) := by decide +kernel
theorem dX8_apply_55 : decode cX8_apply 55 = .ok (.ifCond .ne 11, 3) := by decide +kernel
theorem dX8_apply_58 : decode cX8_apply 58 = .ok (.new 78, 3) := by decide +kernel
theorem dX8_apply_61 : decode cX8_apply 61 = .ok (.dup, 1) := by decide +kernel
theorem dX8_apply_62 : decode cX8_apply 62 = .ok (.invokespecial 80, 3) := by decide +kernel
theorem dX8_apply_65 : decode cX8_apply 65 = .ok (.athrow, 1) := by decide +kernel
theorem dX8_apply_66 : decode cX8_apply 66 = .ok (.iload 4, 2) := by decide +kernel
theorem dX8_apply_68 : decode cX8_apply 68 = .ok (.ifCond .ne 22, 3) := by decide +kernel
theorem dX8_apply_71 : decode cX8_apply 71 = .ok (.aload_n 0, 1) := by decide +kernel
theorem dX8_apply_72 : decode cX8_apply 72 = .ok (.getfield 10, 3) := by decide +kernel
theorem dX8_apply_75 : decode cX8_apply 75 = .ok (.iload_n 3, 1) := by decide +kernel
theorem dX8_apply_76 : decode cX8_apply 76 = .ok (.invokevirtual 74, 3) := by decide +kernel
theorem dX8_apply_79 : decode cX8_apply 79 = .ok (.ifCond .ne 11, 3) := by decide +kernel
theorem dX8_apply_82 : decode cX8_apply 82 = .ok (.new 78, 3) := by decide +kernel
theorem dX8_apply_85 : decode cX8_apply 85 = .ok (.dup, 1) := by decide +kernel
theorem dX8_apply_86 : decode cX8_apply 86 = .ok (.invokespecial 80, 3) := by decide +kernel
theorem dX8_apply_89 : decode cX8_apply 89 = .ok (.athrow, 1) := by decide +kernel
theorem dX8_apply_90 : decode cX8_apply 90 = .ok (.aload_n 0, 1) := by decide +kernel
theorem dX8_apply_91 : decode cX8_apply 91 = .ok (.getfield 10, 3) := by decide +kernel
theorem dX8_apply_94 : decode cX8_apply 94 = .ok (.bipush 102, 2) := by decide +kernel
theorem dX8_apply_96 : decode cX8_apply 96 = .ok (.iload_n 1, 1) := by decide +kernel
theorem dX8_apply_97 : decode cX8_apply 97 = .ok (.iload_n 2, 1) := by decide +kernel
theorem dX8_apply_98 : decode cX8_apply 98 = .ok (.iload_n 3, 1) := by decide +kernel
theorem dX8_apply_99 : decode cX8_apply 99 = .ok (.iconst (-1), 1) := by decide +kernel
theorem dX8_apply_100 : decode cX8_apply 100 = .ok (.invokevirtual 81, 3) := by decide +kernel
theorem dX8_apply_103 : decode cX8_apply 103 = .ok (.istore 5, 2) := by decide +kernel
theorem dX8_apply_105 : decode cX8_apply 105 = .ok (.iload 5, 2) := by decide +kernel
theorem dX8_apply_107 : decode cX8_apply 107 = .ok (.iconst (-1), 1) := by decide +kernel
theorem dX8_apply_108 : decode cX8_apply 108 = .ok (.if_icmp .eq 6, 3) := by decide +kernel
theorem dX8_apply_111 : decode cX8_apply 111 = .ok (.iload 5, 2) := by decide +kernel
theorem dX8_apply_113 : decode cX8_apply 113 = .ok (.ireturn, 1) := by decide +kernel
theorem dX8_apply_114 : decode cX8_apply 114 = .ok (.aload_n 0, 1) := by decide +kernel
theorem dX8_apply_115 : decode cX8_apply 115 = .ok (.getfield 10, 3) := by decide +kernel
theorem dX8_apply_118 : decode cX8_apply 118 = .ok (.invokevirtual 57, 3) := by decide +kernel
theorem dX8_apply_121 : decode cX8_apply 121 = .ok (.ifCond .eq 11, 3) := by decide +kernel
theorem dX8_apply_124 : decode cX8_apply 124 = .ok (.new 61, 3) := by decide +kernel
theorem dX8_apply_127 : decode cX8_apply 127 = .ok (.dup, 1) := by decide +kernel
theorem dX8_apply_128 : decode cX8_apply 128 = .ok (.invokespecial 63, 3) := by decide +kernel
theorem dX8_apply_131 : decode cX8_apply 131 = .ok (.athrow, 1) := by decide +kernel
theorem dX8_apply_132 : decode cX8_apply 132 = .ok (.aload_n 0, 1) := by decide +kernel
theorem dX8_apply_133 : decode cX8_apply 133 = .ok (.getfield 28, 3) := by decide +kernel
theorem dX8_apply_136 : decode cX8_apply 136 = .ok (.invokevirtual 64, 3) := by decide +kernel
theorem dX8_apply_139 : decode cX8_apply 139 = .ok (.aload_n 0, 1) := by decide +kernel
theorem dX8_apply_140 : decode cX8_apply 140 = .ok (.getfield 10, 3) := by decide +kernel
theorem dX8_apply_143 : decode cX8_apply 143 = .ok (.bipush 102, 2) := by decide +kernel
theorem dX8_apply_145 : decode cX8_apply 145 = .ok (.iload_n 1, 1) := by decide +kernel
theorem dX8_apply_146 : decode cX8_apply 146 = .ok (.iload_n 2, 1) := by decide +kernel
theorem dX8_apply_147 : decode cX8_apply 147 = .ok (.iload_n 3, 1) := by decide +kernel
theorem dX8_apply_148 : decode cX8_apply 148 = .ok (.iconst (-1), 1) := by decide +kernel
theorem dX8_apply_149 : decode cX8_apply 149 = .ok (.invokevirtual 67, 3) := by decide +kernel
theorem dX8_apply_152 : decode cX8_apply 152 = .ok (.ireturn, 1) := by decide +kernel
theorem dX8_read_0 : decode cX8_read 0 = .ok (.aload_n 0, 1) := by decide +kernel
theorem dX8_read_1 : decode cX8_read 1 = .ok (.getfield 10, 3) := by decide +kernel
theorem dX8_read_4 : decode cX8_read 4 = .ok (.iload_n 1, 1) := by decide +kernel
theorem dX8_read_5 : decode cX8_read 5 = .ok (.invokevirtual 84, 3) := by decide +kernel
theorem dX8_read_8 : decode cX8_read 8 = .ok (.ifCond .eq 14, 3) := by decide +kernel
theorem dX8_read_11 : decode cX8_read 11 = .ok (.aload_n 0, 1) := by decide +kernel
theorem dX8_read_12 : decode cX8_read 12 = .ok (.getfield 10, 3) := by decide +kernel
theorem dX8_read_15 : decode cX8_read 15 = .ok (.iload_n 2, 1) := by decide +kernel
theorem dX8_read_16 : decode cX8_read 16 = .ok (.invokevirtual 74, 3) := by decide +kernel
theorem dX8_read_19 : decode cX8_read 19 = .ok (.ifCond .ne 11, 3) := by decide +kernel
theorem dX8_read_22 : decode cX8_read 22 = .ok (.new 78, 3) := by decide +kernel
theorem dX8_read_25 : decode cX8_read 25 = .ok (.dup, 1) := by decide +kernel
theorem dX8_read_26 : decode cX8_read 26 = .ok (.invokespecial 80, 3) := by decide +kernel
theorem dX8_read_29 : decode cX8_read 29 = .ok (.athrow, 1) := by decide +kernel
theorem dX8_read_30 : decode cX8_read 30 = .ok (.aload_n 0, 1) := by decide +kernel
theorem dX8_read_31 : decode cX8_read 31 = .ok (.getfield 10, 3) := by decide +kernel
theorem dX8_read_34 : decode cX8_read 34 = .ok (.bipush 114, 2) := by decide +kernel
theorem dX8_read_36 : decode cX8_read 36 = .ok (.iconst (-1), 1) := by decide +kernel
theorem dX8_read_37 : decode cX8_read 37 = .ok (.iload_n 1, 1) := by decide +kernel
theorem dX8_read_38 : decode cX8_read 38 = .ok (.iload_n 2, 1) := by decide +kernel
theorem dX8_read_39 : decode cX8_read 39 = .ok (.iconst (-1), 1) := by decide +kernel
theorem dX8_read_40 : decode cX8_read 40 = .ok (.invokevirtual 81, 3) := by decide +kernel
theorem dX8_read_43 : decode cX8_read 43 = .ok (.istore_n 3, 1) := by decide +kernel
theorem dX8_read_44 : decode cX8_read 44 = .ok (.iload_n 3, 1) := by decide +kernel
theorem dX8_read_45 : decode cX8_read 45 = .ok (.iconst (-1), 1) := by decide +kernel
theorem dX8_read_46 : decode cX8_read 46 = .ok (.if_icmp .eq 5, 3) := by decide +kernel
theorem dX8_read_49 : decode cX8_read 49 = .ok (.iload_n 3, 1) := by decide +kernel
theorem dX8_read_50 : decode cX8_read 50 = .ok (.ireturn, 1) := by decide +kernel
theorem dX8_read_51 : decode cX8_read 51 = .ok (.aload_n 0, 1) := by decide +kernel
theorem dX8_read_52 : decode cX8_read 52 = .ok (.getfield 10, 3) := by decide +kernel
theorem dX8_read_55 : decode cX8_read 55 = .ok (.invokevirtual 57, 3) := by decide +kernel
theorem dX8_read_58 : decode cX8_read 58 = .ok (.ifCond .eq 11, 3) := by decide +kernel
theorem dX8_read_61 : decode cX8_read 61 = .ok (.new 61, 3) := by decide +kernel
theorem dX8_read_64 : decode cX8_read 64 = .ok (.dup, 1) := by decide +kernel
theorem dX8_read_65 : decode cX8_read 65 = .ok (.invokespecial 63, 3) := by decide +kernel
theorem dX8_read_68 : decode cX8_read 68 = .ok (.athrow, 1) := by decide +kernel
theorem dX8_read_69 : decode cX8_read 69 = .ok (.aload_n 0, 1) := by decide +kernel
theorem dX8_read_70 : decode cX8_read 70 = .ok (.getfield 28, 3) := by decide +kernel
theorem dX8_read_73 : decode cX8_read 73 = .ok (.invokevirtual 64, 3) := by decide +kernel
theorem dX8_read_76 : decode cX8_read 76 = .ok (.aload_n 0, 1) := by decide +kernel
theorem dX8_read_77 : decode cX8_read 77 = .ok (.getfield 10, 3) := by decide +kernel
theorem dX8_read_80 : decode cX8_read 80 = .ok (.bipush 114, 2) := by decide +kernel
theorem dX8_read_82 : decode cX8_read 82 = .ok (.iconst (-1), 1) := by decide +kernel
theorem dX8_read_83 : decode cX8_read 83 = .ok (.iload_n 1, 1) := by decide +kernel
theorem dX8_read_84 : decode cX8_read 84 = .ok (.iload_n 2, 1) := by decide +kernel
theorem dX8_read_85 : decode cX8_read 85 = .ok (.iconst (-1), 1) := by decide +kernel
theorem dX8_read_86 : decode cX8_read 86 = .ok (.invokevirtual 67, 3) := by decide +kernel
theorem dX8_read_89 : decode cX8_read 89 = .ok (.ireturn, 1) := by decide +kernel
theorem dX8_write_0 : decode cX8_write 0 = .ok (.aload_n 0, 1) := by decide +kernel
theorem dX8_write_1 : decode cX8_write 1 = .ok (.getfield 10, 3) := by decide +kernel
theorem dX8_write_4 : decode cX8_write 4 = .ok (.iload_n 1, 1) := by decide +kernel
theorem dX8_write_5 : decode cX8_write 5 = .ok (.invokevirtual 84, 3) := by decide +kernel
theorem dX8_write_8 : decode cX8_write 8 = .ok (.ifCond .ne 11, 3) := by decide +kernel
theorem dX8_write_11 : decode cX8_write 11 = .ok (.new 78, 3) := by decide +kernel
theorem dX8_write_14 : decode cX8_write 14 = .ok (.dup, 1) := by decide +kernel
theorem dX8_write_15 : decode cX8_write 15 = .ok (.invokespecial 80, 3) := by decide +kernel
theorem dX8_write_18 : decode cX8_write 18 = .ok (.athrow, 1) := by decide +kernel
theorem dX8_write_19 : decode cX8_write 19 = .ok (.aload_n 0, 1) := by decide +kernel
theorem dX8_write_20 : decode cX8_write 20 = .ok (.getfield 10, 3) := by decide +kernel
theorem dX8_write_23 : decode cX8_write 23 = .ok (.iload_n 2, 1) := by decide +kernel
theorem dX8_write_24 : decode cX8_write 24 = .ok (.invokevirtual 74, 3) := by decide +kernel
theorem dX8_write_27 : decode cX8_write 27 = .ok (.ifCond .eq 14, 3) := by decide +kernel
theorem dX8_write_30 : decode cX8_write 30 = .ok (.aload_n 0, 1) := by decide +kernel
theorem dX8_write_31 : decode cX8_write 31 = .ok (.getfield 10, 3) := by decide +kernel
theorem dX8_write_34 : decode cX8_write 34 = .ok (.iload_n 3, 1) := by decide +kernel
theorem dX8_write_35 : decode cX8_write 35 = .ok (.invokevirtual 74, 3) := by decide +kernel
theorem dX8_write_38 : decode cX8_write 38 = .ok (.ifCond .ne 11, 3) := by decide +kernel
theorem dX8_write_41 : decode cX8_write 41 = .ok (.new 78, 3) := by decide +kernel
theorem dX8_write_44 : decode cX8_write 44 = .ok (.dup, 1) := by decide +kernel
theorem dX8_write_45 : decode cX8_write 45 = .ok (.invokespecial 80, 3) := by decide +kernel
theorem dX8_write_48 : decode cX8_write 48 = .ok (.athrow, 1) := by decide +kernel
theorem dX8_write_49 : decode cX8_write 49 = .ok (.aload_n 0, 1) := by decide +kernel
theorem dX8_write_50 : decode cX8_write 50 = .ok (.getfield 10, 3) := by decide +kernel
theorem dX8_write_53 : decode cX8_write 53 = .ok (.bipush 119, 2) := by decide +kernel
theorem dX8_write_55 : decode cX8_write 55 = .ok (.iconst (-1), 1) := by decide +kernel
theorem dX8_write_56 : decode cX8_write 56 = .ok (.iload_n 1, 1) := by decide +kernel
theorem dX8_write_57 : decode cX8_write 57 = .ok (.iload_n 2, 1) := by decide +kernel
theorem dX8_write_58 : decode cX8_write 58 = .ok (.iload_n 3, 1) := by decide +kernel
theorem dX8_write_59 : decode cX8_write 59 = .ok (.invokevirtual 81, 3) := by decide +kernel
theorem dX8_write_62 : decode cX8_write 62 = .ok (.istore 4, 2) := by decide +kernel
theorem dX8_write_64 : decode cX8_write 64 = .ok (.iload 4, 2) := by decide +kernel
theorem dX8_write_66 : decode cX8_write 66 = .ok (.iconst (-1), 1) := by decide +kernel
theorem dX8_write_67 : decode cX8_write 67 = .ok (.if_icmp .eq 6, 3) := by decide +kernel
theorem dX8_write_70 : decode cX8_write 70 = .ok (.iload 4, 2) := by decide +kernel
theorem dX8_write_72 : decode cX8_write 72 = .ok (.ireturn, 1) := by decide +kernel
theorem dX8_write_73 : decode cX8_write 73 = .ok (.aload_n 0, 1) := by decide +kernel
theorem dX8_write_74 : decode cX8_write 74 = .ok (.getfield 10, 3) := by decide +kernel
theorem dX8_write_77 : decode cX8_write 77 = .ok (.invokevirtual 57, 3) := by decide +kernel
theorem dX8_write_80 : decode cX8_write 80 = .ok (.ifCond .eq 11, 3) := by decide +kernel
theorem dX8_write_83 : decode cX8_write 83 = .ok (.new 61, 3) := by decide +kernel
theorem dX8_write_86 : decode cX8_write 86 = .ok (.dup, 1) := by decide +kernel
theorem dX8_write_87 : decode cX8_write 87 = .ok (.invokespecial 63, 3) := by decide +kernel
theorem dX8_write_90 : decode cX8_write 90 = .ok (.athrow, 1) := by decide +kernel
theorem dX8_write_91 : decode cX8_write 91 = .ok (.aload_n 0, 1) := by decide +kernel
theorem dX8_write_92 : decode cX8_write 92 = .ok (.getfield 28, 3) := by decide +kernel
theorem dX8_write_95 : decode cX8_write 95 = .ok (.invokevirtual 64, 3) := by decide +kernel
theorem dX8_write_98 : decode cX8_write 98 = .ok (.aload_n 0, 1) := by decide +kernel
theorem dX8_write_99 : decode cX8_write 99 = .ok (.getfield 10, 3) := by decide +kernel
theorem dX8_write_102 : decode cX8_write 102 = .ok (.bipush 119, 2) := by decide +kernel
theorem dX8_write_104 : decode cX8_write 104 = .ok (.iconst (-1), 1) := by decide +kernel
theorem dX8_write_105 : decode cX8_write 105 = .ok (.iload_n 1, 1) := by decide +kernel
theorem dX8_write_106 : decode cX8_write 106 = .ok (.iload_n 2, 1) := by decide +kernel
theorem dX8_write_107 : decode cX8_write 107 = .ok (.iload_n 3, 1) := by decide +kernel
theorem dX8_write_108 : decode cX8_write 108 = .ok (.invokevirtual 67, 3) := by decide +kernel
theorem dX8_write_111 : decode cX8_write 111 = .ok (.ireturn, 1) := by decide +kernel
theorem dX8_terms_0 : decode cX8_terms 0 = .ok (.aload_n 0, 1) := by decide +kernel
theorem dX8_terms_1 : decode cX8_terms 1 = .ok (.getfield 10, 3) := by decide +kernel
theorem dX8_terms_4 : decode cX8_terms 4 = .ok (.getfield 87, 3) := by decide +kernel
theorem dX8_terms_7 : decode cX8_terms 7 = .ok (.ireturn, 1) := by decide +kernel
theorem dX8_kindOf_0 : decode cX8_kindOf 0 = .ok (.aload_n 0, 1) := by decide +kernel
theorem dX8_kindOf_1 : decode cX8_kindOf 1 = .ok (.getfield 10, 3) := by decide +kernel
theorem dX8_kindOf_4 : decode cX8_kindOf 4 = .ok (.iload_n 1, 1) := by decide +kernel
theorem dX8_kindOf_5 : decode cX8_kindOf 5 = .ok (.invokevirtual 91, 3) := by decide +kernel
theorem dX8_kindOf_8 : decode cX8_kindOf 8 = .ok (.ifCond .ne 11, 3) := by decide +kernel
theorem dX8_kindOf_11 : decode cX8_kindOf 11 = .ok (.new 78, 3) := by decide +kernel
theorem dX8_kindOf_14 : decode cX8_kindOf 14 = .ok (.dup, 1) := by decide +kernel
theorem dX8_kindOf_15 : decode cX8_kindOf 15 = .ok (.invokespecial 80, 3) := by decide +kernel
theorem dX8_kindOf_18 : decode cX8_kindOf 18 = .ok (.athrow, 1) := by decide +kernel
theorem dX8_kindOf_19 : decode cX8_kindOf 19 = .ok (.aload_n 0, 1) := by decide +kernel
theorem dX8_kindOf_20 : decode cX8_kindOf 20 = .ok (.getfield 10, 3) := by decide +kernel
theorem dX8_kindOf_23 : decode cX8_kindOf 23 = .ok (.getfield 94, 3) := by decide +kernel
theorem dX8_kindOf_26 : decode cX8_kindOf 26 = .ok (.iload_n 1, 1) := by decide +kernel
theorem dX8_kindOf_27 : decode cX8_kindOf 27 = .ok (.caload, 1) := by decide +kernel
theorem dX8_kindOf_28 : decode cX8_kindOf 28 = .ok (.ireturn, 1) := by decide +kernel
theorem dX8_equal_0 : decode cX8_equal 0 = .ok (.aload_n 0, 1) := by decide +kernel
theorem dX8_equal_1 : decode cX8_equal 1 = .ok (.getfield 10, 3) := by decide +kernel
theorem dX8_equal_4 : decode cX8_equal 4 = .ok (.iload_n 1, 1) := by decide +kernel
theorem dX8_equal_5 : decode cX8_equal 5 = .ok (.invokevirtual 74, 3) := by decide +kernel
theorem dX8_equal_8 : decode cX8_equal 8 = .ok (.ifCond .eq 14, 3) := by decide +kernel
theorem dX8_equal_11 : decode cX8_equal 11 = .ok (.aload_n 0, 1) := by decide +kernel
theorem dX8_equal_12 : decode cX8_equal 12 = .ok (.getfield 10, 3) := by decide +kernel
theorem dX8_equal_15 : decode cX8_equal 15 = .ok (.iload_n 2, 1) := by decide +kernel
theorem dX8_equal_16 : decode cX8_equal 16 = .ok (.invokevirtual 74, 3) := by decide +kernel
theorem dX8_equal_19 : decode cX8_equal 19 = .ok (.ifCond .ne 11, 3) := by decide +kernel
theorem dX8_equal_22 : decode cX8_equal 22 = .ok (.new 78, 3) := by decide +kernel
theorem dX8_equal_25 : decode cX8_equal 25 = .ok (.dup, 1) := by decide +kernel
theorem dX8_equal_26 : decode cX8_equal 26 = .ok (.invokespecial 80, 3) := by decide +kernel
theorem dX8_equal_29 : decode cX8_equal 29 = .ok (.athrow, 1) := by decide +kernel
theorem dX8_equal_30 : decode cX8_equal 30 = .ok (.iload_n 1, 1) := by decide +kernel
theorem dX8_equal_31 : decode cX8_equal 31 = .ok (.iload_n 2, 1) := by decide +kernel
theorem dX8_equal_32 : decode cX8_equal 32 = .ok (.invokestatic 98, 3) := by decide +kernel
theorem dX8_equal_35 : decode cX8_equal 35 = .ok (.istore_n 3, 1) := by decide +kernel
theorem dX8_equal_36 : decode cX8_equal 36 = .ok (.aload_n 0, 1) := by decide +kernel
theorem dX8_equal_37 : decode cX8_equal 37 = .ok (.getfield 19, 3) := by decide +kernel
theorem dX8_equal_40 : decode cX8_equal 40 = .ok (.iload_n 3, 1) := by decide +kernel
theorem dX8_equal_41 : decode cX8_equal 41 = .ok (.invokevirtual 104, 3) := by decide +kernel
theorem dX8_equal_44 : decode cX8_equal 44 = .ok (.istore 4, 2) := by decide +kernel
theorem dX8_equal_46 : decode cX8_equal 46 = .ok (.iload 4, 2) := by decide +kernel
theorem dX8_equal_48 : decode cX8_equal 48 = .ok (.ifCond .lt 6, 3) := by decide +kernel
theorem dX8_equal_51 : decode cX8_equal 51 = .ok (.iload 4, 2) := by decide +kernel
theorem dX8_equal_53 : decode cX8_equal 53 = .ok (.ireturn, 1) := by decide +kernel
theorem dX8_equal_54 : decode cX8_equal 54 = .ok (.aload_n 0, 1) := by decide +kernel
theorem dX8_equal_55 : decode cX8_equal 55 = .ok (.getfield 19, 3) := by decide +kernel
theorem dX8_equal_58 : decode cX8_equal 58 = .ok (.invokevirtual 108, 3) := by decide +kernel
theorem dX8_equal_61 : decode cX8_equal 61 = .ok (.ifCond .eq 11, 3) := by decide +kernel
theorem dX8_equal_64 : decode cX8_equal 64 = .ok (.new 61, 3) := by decide +kernel
theorem dX8_equal_67 : decode cX8_equal 67 = .ok (.dup, 1) := by decide +kernel
theorem dX8_equal_68 : decode cX8_equal 68 = .ok (.invokespecial 63, 3) := by decide +kernel
theorem dX8_equal_71 : decode cX8_equal 71 = .ok (.athrow, 1) := by decide +kernel
theorem dX8_equal_72 : decode cX8_equal 72 = .ok (.aload_n 0, 1) := by decide +kernel
theorem dX8_equal_73 : decode cX8_equal 73 = .ok (.getfield 19, 3) := by decide +kernel
theorem dX8_equal_76 : decode cX8_equal 76 = .ok (.iload_n 3, 1) := by decide +kernel
theorem dX8_equal_77 : decode cX8_equal 77 = .ok (.invokevirtual 111, 3) := by decide +kernel
theorem dX8_equal_80 : decode cX8_equal 80 = .ok (.ireturn, 1) := by decide +kernel
theorem dX8_atMost_0 : decode cX8_atMost 0 = .ok (.aload_n 0, 1) := by decide +kernel
theorem dX8_atMost_1 : decode cX8_atMost 1 = .ok (.getfield 10, 3) := by decide +kernel
theorem dX8_atMost_4 : decode cX8_atMost 4 = .ok (.iload_n 1, 1) := by decide +kernel
theorem dX8_atMost_5 : decode cX8_atMost 5 = .ok (.invokevirtual 74, 3) := by decide +kernel
theorem dX8_atMost_8 : decode cX8_atMost 8 = .ok (.ifCond .eq 14, 3) := by decide +kernel
theorem dX8_atMost_11 : decode cX8_atMost 11 = .ok (.aload_n 0, 1) := by decide +kernel
theorem dX8_atMost_12 : decode cX8_atMost 12 = .ok (.getfield 10, 3) := by decide +kernel
theorem dX8_atMost_15 : decode cX8_atMost 15 = .ok (.iload_n 2, 1) := by decide +kernel
theorem dX8_atMost_16 : decode cX8_atMost 16 = .ok (.invokevirtual 74, 3) := by decide +kernel
theorem dX8_atMost_19 : decode cX8_atMost 19 = .ok (.ifCond .ne 11, 3) := by decide +kernel
theorem dX8_atMost_22 : decode cX8_atMost 22 = .ok (.new 78, 3) := by decide +kernel
theorem dX8_atMost_25 : decode cX8_atMost 25 = .ok (.dup, 1) := by decide +kernel
theorem dX8_atMost_26 : decode cX8_atMost 26 = .ok (.invokespecial 80, 3) := by decide +kernel
theorem dX8_atMost_29 : decode cX8_atMost 29 = .ok (.athrow, 1) := by decide +kernel
theorem dX8_atMost_30 : decode cX8_atMost 30 = .ok (.iload_n 3, 1) := by decide +kernel
theorem dX8_atMost_31 : decode cX8_atMost 31 = .ok (.bipush (-20), 2) := by decide +kernel
theorem dX8_atMost_33 : decode cX8_atMost 33 = .ok (.if_icmp .lt 9, 3) := by decide +kernel
theorem dX8_atMost_36 : decode cX8_atMost 36 = .ok (.iload_n 3, 1) := by decide +kernel
theorem dX8_atMost_37 : decode cX8_atMost 37 = .ok (.bipush 20, 2) := by decide +kernel
theorem dX8_atMost_39 : decode cX8_atMost 39 = .ok (.if_icmp .le 11, 3) := by decide +kernel
theorem dX8_atMost_42 : decode cX8_atMost 42 = .ok (.new 71, 3) := by decide +kernel
theorem dX8_atMost_45 : decode cX8_atMost 45 = .ok (.dup, 1) := by decide +kernel
theorem dX8_atMost_46 : decode cX8_atMost 46 = .ok (.invokespecial 73, 3) := by decide +kernel
theorem dX8_atMost_49 : decode cX8_atMost 49 = .ok (.athrow, 1) := by decide +kernel
theorem dX8_atMost_50 : decode cX8_atMost 50 = .ok (.iload_n 1, 1) := by decide +kernel
theorem dX8_atMost_51 : decode cX8_atMost 51 = .ok (.iload_n 2, 1) := by decide +kernel
theorem dX8_atMost_52 : decode cX8_atMost 52 = .ok (.iload_n 3, 1) := by decide +kernel
theorem dX8_atMost_53 : decode cX8_atMost 53 = .ok (.invokestatic 114, 3) := by decide +kernel
theorem dX8_atMost_56 : decode cX8_atMost 56 = .ok (.istore 4, 2) := by decide +kernel
theorem dX8_atMost_58 : decode cX8_atMost 58 = .ok (.aload_n 0, 1) := by decide +kernel
theorem dX8_atMost_59 : decode cX8_atMost 59 = .ok (.getfield 19, 3) := by decide +kernel
theorem dX8_atMost_62 : decode cX8_atMost 62 = .ok (.iload 4, 2) := by decide +kernel
theorem dX8_atMost_64 : decode cX8_atMost 64 = .ok (.invokevirtual 104, 3) := by decide +kernel
theorem dX8_atMost_67 : decode cX8_atMost 67 = .ok (.istore 5, 2) := by decide +kernel
theorem dX8_atMost_69 : decode cX8_atMost 69 = .ok (.iload 5, 2) := by decide +kernel
theorem dX8_atMost_71 : decode cX8_atMost 71 = .ok (.ifCond .lt 6, 3) := by decide +kernel
theorem dX8_atMost_74 : decode cX8_atMost 74 = .ok (.iload 5, 2) := by decide +kernel
theorem dX8_atMost_76 : decode cX8_atMost 76 = .ok (.ireturn, 1) := by decide +kernel
theorem dX8_atMost_77 : decode cX8_atMost 77 = .ok (.aload_n 0, 1) := by decide +kernel
theorem dX8_atMost_78 : decode cX8_atMost 78 = .ok (.getfield 19, 3) := by decide +kernel
theorem dX8_atMost_81 : decode cX8_atMost 81 = .ok (.invokevirtual 108, 3) := by decide +kernel
theorem dX8_atMost_84 : decode cX8_atMost 84 = .ok (.ifCond .eq 11, 3) := by decide +kernel
theorem dX8_atMost_87 : decode cX8_atMost 87 = .ok (.new 61, 3) := by decide +kernel
theorem dX8_atMost_90 : decode cX8_atMost 90 = .ok (.dup, 1) := by decide +kernel
theorem dX8_atMost_91 : decode cX8_atMost 91 = .ok (.invokespecial 63, 3) := by decide +kernel
theorem dX8_atMost_94 : decode cX8_atMost 94 = .ok (.athrow, 1) := by decide +kernel
theorem dX8_atMost_95 : decode cX8_atMost 95 = .ok (.aload_n 0, 1) := by decide +kernel
theorem dX8_atMost_96 : decode cX8_atMost 96 = .ok (.getfield 19, 3) := by decide +kernel
theorem dX8_atMost_99 : decode cX8_atMost 99 = .ok (.iload 4, 2) := by decide +kernel
theorem dX8_atMost_101 : decode cX8_atMost 101 = .ok (.invokevirtual 111, 3) := by decide +kernel
theorem dX8_atMost_104 : decode cX8_atMost 104 = .ok (.ireturn, 1) := by decide +kernel
theorem dX8_atoms_0 : decode cX8_atoms 0 = .ok (.aload_n 0, 1) := by decide +kernel
theorem dX8_atoms_1 : decode cX8_atoms 1 = .ok (.getfield 19, 3) := by decide +kernel
theorem dX8_atoms_4 : decode cX8_atoms 4 = .ok (.getfield 118, 3) := by decide +kernel
theorem dX8_atoms_7 : decode cX8_atoms 7 = .ok (.ireturn, 1) := by decide +kernel
theorem dX8_clause_0 : decode cX8_clause 0 = .ok (.aload_n 0, 1) := by decide +kernel
theorem dX8_clause_1 : decode cX8_clause 1 = .ok (.getfield 19, 3) := by decide +kernel
theorem dX8_clause_4 : decode cX8_clause 4 = .ok (.iload_n 1, 1) := by decide +kernel
theorem dX8_clause_5 : decode cX8_clause 5 = .ok (.invokevirtual 121, 3) := by decide +kernel
theorem dX8_clause_8 : decode cX8_clause 8 = .ok (.ifCond .ne 11, 3) := by decide +kernel
theorem dX8_clause_11 : decode cX8_clause 11 = .ok (.new 78, 3) := by decide +kernel
theorem dX8_clause_14 : decode cX8_clause 14 = .ok (.dup, 1) := by decide +kernel
theorem dX8_clause_15 : decode cX8_clause 15 = .ok (.invokespecial 80, 3) := by decide +kernel
theorem dX8_clause_18 : decode cX8_clause 18 = .ok (.athrow, 1) := by decide +kernel
theorem dX8_clause_19 : decode cX8_clause 19 = .ok (.iload_n 2, 1) := by decide +kernel
theorem dX8_clause_20 : decode cX8_clause 20 = .ok (.iconst (-1), 1) := by decide +kernel
theorem dX8_clause_21 : decode cX8_clause 21 = .ok (.if_icmp .eq 22, 3) := by decide +kernel
theorem dX8_clause_24 : decode cX8_clause 24 = .ok (.aload_n 0, 1) := by decide +kernel
theorem dX8_clause_25 : decode cX8_clause 25 = .ok (.getfield 19, 3) := by decide +kernel
theorem dX8_clause_28 : decode cX8_clause 28 = .ok (.iload_n 2, 1) := by decide +kernel
theorem dX8_clause_29 : decode cX8_clause 29 = .ok (.invokevirtual 121, 3) := by decide +kernel
theorem dX8_clause_32 : decode cX8_clause 32 = .ok (.ifCond .ne 11, 3) := by decide +kernel
theorem dX8_clause_35 : decode cX8_clause 35 = .ok (.new 78, 3) := by decide +kernel
theorem dX8_clause_38 : decode cX8_clause 38 = .ok (.dup, 1) := by decide +kernel
theorem dX8_clause_39 : decode cX8_clause 39 = .ok (.invokespecial 80, 3) := by decide +kernel
theorem dX8_clause_42 : decode cX8_clause 42 = .ok (.athrow, 1) := by decide +kernel
theorem dX8_clause_43 : decode cX8_clause 43 = .ok (.iload_n 3, 1) := by decide +kernel
theorem dX8_clause_44 : decode cX8_clause 44 = .ok (.iconst (-1), 1) := by decide +kernel
theorem dX8_clause_45 : decode cX8_clause 45 = .ok (.if_icmp .eq 22, 3) := by decide +kernel
theorem dX8_clause_48 : decode cX8_clause 48 = .ok (.aload_n 0, 1) := by decide +kernel
theorem dX8_clause_49 : decode cX8_clause 49 = .ok (.getfield 19, 3) := by decide +kernel
theorem dX8_clause_52 : decode cX8_clause 52 = .ok (.iload_n 3, 1) := by decide +kernel
theorem dX8_clause_53 : decode cX8_clause 53 = .ok (.invokevirtual 121, 3) := by decide +kernel
theorem dX8_clause_56 : decode cX8_clause 56 = .ok (.ifCond .ne 11, 3) := by decide +kernel
theorem dX8_clause_59 : decode cX8_clause 59 = .ok (.new 78, 3) := by decide +kernel
theorem dX8_clause_62 : decode cX8_clause 62 = .ok (.dup, 1) := by decide +kernel
theorem dX8_clause_63 : decode cX8_clause 63 = .ok (.invokespecial 80, 3) := by decide +kernel
theorem dX8_clause_66 : decode cX8_clause 66 = .ok (.athrow, 1) := by decide +kernel
theorem dX8_clause_67 : decode cX8_clause 67 = .ok (.aload_n 0, 1) := by decide +kernel
theorem dX8_clause_68 : decode cX8_clause 68 = .ok (.getfield 19, 3) := by decide +kernel
theorem dX8_clause_71 : decode cX8_clause 71 = .ok (.invokevirtual 124, 3) := by decide +kernel
theorem dX8_clause_74 : decode cX8_clause 74 = .ok (.ifCond .eq 11, 3) := by decide +kernel
theorem dX8_clause_77 : decode cX8_clause 77 = .ok (.new 61, 3) := by decide +kernel
theorem dX8_clause_80 : decode cX8_clause 80 = .ok (.dup, 1) := by decide +kernel
theorem dX8_clause_81 : decode cX8_clause 81 = .ok (.invokespecial 63, 3) := by decide +kernel
theorem dX8_clause_84 : decode cX8_clause 84 = .ok (.athrow, 1) := by decide +kernel
theorem dX8_clause_85 : decode cX8_clause 85 = .ok (.aload_n 0, 1) := by decide +kernel
theorem dX8_clause_86 : decode cX8_clause 86 = .ok (.getfield 28, 3) := by decide +kernel
theorem dX8_clause_89 : decode cX8_clause 89 = .ok (.invokevirtual 64, 3) := by decide +kernel
theorem dX8_clause_92 : decode cX8_clause 92 = .ok (.aload_n 0, 1) := by decide +kernel
theorem dX8_clause_93 : decode cX8_clause 93 = .ok (.getfield 19, 3) := by decide +kernel
theorem dX8_clause_96 : decode cX8_clause 96 = .ok (.iload_n 1, 1) := by decide +kernel
theorem dX8_clause_97 : decode cX8_clause 97 = .ok (.iload_n 2, 1) := by decide +kernel
theorem dX8_clause_98 : decode cX8_clause 98 = .ok (.iload_n 3, 1) := by decide +kernel
theorem dX8_clause_99 : decode cX8_clause 99 = .ok (.invokevirtual 127, 3) := by decide +kernel
theorem dX8_clause_102 : decode cX8_clause 102 = .ok (.ireturn, 1) := by decide +kernel
theorem dX8_clauses_0 : decode cX8_clauses 0 = .ok (.aload_n 0, 1) := by decide +kernel
theorem dX8_clauses_1 : decode cX8_clauses 1 = .ok (.getfield 19, 3) := by decide +kernel
theorem dX8_clauses_4 : decode cX8_clauses 4 = .ok (.getfield 130, 3) := by decide +kernel
theorem dX8_clauses_7 : decode cX8_clauses 7 = .ok (.ireturn, 1) := by decide +kernel
theorem dX8_rule_0 : decode cX8_rule 0 = .ok (.iload_n 1, 1) := by decide +kernel
theorem dX8_rule_1 : decode cX8_rule 1 = .ok (.bipush 105, 2) := by decide +kernel
theorem dX8_rule_3 : decode cX8_rule 3 = .ok (.if_icmp .eq 15, 3) := by decide +kernel
theorem dX8_rule_6 : decode cX8_rule 6 = .ok (.iload_n 1, 1) := by decide +kernel
theorem dX8_rule_7 : decode cX8_rule 7 = .ok (.bipush 115, 2) := by decide +kernel
theorem dX8_rule_9 : decode cX8_rule 9 = .ok (.if_icmp .eq 9, 3) := by decide +kernel
theorem dX8_rule_12 : decode cX8_rule 12 = .ok (.iload_n 1, 1) := by decide +kernel
theorem dX8_rule_13 : decode cX8_rule 13 = .ok (.bipush 109, 2) := by decide +kernel
theorem dX8_rule_15 : decode cX8_rule 15 = .ok (.if_icmp .ne 7, 3) := by decide +kernel
theorem dX8_rule_18 : decode cX8_rule 18 = .ok (.iconst 1, 1) := by decide +kernel
theorem dX8_rule_19 : decode cX8_rule 19 = .ok (.goto 4, 3) := by decide +kernel
theorem dX8_rule_22 : decode cX8_rule 22 = .ok (.iconst 0, 1) := by decide +kernel
theorem dX8_rule_23 : decode cX8_rule 23 = .ok (.istore_n 3, 1) := by decide +kernel
theorem dX8_rule_24 : decode cX8_rule 24 = .ok (.iload_n 3, 1) := by decide +kernel
theorem dX8_rule_25 : decode cX8_rule 25 = .ok (.ifCond .ne 17, 3) := by decide +kernel
theorem dX8_rule_28 : decode cX8_rule 28 = .ok (.iload_n 1, 1) := by decide +kernel
theorem dX8_rule_29 : decode cX8_rule 29 = .ok (.bipush 99, 2) := by decide +kernel
theorem dX8_rule_31 : decode cX8_rule 31 = .ok (.if_icmp .eq 11, 3) := by decide +kernel
theorem dX8_rule_34 : decode cX8_rule 34 = .ok (.new 71, 3) := by decide +kernel
theorem dX8_rule_37 : decode cX8_rule 37 = .ok (.dup, 1) := by decide +kernel
theorem dX8_rule_38 : decode cX8_rule 38 = .ok (.invokespecial 73, 3) := by decide +kernel
theorem dX8_rule_41 : decode cX8_rule 41 = .ok (.athrow, 1) := by decide +kernel
theorem dX8_rule_42 : decode cX8_rule 42 = .ok (.iload_n 2, 1) := by decide +kernel
theorem dX8_rule_43 : decode cX8_rule 43 = .ok (.ifCond .lt 8, 3) := by decide +kernel
theorem dX8_rule_46 : decode cX8_rule 46 = .ok (.iload_n 2, 1) := by decide +kernel
theorem dX8_rule_47 : decode cX8_rule 47 = .ok (.iconst 4, 1) := by decide +kernel
theorem dX8_rule_48 : decode cX8_rule 48 = .ok (.if_icmp .lt 11, 3) := by decide +kernel
theorem dX8_rule_51 : decode cX8_rule 51 = .ok (.new 71, 3) := by decide +kernel
theorem dX8_rule_54 : decode cX8_rule 54 = .ok (.dup, 1) := by decide +kernel
theorem dX8_rule_55 : decode cX8_rule 55 = .ok (.invokespecial 73, 3) := by decide +kernel
theorem dX8_rule_58 : decode cX8_rule 58 = .ok (.athrow, 1) := by decide +kernel
theorem dX8_rule_59 : decode cX8_rule 59 = .ok (.iload_n 3, 1) := by decide +kernel
theorem dX8_rule_60 : decode cX8_rule 60 = .ok (.iload_n 2, 1) := by decide +kernel
theorem dX8_rule_61 : decode cX8_rule 61 = .ok (.iconst 2, 1) := by decide +kernel
theorem dX8_rule_62 : decode cX8_rule 62 = .ok (.if_icmp .ge 7, 3) := by decide +kernel
theorem dX8_rule_65 : decode cX8_rule 65 = .ok (.iconst 1, 1) := by decide +kernel
theorem dX8_rule_66 : decode cX8_rule 66 = .ok (.goto 4, 3) := by decide +kernel
theorem dX8_rule_69 : decode cX8_rule 69 = .ok (.iconst 0, 1) := by decide +kernel
theorem dX8_rule_70 : decode cX8_rule 70 = .ok (.if_icmp .eq 11, 3) := by decide +kernel
theorem dX8_rule_73 : decode cX8_rule 73 = .ok (.new 71, 3) := by decide +kernel
theorem dX8_rule_76 : decode cX8_rule 76 = .ok (.dup, 1) := by decide +kernel
theorem dX8_rule_77 : decode cX8_rule 77 = .ok (.invokespecial 73, 3) := by decide +kernel
theorem dX8_rule_80 : decode cX8_rule 80 = .ok (.athrow, 1) := by decide +kernel
theorem dX8_rule_81 : decode cX8_rule 81 = .ok (.aload_n 0, 1) := by decide +kernel
theorem dX8_rule_82 : decode cX8_rule 82 = .ok (.getfield 19, 3) := by decide +kernel
theorem dX8_rule_85 : decode cX8_rule 85 = .ok (.invokevirtual 133, 3) := by decide +kernel
theorem dX8_rule_88 : decode cX8_rule 88 = .ok (.ifCond .eq 11, 3) := by decide +kernel
theorem dX8_rule_91 : decode cX8_rule 91 = .ok (.new 61, 3) := by decide +kernel
theorem dX8_rule_94 : decode cX8_rule 94 = .ok (.dup, 1) := by decide +kernel
theorem dX8_rule_95 : decode cX8_rule 95 = .ok (.invokespecial 63, 3) := by decide +kernel
theorem dX8_rule_98 : decode cX8_rule 98 = .ok (.athrow, 1) := by decide +kernel
theorem dX8_rule_99 : decode cX8_rule 99 = .ok (.aload_n 0, 1) := by decide +kernel
theorem dX8_rule_100 : decode cX8_rule 100 = .ok (.getfield 28, 3) := by decide +kernel
theorem dX8_rule_103 : decode cX8_rule 103 = .ok (.invokevirtual 64, 3) := by decide +kernel
theorem dX8_rule_106 : decode cX8_rule 106 = .ok (.aload_n 0, 1) := by decide +kernel
theorem dX8_rule_107 : decode cX8_rule 107 = .ok (.getfield 19, 3) := by decide +kernel
theorem dX8_rule_110 : decode cX8_rule 110 = .ok (.iload_n 1, 1) := by decide +kernel
theorem dX8_rule_111 : decode cX8_rule 111 = .ok (.iload_n 2, 1) := by decide +kernel
theorem dX8_rule_112 : decode cX8_rule 112 = .ok (.invokevirtual 136, 3) := by decide +kernel
theorem dX8_rule_115 : decode cX8_rule 115 = .ok (.ireturn, 1) := by decide +kernel
theorem dX8_push_0 : decode cX8_push 0 = .ok (.aload_n 0, 1) := by decide +kernel
theorem dX8_push_1 : decode cX8_push 1 = .ok (.getfield 140, 3) := by decide +kernel
theorem dX8_push_4 : decode cX8_push 4 = .ok (.bipush 6, 2) := by decide +kernel
theorem dX8_push_6 : decode cX8_push 6 = .ok (.if_icmp .lt 11, 3) := by decide +kernel
theorem dX8_push_9 : decode cX8_push 9 = .ok (.new 61, 3) := by decide +kernel
theorem dX8_push_12 : decode cX8_push 12 = .ok (.dup, 1) := by decide +kernel
theorem dX8_push_13 : decode cX8_push 13 = .ok (.invokespecial 63, 3) := by decide +kernel
theorem dX8_push_16 : decode cX8_push 16 = .ok (.athrow, 1) := by decide +kernel
theorem dX8_push_17 : decode cX8_push 17 = .ok (.aload_n 0, 1) := by decide +kernel
theorem dX8_push_18 : decode cX8_push 18 = .ok (.getfield 45, 3) := by decide +kernel
theorem dX8_push_21 : decode cX8_push 21 = .ok (.aload_n 0, 1) := by decide +kernel
theorem dX8_push_22 : decode cX8_push 22 = .ok (.getfield 140, 3) := by decide +kernel
theorem dX8_push_25 : decode cX8_push 25 = .ok (.aload_n 0, 1) := by decide +kernel
theorem dX8_push_26 : decode cX8_push 26 = .ok (.getfield 10, 3) := by decide +kernel
theorem dX8_push_29 : decode cX8_push 29 = .ok (.getfield 87, 3) := by decide +kernel
theorem dX8_push_32 : decode cX8_push 32 = .ok (.iastore, 1) := by decide +kernel
theorem dX8_push_33 : decode cX8_push 33 = .ok (.aload_n 0, 1) := by decide +kernel
theorem dX8_push_34 : decode cX8_push 34 = .ok (.getfield 48, 3) := by decide +kernel
theorem dX8_push_37 : decode cX8_push 37 = .ok (.aload_n 0, 1) := by decide +kernel
theorem dX8_push_38 : decode cX8_push 38 = .ok (.getfield 140, 3) := by decide +kernel
theorem dX8_push_41 : decode cX8_push 41 = .ok (.aload_n 0, 1) := by decide +kernel
theorem dX8_push_42 : decode cX8_push 42 = .ok (.getfield 19, 3) := by decide +kernel
theorem dX8_push_45 : decode cX8_push 45 = .ok (.getfield 118, 3) := by decide +kernel
theorem dX8_push_48 : decode cX8_push 48 = .ok (.iastore, 1) := by decide +kernel
theorem dX8_push_49 : decode cX8_push 49 = .ok (.aload_n 0, 1) := by decide +kernel
theorem dX8_push_50 : decode cX8_push 50 = .ok (.getfield 51, 3) := by decide +kernel
theorem dX8_push_53 : decode cX8_push 53 = .ok (.aload_n 0, 1) := by decide +kernel
theorem dX8_push_54 : decode cX8_push 54 = .ok (.getfield 140, 3) := by decide +kernel
theorem dX8_push_57 : decode cX8_push 57 = .ok (.aload_n 0, 1) := by decide +kernel
theorem dX8_push_58 : decode cX8_push 58 = .ok (.getfield 19, 3) := by decide +kernel
theorem dX8_push_61 : decode cX8_push 61 = .ok (.getfield 130, 3) := by decide +kernel
theorem dX8_push_64 : decode cX8_push 64 = .ok (.iastore, 1) := by decide +kernel
theorem dX8_push_65 : decode cX8_push 65 = .ok (.aload_n 0, 1) := by decide +kernel
theorem dX8_push_66 : decode cX8_push 66 = .ok (.getfield 54, 3) := by decide +kernel
theorem dX8_push_69 : decode cX8_push 69 = .ok (.aload_n 0, 1) := by decide +kernel
theorem dX8_push_70 : decode cX8_push 70 = .ok (.getfield 140, 3) := by decide +kernel
theorem dX8_push_73 : decode cX8_push 73 = .ok (.aload_n 0, 1) := by decide +kernel
theorem dX8_push_74 : decode cX8_push 74 = .ok (.getfield 19, 3) := by decide +kernel
theorem dX8_push_77 : decode cX8_push 77 = .ok (.getfield 143, 3) := by decide +kernel
theorem dX8_push_80 : decode cX8_push 80 = .ok (.iastore, 1) := by decide +kernel
theorem dX8_push_81 : decode cX8_push 81 = .ok (.aload_n 0, 1) := by decide +kernel
theorem dX8_push_82 : decode cX8_push 82 = .ok (.dup, 1) := by decide +kernel
theorem dX8_push_83 : decode cX8_push 83 = .ok (.getfield 140, 3) := by decide +kernel
theorem dX8_push_86 : decode cX8_push 86 = .ok (.iconst 1, 1) := by decide +kernel
theorem dX8_push_87 : decode cX8_push 87 = .ok (.iadd, 1) := by decide +kernel
theorem dX8_push_88 : decode cX8_push 88 = .ok (.putfield 140, 3) := by decide +kernel
theorem dX8_push_91 : decode cX8_push 91 = .ok (.aload_n 0, 1) := by decide +kernel
theorem dX8_push_92 : decode cX8_push 92 = .ok (.getfield 140, 3) := by decide +kernel
theorem dX8_push_95 : decode cX8_push 95 = .ok (.ireturn, 1) := by decide +kernel
theorem dX8_pop_0 : decode cX8_pop 0 = .ok (.aload_n 0, 1) := by decide +kernel
theorem dX8_pop_1 : decode cX8_pop 1 = .ok (.getfield 140, 3) := by decide +kernel
theorem dX8_pop_4 : decode cX8_pop 4 = .ok (.ifCond .gt 11, 3) := by decide +kernel
theorem dX8_pop_7 : decode cX8_pop 7 = .ok (.new 61, 3) := by decide +kernel
theorem dX8_pop_10 : decode cX8_pop 10 = .ok (.dup, 1) := by decide +kernel
theorem dX8_pop_11 : decode cX8_pop 11 = .ok (.invokespecial 63, 3) := by decide +kernel
theorem dX8_pop_14 : decode cX8_pop 14 = .ok (.athrow, 1) := by decide +kernel
theorem dX8_pop_15 : decode cX8_pop 15 = .ok (.aload_n 0, 1) := by decide +kernel
theorem dX8_pop_16 : decode cX8_pop 16 = .ok (.dup, 1) := by decide +kernel
theorem dX8_pop_17 : decode cX8_pop 17 = .ok (.getfield 140, 3) := by decide +kernel
theorem dX8_pop_20 : decode cX8_pop 20 = .ok (.iconst 1, 1) := by decide +kernel
theorem dX8_pop_21 : decode cX8_pop 21 = .ok (.isub, 1) := by decide +kernel
theorem dX8_pop_22 : decode cX8_pop 22 = .ok (.putfield 140, 3) := by decide +kernel
theorem dX8_pop_25 : decode cX8_pop 25 = .ok (.aload_n 0, 1) := by decide +kernel
theorem dX8_pop_26 : decode cX8_pop 26 = .ok (.getfield 10, 3) := by decide +kernel
theorem dX8_pop_29 : decode cX8_pop 29 = .ok (.aload_n 0, 1) := by decide +kernel
theorem dX8_pop_30 : decode cX8_pop 30 = .ok (.getfield 45, 3) := by decide +kernel
theorem dX8_pop_33 : decode cX8_pop 33 = .ok (.aload_n 0, 1) := by decide +kernel
theorem dX8_pop_34 : decode cX8_pop 34 = .ok (.getfield 140, 3) := by decide +kernel
theorem dX8_pop_37 : decode cX8_pop 37 = .ok (.iaload, 1) := by decide +kernel
theorem dX8_pop_38 : decode cX8_pop 38 = .ok (.putfield 87, 3) := by decide +kernel
theorem dX8_pop_41 : decode cX8_pop 41 = .ok (.aload_n 0, 1) := by decide +kernel
theorem dX8_pop_42 : decode cX8_pop 42 = .ok (.getfield 19, 3) := by decide +kernel
theorem dX8_pop_45 : decode cX8_pop 45 = .ok (.aload_n 0, 1) := by decide +kernel
theorem dX8_pop_46 : decode cX8_pop 46 = .ok (.getfield 48, 3) := by decide +kernel
theorem dX8_pop_49 : decode cX8_pop 49 = .ok (.aload_n 0, 1) := by decide +kernel
theorem dX8_pop_50 : decode cX8_pop 50 = .ok (.getfield 140, 3) := by decide +kernel
theorem dX8_pop_53 : decode cX8_pop 53 = .ok (.iaload, 1) := by decide +kernel
theorem dX8_pop_54 : decode cX8_pop 54 = .ok (.putfield 118, 3) := by decide +kernel
theorem dX8_pop_57 : decode cX8_pop 57 = .ok (.aload_n 0, 1) := by decide +kernel
theorem dX8_pop_58 : decode cX8_pop 58 = .ok (.getfield 19, 3) := by decide +kernel
theorem dX8_pop_61 : decode cX8_pop 61 = .ok (.aload_n 0, 1) := by decide +kernel
theorem dX8_pop_62 : decode cX8_pop 62 = .ok (.getfield 51, 3) := by decide +kernel
theorem dX8_pop_65 : decode cX8_pop 65 = .ok (.aload_n 0, 1) := by decide +kernel
theorem dX8_pop_66 : decode cX8_pop 66 = .ok (.getfield 140, 3) := by decide +kernel
theorem dX8_pop_69 : decode cX8_pop 69 = .ok (.iaload, 1) := by decide +kernel
theorem dX8_pop_70 : decode cX8_pop 70 = .ok (.putfield 130, 3) := by decide +kernel
theorem dX8_pop_73 : decode cX8_pop 73 = .ok (.aload_n 0, 1) := by decide +kernel
theorem dX8_pop_74 : decode cX8_pop 74 = .ok (.getfield 19, 3) := by decide +kernel
theorem dX8_pop_77 : decode cX8_pop 77 = .ok (.aload_n 0, 1) := by decide +kernel
theorem dX8_pop_78 : decode cX8_pop 78 = .ok (.getfield 54, 3) := by decide +kernel
theorem dX8_pop_81 : decode cX8_pop 81 = .ok (.aload_n 0, 1) := by decide +kernel
theorem dX8_pop_82 : decode cX8_pop 82 = .ok (.getfield 140, 3) := by decide +kernel
theorem dX8_pop_85 : decode cX8_pop 85 = .ok (.iaload, 1) := by decide +kernel
theorem dX8_pop_86 : decode cX8_pop 86 = .ok (.putfield 143, 3) := by decide +kernel
theorem dX8_pop_89 : decode cX8_pop 89 = .ok (.aload_n 0, 1) := by decide +kernel
theorem dX8_pop_90 : decode cX8_pop 90 = .ok (.getfield 28, 3) := by decide +kernel
theorem dX8_pop_93 : decode cX8_pop 93 = .ok (.invokevirtual 64, 3) := by decide +kernel
theorem dX8_pop_96 : decode cX8_pop 96 = .ok (.aload_n 0, 1) := by decide +kernel
theorem dX8_pop_97 : decode cX8_pop 97 = .ok (.getfield 19, 3) := by decide +kernel
theorem dX8_pop_100 : decode cX8_pop 100 = .ok (.getfield 130, 3) := by decide +kernel
theorem dX8_pop_103 : decode cX8_pop 103 = .ok (.ireturn, 1) := by decide +kernel
theorem dX8_check_0 : decode cX8_check 0 = .ok (.aload_n 0, 1) := by decide +kernel
theorem dX8_check_1 : decode cX8_check 1 = .ok (.getfield 28, 3) := by decide +kernel
theorem dX8_check_4 : decode cX8_check 4 = .ok (.invokevirtual 146, 3) := by decide +kernel
theorem dX8_check_7 : decode cX8_check 7 = .ok (.ireturn, 1) := by decide +kernel
theorem dX8_core_0 : decode cX8_core 0 = .ok (.aload_n 0, 1) := by decide +kernel
theorem dX8_core_1 : decode cX8_core 1 = .ok (.getfield 28, 3) := by decide +kernel
theorem dX8_core_4 : decode cX8_core 4 = .ok (.invokevirtual 146, 3) := by decide +kernel
theorem dX8_core_7 : decode cX8_core 7 = .ok (.ifCond .eq 11, 3) := by decide +kernel
theorem dX8_core_10 : decode cX8_core 10 = .ok (.new 61, 3) := by decide +kernel
theorem dX8_core_13 : decode cX8_core 13 = .ok (.dup, 1) := by decide +kernel
theorem dX8_core_14 : decode cX8_core 14 = .ok (.invokespecial 63, 3) := by decide +kernel
theorem dX8_core_17 : decode cX8_core 17 = .ok (.athrow, 1) := by decide +kernel
theorem dX8_core_18 : decode cX8_core 18 = .ok (.aload_n 0, 1) := by decide +kernel
theorem dX8_core_19 : decode cX8_core 19 = .ok (.getfield 28, 3) := by decide +kernel
theorem dX8_core_22 : decode cX8_core 22 = .ok (.iconst (-1), 1) := by decide +kernel
theorem dX8_core_23 : decode cX8_core 23 = .ok (.invokevirtual 149, 3) := by decide +kernel
theorem dX8_core_26 : decode cX8_core 26 = .ok (.invokestatic 152, 3) := by decide +kernel
theorem dX8_core_29 : decode cX8_core 29 = .ok (.ireturn, 1) := by decide +kernel
theorem dX8_coreAt_0 : decode cX8_coreAt 0 = .ok (.aload_n 0, 1) := by decide +kernel
theorem dX8_coreAt_1 : decode cX8_coreAt 1 = .ok (.getfield 28, 3) := by decide +kernel
theorem dX8_coreAt_4 : decode cX8_coreAt 4 = .ok (.invokevirtual 146, 3) := by decide +kernel
theorem dX8_coreAt_7 : decode cX8_coreAt 7 = .ok (.ifCond .eq 11, 3) := by decide +kernel
theorem dX8_coreAt_10 : decode cX8_coreAt 10 = .ok (.new 61, 3) := by decide +kernel
theorem dX8_coreAt_13 : decode cX8_coreAt 13 = .ok (.dup, 1) := by decide +kernel
theorem dX8_coreAt_14 : decode cX8_coreAt 14 = .ok (.invokespecial 63, 3) := by decide +kernel
theorem dX8_coreAt_17 : decode cX8_coreAt 17 = .ok (.athrow, 1) := by decide +kernel
theorem dX8_coreAt_18 : decode cX8_coreAt 18 = .ok (.aload_n 0, 1) := by decide +kernel
theorem dX8_coreAt_19 : decode cX8_coreAt 19 = .ok (.getfield 28, 3) := by decide +kernel
theorem dX8_coreAt_22 : decode cX8_coreAt 22 = .ok (.iconst (-1), 1) := by decide +kernel
theorem dX8_coreAt_23 : decode cX8_coreAt 23 = .ok (.invokevirtual 149, 3) := by decide +kernel
theorem dX8_coreAt_26 : decode cX8_coreAt 26 = .ok (.istore_n 2, 1) := by decide +kernel
theorem dX8_coreAt_27 : decode cX8_coreAt 27 = .ok (.iload_n 1, 1) := by decide +kernel
theorem dX8_coreAt_28 : decode cX8_coreAt 28 = .ok (.ifCond .lt 11, 3) := by decide +kernel
theorem dX8_coreAt_31 : decode cX8_coreAt 31 = .ok (.iload_n 1, 1) := by decide +kernel
theorem dX8_coreAt_32 : decode cX8_coreAt 32 = .ok (.iload_n 2, 1) := by decide +kernel
theorem dX8_coreAt_33 : decode cX8_coreAt 33 = .ok (.invokestatic 152, 3) := by decide +kernel
theorem dX8_coreAt_36 : decode cX8_coreAt 36 = .ok (.if_icmp .lt 11, 3) := by decide +kernel
theorem dX8_coreAt_39 : decode cX8_coreAt 39 = .ok (.new 157, 3) := by decide +kernel
theorem dX8_coreAt_42 : decode cX8_coreAt 42 = .ok (.dup, 1) := by decide +kernel
theorem dX8_coreAt_43 : decode cX8_coreAt 43 = .ok (.invokespecial 159, 3) := by decide +kernel
theorem dX8_coreAt_46 : decode cX8_coreAt 46 = .ok (.athrow, 1) := by decide +kernel
theorem dX8_coreAt_47 : decode cX8_coreAt 47 = .ok (.iload_n 2, 1) := by decide +kernel
theorem dX8_coreAt_48 : decode cX8_coreAt 48 = .ok (.iload_n 1, 1) := by decide +kernel
theorem dX8_coreAt_49 : decode cX8_coreAt 49 = .ok (.invokestatic 160, 3) := by decide +kernel
theorem dX8_coreAt_52 : decode cX8_coreAt 52 = .ok (.ireturn, 1) := by decide +kernel
theorem dX8_follows_0 : decode cX8_follows 0 = .ok (.aload_n 0, 1) := by decide +kernel
theorem dX8_follows_1 : decode cX8_follows 1 = .ok (.getfield 19, 3) := by decide +kernel
theorem dX8_follows_4 : decode cX8_follows 4 = .ok (.iload_n 1, 1) := by decide +kernel
theorem dX8_follows_5 : decode cX8_follows 5 = .ok (.invokevirtual 121, 3) := by decide +kernel
theorem dX8_follows_8 : decode cX8_follows 8 = .ok (.ifCond .ne 11, 3) := by decide +kernel
theorem dX8_follows_11 : decode cX8_follows 11 = .ok (.new 78, 3) := by decide +kernel
theorem dX8_follows_14 : decode cX8_follows 14 = .ok (.dup, 1) := by decide +kernel
theorem dX8_follows_15 : decode cX8_follows 15 = .ok (.invokespecial 80, 3) := by decide +kernel
theorem dX8_follows_18 : decode cX8_follows 18 = .ok (.athrow, 1) := by decide +kernel
theorem dX8_follows_19 : decode cX8_follows 19 = .ok (.aload_n 0, 1) := by decide +kernel
theorem dX8_follows_20 : decode cX8_follows 20 = .ok (.getfield 28, 3) := by decide +kernel
theorem dX8_follows_23 : decode cX8_follows 23 = .ok (.invokevirtual 146, 3) := by decide +kernel
theorem dX8_follows_26 : decode cX8_follows 26 = .ok (.ifCond .eq 14, 3) := by decide +kernel
theorem dX8_follows_29 : decode cX8_follows 29 = .ok (.aload_n 0, 1) := by decide +kernel
theorem dX8_follows_30 : decode cX8_follows 30 = .ok (.getfield 28, 3) := by decide +kernel
theorem dX8_follows_33 : decode cX8_follows 33 = .ok (.iload_n 1, 1) := by decide +kernel
theorem dX8_follows_34 : decode cX8_follows 34 = .ok (.invokevirtual 163, 3) := by decide +kernel
theorem dX8_follows_37 : decode cX8_follows 37 = .ok (.ifCond .eq 7, 3) := by decide +kernel
theorem dX8_follows_40 : decode cX8_follows 40 = .ok (.iconst 1, 1) := by decide +kernel
theorem dX8_follows_41 : decode cX8_follows 41 = .ok (.goto 4, 3) := by decide +kernel
theorem dX8_follows_44 : decode cX8_follows 44 = .ok (.iconst 0, 1) := by decide +kernel
theorem dX8_follows_45 : decode cX8_follows 45 = .ok (.ireturn, 1) := by decide +kernel
theorem dX8_reasons_0 : decode cX8_reasons 0 = .ok (.aload_n 0, 1) := by decide +kernel
theorem dX8_reasons_1 : decode cX8_reasons 1 = .ok (.getfield 19, 3) := by decide +kernel
theorem dX8_reasons_4 : decode cX8_reasons 4 = .ok (.iload_n 1, 1) := by decide +kernel
theorem dX8_reasons_5 : decode cX8_reasons 5 = .ok (.invokevirtual 121, 3) := by decide +kernel
theorem dX8_reasons_8 : decode cX8_reasons 8 = .ok (.ifCond .ne 11, 3) := by decide +kernel
theorem dX8_reasons_11 : decode cX8_reasons 11 = .ok (.new 78, 3) := by decide +kernel
theorem dX8_reasons_14 : decode cX8_reasons 14 = .ok (.dup, 1) := by decide +kernel
theorem dX8_reasons_15 : decode cX8_reasons 15 = .ok (.invokespecial 80, 3) := by decide +kernel
theorem dX8_reasons_18 : decode cX8_reasons 18 = .ok (.athrow, 1) := by decide +kernel
theorem dX8_reasons_19 : decode cX8_reasons 19 = .ok (.aload_n 0, 1) := by decide +kernel
theorem dX8_reasons_20 : decode cX8_reasons 20 = .ok (.getfield 28, 3) := by decide +kernel
theorem dX8_reasons_23 : decode cX8_reasons 23 = .ok (.invokevirtual 146, 3) := by decide +kernel
theorem dX8_reasons_26 : decode cX8_reasons 26 = .ok (.ifCond .eq 22, 3) := by decide +kernel
theorem dX8_reasons_29 : decode cX8_reasons 29 = .ok (.aload_n 0, 1) := by decide +kernel
theorem dX8_reasons_30 : decode cX8_reasons 30 = .ok (.getfield 28, 3) := by decide +kernel
theorem dX8_reasons_33 : decode cX8_reasons 33 = .ok (.iload_n 1, 1) := by decide +kernel
theorem dX8_reasons_34 : decode cX8_reasons 34 = .ok (.invokevirtual 163, 3) := by decide +kernel
theorem dX8_reasons_37 : decode cX8_reasons 37 = .ok (.ifCond .ne 11, 3) := by decide +kernel
theorem dX8_reasons_40 : decode cX8_reasons 40 = .ok (.new 61, 3) := by decide +kernel
theorem dX8_reasons_43 : decode cX8_reasons 43 = .ok (.dup, 1) := by decide +kernel
theorem dX8_reasons_44 : decode cX8_reasons 44 = .ok (.invokespecial 63, 3) := by decide +kernel
theorem dX8_reasons_47 : decode cX8_reasons 47 = .ok (.athrow, 1) := by decide +kernel
theorem dX8_reasons_48 : decode cX8_reasons 48 = .ok (.aload_n 0, 1) := by decide +kernel
theorem dX8_reasons_49 : decode cX8_reasons 49 = .ok (.getfield 28, 3) := by decide +kernel
theorem dX8_reasons_52 : decode cX8_reasons 52 = .ok (.iload_n 1, 1) := by decide +kernel
theorem dX8_reasons_53 : decode cX8_reasons 53 = .ok (.invokevirtual 149, 3) := by decide +kernel
theorem dX8_reasons_56 : decode cX8_reasons 56 = .ok (.invokestatic 152, 3) := by decide +kernel
theorem dX8_reasons_59 : decode cX8_reasons 59 = .ok (.ireturn, 1) := by decide +kernel
theorem dX8_reasonAt_0 : decode cX8_reasonAt 0 = .ok (.aload_n 0, 1) := by decide +kernel
theorem dX8_reasonAt_1 : decode cX8_reasonAt 1 = .ok (.getfield 19, 3) := by decide +kernel
theorem dX8_reasonAt_4 : decode cX8_reasonAt 4 = .ok (.iload_n 1, 1) := by decide +kernel
theorem dX8_reasonAt_5 : decode cX8_reasonAt 5 = .ok (.invokevirtual 121, 3) := by decide +kernel
theorem dX8_reasonAt_8 : decode cX8_reasonAt 8 = .ok (.ifCond .ne 11, 3) := by decide +kernel
theorem dX8_reasonAt_11 : decode cX8_reasonAt 11 = .ok (.new 78, 3) := by decide +kernel
theorem dX8_reasonAt_14 : decode cX8_reasonAt 14 = .ok (.dup, 1) := by decide +kernel
theorem dX8_reasonAt_15 : decode cX8_reasonAt 15 = .ok (.invokespecial 80, 3) := by decide +kernel
theorem dX8_reasonAt_18 : decode cX8_reasonAt 18 = .ok (.athrow, 1) := by decide +kernel
theorem dX8_reasonAt_19 : decode cX8_reasonAt 19 = .ok (.aload_n 0, 1) := by decide +kernel
theorem dX8_reasonAt_20 : decode cX8_reasonAt 20 = .ok (.getfield 28, 3) := by decide +kernel
theorem dX8_reasonAt_23 : decode cX8_reasonAt 23 = .ok (.invokevirtual 146, 3) := by decide +kernel
theorem dX8_reasonAt_26 : decode cX8_reasonAt 26 = .ok (.ifCond .eq 22, 3) := by decide +kernel
theorem dX8_reasonAt_29 : decode cX8_reasonAt 29 = .ok (.aload_n 0, 1) := by decide +kernel
theorem dX8_reasonAt_30 : decode cX8_reasonAt 30 = .ok (.getfield 28, 3) := by decide +kernel
theorem dX8_reasonAt_33 : decode cX8_reasonAt 33 = .ok (.iload_n 1, 1) := by decide +kernel
theorem dX8_reasonAt_34 : decode cX8_reasonAt 34 = .ok (.invokevirtual 163, 3) := by decide +kernel
theorem dX8_reasonAt_37 : decode cX8_reasonAt 37 = .ok (.ifCond .ne 11, 3) := by decide +kernel
theorem dX8_reasonAt_40 : decode cX8_reasonAt 40 = .ok (.new 61, 3) := by decide +kernel
theorem dX8_reasonAt_43 : decode cX8_reasonAt 43 = .ok (.dup, 1) := by decide +kernel
theorem dX8_reasonAt_44 : decode cX8_reasonAt 44 = .ok (.invokespecial 63, 3) := by decide +kernel
theorem dX8_reasonAt_47 : decode cX8_reasonAt 47 = .ok (.athrow, 1) := by decide +kernel
theorem dX8_reasonAt_48 : decode cX8_reasonAt 48 = .ok (.aload_n 0, 1) := by decide +kernel
theorem dX8_reasonAt_49 : decode cX8_reasonAt 49 = .ok (.getfield 28, 3) := by decide +kernel
theorem dX8_reasonAt_52 : decode cX8_reasonAt 52 = .ok (.iload_n 1, 1) := by decide +kernel
theorem dX8_reasonAt_53 : decode cX8_reasonAt 53 = .ok (.invokevirtual 149, 3) := by decide +kernel
theorem dX8_reasonAt_56 : decode cX8_reasonAt 56 = .ok (.istore_n 3, 1) := by decide +kernel
theorem dX8_reasonAt_57 : decode cX8_reasonAt 57 = .ok (.iload_n 2, 1) := by decide +kernel
theorem dX8_reasonAt_58 : decode cX8_reasonAt 58 = .ok (.ifCond .lt 11, 3) := by decide +kernel
theorem dX8_reasonAt_61 : decode cX8_reasonAt 61 = .ok (.iload_n 2, 1) := by decide +kernel
theorem dX8_reasonAt_62 : decode cX8_reasonAt 62 = .ok (.iload_n 3, 1) := by decide +kernel
theorem dX8_reasonAt_63 : decode cX8_reasonAt 63 = .ok (.invokestatic 152, 3) := by decide +kernel
theorem dX8_reasonAt_66 : decode cX8_reasonAt 66 = .ok (.if_icmp .lt 11, 3) := by decide +kernel
theorem dX8_reasonAt_69 : decode cX8_reasonAt 69 = .ok (.new 157, 3) := by decide +kernel
theorem dX8_reasonAt_72 : decode cX8_reasonAt 72 = .ok (.dup, 1) := by decide +kernel
theorem dX8_reasonAt_73 : decode cX8_reasonAt 73 = .ok (.invokespecial 159, 3) := by decide +kernel
theorem dX8_reasonAt_76 : decode cX8_reasonAt 76 = .ok (.athrow, 1) := by decide +kernel
theorem dX8_reasonAt_77 : decode cX8_reasonAt 77 = .ok (.iload_n 3, 1) := by decide +kernel
theorem dX8_reasonAt_78 : decode cX8_reasonAt 78 = .ok (.iload_n 2, 1) := by decide +kernel
theorem dX8_reasonAt_79 : decode cX8_reasonAt 79 = .ok (.invokestatic 160, 3) := by decide +kernel
theorem dX8_reasonAt_82 : decode cX8_reasonAt 82 = .ok (.ireturn, 1) := by decide +kernel
theorem dX8_bound_0 : decode cX8_bound 0 = .ok (.aload_n 0, 1) := by decide +kernel
theorem dX8_bound_1 : decode cX8_bound 1 = .ok (.getfield 10, 3) := by decide +kernel
theorem dX8_bound_4 : decode cX8_bound 4 = .ok (.iload_n 1, 1) := by decide +kernel
theorem dX8_bound_5 : decode cX8_bound 5 = .ok (.invokevirtual 74, 3) := by decide +kernel
theorem dX8_bound_8 : decode cX8_bound 8 = .ok (.ifCond .eq 14, 3) := by decide +kernel
theorem dX8_bound_11 : decode cX8_bound 11 = .ok (.aload_n 0, 1) := by decide +kernel
theorem dX8_bound_12 : decode cX8_bound 12 = .ok (.getfield 10, 3) := by decide +kernel
theorem dX8_bound_15 : decode cX8_bound 15 = .ok (.iload_n 2, 1) := by decide +kernel
theorem dX8_bound_16 : decode cX8_bound 16 = .ok (.invokevirtual 74, 3) := by decide +kernel
theorem dX8_bound_19 : decode cX8_bound 19 = .ok (.ifCond .ne 11, 3) := by decide +kernel
theorem dX8_bound_22 : decode cX8_bound 22 = .ok (.new 78, 3) := by decide +kernel
theorem dX8_bound_25 : decode cX8_bound 25 = .ok (.dup, 1) := by decide +kernel
theorem dX8_bound_26 : decode cX8_bound 26 = .ok (.invokespecial 80, 3) := by decide +kernel
theorem dX8_bound_29 : decode cX8_bound 29 = .ok (.athrow, 1) := by decide +kernel
theorem dX8_bound_30 : decode cX8_bound 30 = .ok (.aload_n 0, 1) := by decide +kernel
theorem dX8_bound_31 : decode cX8_bound 31 = .ok (.getfield 28, 3) := by decide +kernel
theorem dX8_bound_34 : decode cX8_bound 34 = .ok (.invokevirtual 146, 3) := by decide +kernel
theorem dX8_bound_37 : decode cX8_bound 37 = .ok (.ifCond .ne 11, 3) := by decide +kernel
theorem dX8_bound_40 : decode cX8_bound 40 = .ok (.new 61, 3) := by decide +kernel
theorem dX8_bound_43 : decode cX8_bound 43 = .ok (.dup, 1) := by decide +kernel
theorem dX8_bound_44 : decode cX8_bound 44 = .ok (.invokespecial 63, 3) := by decide +kernel
theorem dX8_bound_47 : decode cX8_bound 47 = .ok (.athrow, 1) := by decide +kernel
theorem dX8_bound_48 : decode cX8_bound 48 = .ok (.aload_n 0, 1) := by decide +kernel
theorem dX8_bound_49 : decode cX8_bound 49 = .ok (.getfield 28, 3) := by decide +kernel
theorem dX8_bound_52 : decode cX8_bound 52 = .ok (.iload_n 1, 1) := by decide +kernel
theorem dX8_bound_53 : decode cX8_bound 53 = .ok (.iload_n 2, 1) := by decide +kernel
theorem dX8_bound_54 : decode cX8_bound 54 = .ok (.invokevirtual 166, 3) := by decide +kernel
theorem dX8_bound_57 : decode cX8_bound 57 = .ok (.istore_n 3, 1) := by decide +kernel
theorem dX8_bound_58 : decode cX8_bound 58 = .ok (.iload_n 3, 1) := by decide +kernel
theorem dX8_bound_59 : decode cX8_bound 59 = .ok (.sipush 400, 3) := by decide +kernel
theorem dX8_bound_62 : decode cX8_bound 62 = .ok (.if_icmp .le 11, 3) := by decide +kernel
theorem dX8_bound_65 : decode cX8_bound 65 = .ok (.new 169, 3) := by decide +kernel
theorem dX8_bound_68 : decode cX8_bound 68 = .ok (.dup, 1) := by decide +kernel
theorem dX8_bound_69 : decode cX8_bound 69 = .ok (.invokespecial 171, 3) := by decide +kernel
theorem dX8_bound_72 : decode cX8_bound 72 = .ok (.athrow, 1) := by decide +kernel
theorem dX8_bound_73 : decode cX8_bound 73 = .ok (.iload_n 3, 1) := by decide +kernel
theorem dX8_bound_74 : decode cX8_bound 74 = .ok (.ireturn, 1) := by decide +kernel
theorem dX8_classOf_0 : decode cX8_classOf 0 = .ok (.aload_n 0, 1) := by decide +kernel
theorem dX8_classOf_1 : decode cX8_classOf 1 = .ok (.getfield 10, 3) := by decide +kernel
theorem dX8_classOf_4 : decode cX8_classOf 4 = .ok (.iload_n 1, 1) := by decide +kernel
theorem dX8_classOf_5 : decode cX8_classOf 5 = .ok (.invokevirtual 74, 3) := by decide +kernel
theorem dX8_classOf_8 : decode cX8_classOf 8 = .ok (.ifCond .ne 11, 3) := by decide +kernel
theorem dX8_classOf_11 : decode cX8_classOf 11 = .ok (.new 78, 3) := by decide +kernel
theorem dX8_classOf_14 : decode cX8_classOf 14 = .ok (.dup, 1) := by decide +kernel
theorem dX8_classOf_15 : decode cX8_classOf 15 = .ok (.invokespecial 80, 3) := by decide +kernel
theorem dX8_classOf_18 : decode cX8_classOf 18 = .ok (.athrow, 1) := by decide +kernel
theorem dX8_classOf_19 : decode cX8_classOf 19 = .ok (.aload_n 0, 1) := by decide +kernel
theorem dX8_classOf_20 : decode cX8_classOf 20 = .ok (.getfield 28, 3) := by decide +kernel
theorem dX8_classOf_23 : decode cX8_classOf 23 = .ok (.invokevirtual 146, 3) := by decide +kernel
theorem dX8_classOf_26 : decode cX8_classOf 26 = .ok (.ifCond .ne 11, 3) := by decide +kernel
theorem dX8_classOf_29 : decode cX8_classOf 29 = .ok (.new 61, 3) := by decide +kernel
theorem dX8_classOf_32 : decode cX8_classOf 32 = .ok (.dup, 1) := by decide +kernel
theorem dX8_classOf_33 : decode cX8_classOf 33 = .ok (.invokespecial 63, 3) := by decide +kernel
theorem dX8_classOf_36 : decode cX8_classOf 36 = .ok (.athrow, 1) := by decide +kernel
theorem dX8_classOf_37 : decode cX8_classOf 37 = .ok (.aload_n 0, 1) := by decide +kernel
theorem dX8_classOf_38 : decode cX8_classOf 38 = .ok (.getfield 28, 3) := by decide +kernel
theorem dX8_classOf_41 : decode cX8_classOf 41 = .ok (.invokevirtual 172, 3) := by decide +kernel
theorem dX8_classOf_44 : decode cX8_classOf 44 = .ok (.aload_n 0, 1) := by decide +kernel
theorem dX8_classOf_45 : decode cX8_classOf 45 = .ok (.getfield 28, 3) := by decide +kernel
theorem dX8_classOf_48 : decode cX8_classOf 48 = .ok (.getfield 175, 3) := by decide +kernel
theorem dX8_classOf_51 : decode cX8_classOf 51 = .ok (.iload_n 1, 1) := by decide +kernel
theorem dX8_classOf_52 : decode cX8_classOf 52 = .ok (.iaload, 1) := by decide +kernel
theorem dX8_classOf_53 : decode cX8_classOf 53 = .ok (.ireturn, 1) := by decide +kernel
theorem dX8_classes_0 : decode cX8_classes 0 = .ok (.aload_n 0, 1) := by decide +kernel
theorem dX8_classes_1 : decode cX8_classes 1 = .ok (.getfield 28, 3) := by decide +kernel
theorem dX8_classes_4 : decode cX8_classes 4 = .ok (.invokevirtual 146, 3) := by decide +kernel
theorem dX8_classes_7 : decode cX8_classes 7 = .ok (.ifCond .ne 11, 3) := by decide +kernel
theorem dX8_classes_10 : decode cX8_classes 10 = .ok (.new 61, 3) := by decide +kernel
theorem dX8_classes_13 : decode cX8_classes 13 = .ok (.dup, 1) := by decide +kernel
theorem dX8_classes_14 : decode cX8_classes 14 = .ok (.invokespecial 63, 3) := by decide +kernel
theorem dX8_classes_17 : decode cX8_classes 17 = .ok (.athrow, 1) := by decide +kernel
theorem dX8_classes_18 : decode cX8_classes 18 = .ok (.aload_n 0, 1) := by decide +kernel
theorem dX8_classes_19 : decode cX8_classes 19 = .ok (.getfield 28, 3) := by decide +kernel
theorem dX8_classes_22 : decode cX8_classes 22 = .ok (.invokevirtual 172, 3) := by decide +kernel
theorem dX8_classes_25 : decode cX8_classes 25 = .ok (.iconst 0, 1) := by decide +kernel
theorem dX8_classes_26 : decode cX8_classes 26 = .ok (.istore_n 1, 1) := by decide +kernel
theorem dX8_classes_27 : decode cX8_classes 27 = .ok (.iconst 0, 1) := by decide +kernel
theorem dX8_classes_28 : decode cX8_classes 28 = .ok (.istore_n 2, 1) := by decide +kernel
theorem dX8_classes_29 : decode cX8_classes 29 = .ok (.iload_n 2, 1) := by decide +kernel
theorem dX8_classes_30 : decode cX8_classes 30 = .ok (.aload_n 0, 1) := by decide +kernel
theorem dX8_classes_31 : decode cX8_classes 31 = .ok (.getfield 10, 3) := by decide +kernel
theorem dX8_classes_34 : decode cX8_classes 34 = .ok (.getfield 87, 3) := by decide +kernel
theorem dX8_classes_37 : decode cX8_classes 37 = .ok (.if_icmp .ge 36, 3) := by decide +kernel
theorem dX8_classes_40 : decode cX8_classes 40 = .ok (.aload_n 0, 1) := by decide +kernel
theorem dX8_classes_41 : decode cX8_classes 41 = .ok (.getfield 10, 3) := by decide +kernel
theorem dX8_classes_44 : decode cX8_classes 44 = .ok (.iload_n 2, 1) := by decide +kernel
theorem dX8_classes_45 : decode cX8_classes 45 = .ok (.invokevirtual 74, 3) := by decide +kernel
theorem dX8_classes_48 : decode cX8_classes 48 = .ok (.ifCond .eq 19, 3) := by decide +kernel
theorem dX8_classes_51 : decode cX8_classes 51 = .ok (.aload_n 0, 1) := by decide +kernel
theorem dX8_classes_52 : decode cX8_classes 52 = .ok (.getfield 28, 3) := by decide +kernel
theorem dX8_classes_55 : decode cX8_classes 55 = .ok (.getfield 175, 3) := by decide +kernel
theorem dX8_classes_58 : decode cX8_classes 58 = .ok (.iload_n 2, 1) := by decide +kernel
theorem dX8_classes_59 : decode cX8_classes 59 = .ok (.iaload, 1) := by decide +kernel
theorem dX8_classes_60 : decode cX8_classes 60 = .ok (.iload_n 2, 1) := by decide +kernel
theorem dX8_classes_61 : decode cX8_classes 61 = .ok (.if_icmp .ne 6, 3) := by decide +kernel
theorem dX8_classes_64 : decode cX8_classes 64 = .ok (.iinc 1 1, 3) := by decide +kernel
theorem dX8_classes_67 : decode cX8_classes 67 = .ok (.iinc 2 1, 3) := by decide +kernel
theorem dX8_classes_70 : decode cX8_classes 70 = .ok (.goto (-41), 3) := by decide +kernel
theorem dX8_classes_73 : decode cX8_classes 73 = .ok (.iload_n 1, 1) := by decide +kernel
theorem dX8_classes_74 : decode cX8_classes 74 = .ok (.ireturn, 1) := by decide +kernel
theorem dX8_valueOf_0 : decode cX8_valueOf 0 = .ok (.aload_n 0, 1) := by decide +kernel
theorem dX8_valueOf_1 : decode cX8_valueOf 1 = .ok (.getfield 10, 3) := by decide +kernel
theorem dX8_valueOf_4 : decode cX8_valueOf 4 = .ok (.iload_n 1, 1) := by decide +kernel
theorem dX8_valueOf_5 : decode cX8_valueOf 5 = .ok (.invokevirtual 74, 3) := by decide +kernel
theorem dX8_valueOf_8 : decode cX8_valueOf 8 = .ok (.ifCond .ne 11, 3) := by decide +kernel
theorem dX8_valueOf_11 : decode cX8_valueOf 11 = .ok (.new 78, 3) := by decide +kernel
theorem dX8_valueOf_14 : decode cX8_valueOf 14 = .ok (.dup, 1) := by decide +kernel
theorem dX8_valueOf_15 : decode cX8_valueOf 15 = .ok (.invokespecial 80, 3) := by decide +kernel
theorem dX8_valueOf_18 : decode cX8_valueOf 18 = .ok (.athrow, 1) := by decide +kernel
theorem dX8_valueOf_19 : decode cX8_valueOf 19 = .ok (.aload_n 0, 1) := by decide +kernel
theorem dX8_valueOf_20 : decode cX8_valueOf 20 = .ok (.getfield 28, 3) := by decide +kernel
theorem dX8_valueOf_23 : decode cX8_valueOf 23 = .ok (.invokevirtual 146, 3) := by decide +kernel
theorem dX8_valueOf_26 : decode cX8_valueOf 26 = .ok (.ifCond .ne 11, 3) := by decide +kernel
theorem dX8_valueOf_29 : decode cX8_valueOf 29 = .ok (.new 61, 3) := by decide +kernel
theorem dX8_valueOf_32 : decode cX8_valueOf 32 = .ok (.dup, 1) := by decide +kernel
theorem dX8_valueOf_33 : decode cX8_valueOf 33 = .ok (.invokespecial 63, 3) := by decide +kernel
theorem dX8_valueOf_36 : decode cX8_valueOf 36 = .ok (.athrow, 1) := by decide +kernel
theorem dX8_valueOf_37 : decode cX8_valueOf 37 = .ok (.aload_n 0, 1) := by decide +kernel
theorem dX8_valueOf_38 : decode cX8_valueOf 38 = .ok (.getfield 28, 3) := by decide +kernel
theorem dX8_valueOf_41 : decode cX8_valueOf 41 = .ok (.invokevirtual 178, 3) := by decide +kernel
theorem dX8_valueOf_44 : decode cX8_valueOf 44 = .ok (.aload_n 0, 1) := by decide +kernel
theorem dX8_valueOf_45 : decode cX8_valueOf 45 = .ok (.getfield 28, 3) := by decide +kernel
theorem dX8_valueOf_48 : decode cX8_valueOf 48 = .ok (.getfield 34, 3) := by decide +kernel
theorem dX8_valueOf_51 : decode cX8_valueOf 51 = .ok (.iload_n 1, 1) := by decide +kernel
theorem dX8_valueOf_52 : decode cX8_valueOf 52 = .ok (.iaload, 1) := by decide +kernel
theorem dX8_valueOf_53 : decode cX8_valueOf 53 = .ok (.ireturn, 1) := by decide +kernel
theorem dX8_functionAt_0 : decode cX8_functionAt 0 = .ok (.iload_n 1, 1) := by decide +kernel
theorem dX8_functionAt_1 : decode cX8_functionAt 1 = .ok (.ifCond .lt 8, 3) := by decide +kernel
theorem dX8_functionAt_4 : decode cX8_functionAt 4 = .ok (.iload_n 1, 1) := by decide +kernel
theorem dX8_functionAt_5 : decode cX8_functionAt 5 = .ok (.iconst 4, 1) := by decide +kernel
theorem dX8_functionAt_6 : decode cX8_functionAt 6 = .ok (.if_icmp .lt 11, 3) := by decide +kernel
theorem dX8_functionAt_9 : decode cX8_functionAt 9 = .ok (.new 71, 3) := by decide +kernel
theorem dX8_functionAt_12 : decode cX8_functionAt 12 = .ok (.dup, 1) := by decide +kernel
theorem dX8_functionAt_13 : decode cX8_functionAt 13 = .ok (.invokespecial 73, 3) := by decide +kernel
theorem dX8_functionAt_16 : decode cX8_functionAt 16 = .ok (.athrow, 1) := by decide +kernel
theorem dX8_functionAt_17 : decode cX8_functionAt 17 = .ok (.aload_n 0, 1) := by decide +kernel
theorem dX8_functionAt_18 : decode cX8_functionAt 18 = .ok (.getfield 28, 3) := by decide +kernel
theorem dX8_functionAt_21 : decode cX8_functionAt 21 = .ok (.invokevirtual 146, 3) := by decide +kernel
theorem dX8_functionAt_24 : decode cX8_functionAt 24 = .ok (.ifCond .ne 11, 3) := by decide +kernel
theorem dX8_functionAt_27 : decode cX8_functionAt 27 = .ok (.new 61, 3) := by decide +kernel
theorem dX8_functionAt_30 : decode cX8_functionAt 30 = .ok (.dup, 1) := by decide +kernel
theorem dX8_functionAt_31 : decode cX8_functionAt 31 = .ok (.invokespecial 63, 3) := by decide +kernel
theorem dX8_functionAt_34 : decode cX8_functionAt 34 = .ok (.athrow, 1) := by decide +kernel
theorem dX8_functionAt_35 : decode cX8_functionAt 35 = .ok (.aload_n 0, 1) := by decide +kernel
theorem dX8_functionAt_36 : decode cX8_functionAt 36 = .ok (.getfield 28, 3) := by decide +kernel
theorem dX8_functionAt_39 : decode cX8_functionAt 39 = .ok (.invokevirtual 178, 3) := by decide +kernel
theorem dX8_functionAt_42 : decode cX8_functionAt 42 = .ok (.aload_n 0, 1) := by decide +kernel
theorem dX8_functionAt_43 : decode cX8_functionAt 43 = .ok (.getfield 41, 3) := by decide +kernel
theorem dX8_functionAt_46 : decode cX8_functionAt 46 = .ok (.iload_n 1, 1) := by decide +kernel
theorem dX8_functionAt_47 : decode cX8_functionAt 47 = .ok (.iload_n 2, 1) := by decide +kernel
theorem dX8_functionAt_48 : decode cX8_functionAt 48 = .ok (.iload_n 3, 1) := by decide +kernel
theorem dX8_functionAt_49 : decode cX8_functionAt 49 = .ok (.invokevirtual 181, 3) := by decide +kernel
theorem dX8_functionAt_52 : decode cX8_functionAt 52 = .ok (.ireturn, 1) := by decide +kernel
theorem dX8_entry_0 : decode cX8_entry 0 = .ok (.aload_n 0, 1) := by decide +kernel
theorem dX8_entry_1 : decode cX8_entry 1 = .ok (.getfield 10, 3) := by decide +kernel
theorem dX8_entry_4 : decode cX8_entry 4 = .ok (.iload_n 1, 1) := by decide +kernel
theorem dX8_entry_5 : decode cX8_entry 5 = .ok (.invokevirtual 84, 3) := by decide +kernel
theorem dX8_entry_8 : decode cX8_entry 8 = .ok (.ifCond .ne 11, 3) := by decide +kernel
theorem dX8_entry_11 : decode cX8_entry 11 = .ok (.new 78, 3) := by decide +kernel
theorem dX8_entry_14 : decode cX8_entry 14 = .ok (.dup, 1) := by decide +kernel
theorem dX8_entry_15 : decode cX8_entry 15 = .ok (.invokespecial 80, 3) := by decide +kernel
theorem dX8_entry_18 : decode cX8_entry 18 = .ok (.athrow, 1) := by decide +kernel
theorem dX8_entry_19 : decode cX8_entry 19 = .ok (.aload_n 0, 1) := by decide +kernel
theorem dX8_entry_20 : decode cX8_entry 20 = .ok (.getfield 28, 3) := by decide +kernel
theorem dX8_entry_23 : decode cX8_entry 23 = .ok (.invokevirtual 146, 3) := by decide +kernel
theorem dX8_entry_26 : decode cX8_entry 26 = .ok (.ifCond .ne 11, 3) := by decide +kernel
theorem dX8_entry_29 : decode cX8_entry 29 = .ok (.new 61, 3) := by decide +kernel
theorem dX8_entry_32 : decode cX8_entry 32 = .ok (.dup, 1) := by decide +kernel
theorem dX8_entry_33 : decode cX8_entry 33 = .ok (.invokespecial 63, 3) := by decide +kernel
theorem dX8_entry_36 : decode cX8_entry 36 = .ok (.athrow, 1) := by decide +kernel
theorem dX8_entry_37 : decode cX8_entry 37 = .ok (.aload_n 0, 1) := by decide +kernel
theorem dX8_entry_38 : decode cX8_entry 38 = .ok (.getfield 28, 3) := by decide +kernel
theorem dX8_entry_41 : decode cX8_entry 41 = .ok (.invokevirtual 178, 3) := by decide +kernel
theorem dX8_entry_44 : decode cX8_entry 44 = .ok (.aload_n 0, 1) := by decide +kernel
theorem dX8_entry_45 : decode cX8_entry 45 = .ok (.getfield 41, 3) := by decide +kernel
theorem dX8_entry_48 : decode cX8_entry 48 = .ok (.iload_n 1, 1) := by decide +kernel
theorem dX8_entry_49 : decode cX8_entry 49 = .ok (.iload_n 2, 1) := by decide +kernel
theorem dX8_entry_50 : decode cX8_entry 50 = .ok (.invokevirtual 184, 3) := by decide +kernel
theorem dX8_entry_53 : decode cX8_entry 53 = .ok (.ireturn, 1) := by decide +kernel
theorem dX8_isTrue_0 : decode cX8_isTrue 0 = .ok (.aload_n 0, 1) := by decide +kernel
theorem dX8_isTrue_1 : decode cX8_isTrue 1 = .ok (.getfield 19, 3) := by decide +kernel
theorem dX8_isTrue_4 : decode cX8_isTrue 4 = .ok (.iload_n 1, 1) := by decide +kernel
theorem dX8_isTrue_5 : decode cX8_isTrue 5 = .ok (.invokevirtual 121, 3) := by decide +kernel
theorem dX8_isTrue_8 : decode cX8_isTrue 8 = .ok (.ifCond .ne 11, 3) := by decide +kernel
theorem dX8_isTrue_11 : decode cX8_isTrue 11 = .ok (.new 78, 3) := by decide +kernel
theorem dX8_isTrue_14 : decode cX8_isTrue 14 = .ok (.dup, 1) := by decide +kernel
theorem dX8_isTrue_15 : decode cX8_isTrue 15 = .ok (.invokespecial 80, 3) := by decide +kernel
theorem dX8_isTrue_18 : decode cX8_isTrue 18 = .ok (.athrow, 1) := by decide +kernel
theorem dX8_isTrue_19 : decode cX8_isTrue 19 = .ok (.aload_n 0, 1) := by decide +kernel
theorem dX8_isTrue_20 : decode cX8_isTrue 20 = .ok (.getfield 28, 3) := by decide +kernel
theorem dX8_isTrue_23 : decode cX8_isTrue 23 = .ok (.invokevirtual 146, 3) := by decide +kernel
theorem dX8_isTrue_26 : decode cX8_isTrue 26 = .ok (.ifCond .ne 11, 3) := by decide +kernel
theorem dX8_isTrue_29 : decode cX8_isTrue 29 = .ok (.new 61, 3) := by decide +kernel
theorem dX8_isTrue_32 : decode cX8_isTrue 32 = .ok (.dup, 1) := by decide +kernel
theorem dX8_isTrue_33 : decode cX8_isTrue 33 = .ok (.invokespecial 63, 3) := by decide +kernel
theorem dX8_isTrue_36 : decode cX8_isTrue 36 = .ok (.athrow, 1) := by decide +kernel
theorem dX8_isTrue_37 : decode cX8_isTrue 37 = .ok (.aload_n 0, 1) := by decide +kernel
theorem dX8_isTrue_38 : decode cX8_isTrue 38 = .ok (.getfield 28, 3) := by decide +kernel
theorem dX8_isTrue_41 : decode cX8_isTrue 41 = .ok (.invokevirtual 178, 3) := by decide +kernel
theorem dX8_isTrue_44 : decode cX8_isTrue 44 = .ok (.aload_n 0, 1) := by decide +kernel
theorem dX8_isTrue_45 : decode cX8_isTrue 45 = .ok (.getfield 41, 3) := by decide +kernel
theorem dX8_isTrue_48 : decode cX8_isTrue 48 = .ok (.iload_n 1, 1) := by decide +kernel
theorem dX8_isTrue_49 : decode cX8_isTrue 49 = .ok (.invokevirtual 187, 3) := by decide +kernel
theorem dX8_isTrue_52 : decode cX8_isTrue 52 = .ok (.ireturn, 1) := by decide +kernel
theorem dX8_trueLiterals_0 : decode cX8_trueLiterals 0 = .ok (.aload_n 0, 1) := by decide +kernel
theorem dX8_trueLiterals_1 : decode cX8_trueLiterals 1 = .ok (.getfield 28, 3) := by decide +kernel
theorem dX8_trueLiterals_4 : decode cX8_trueLiterals 4 = .ok (.invokevirtual 146, 3) := by decide +kernel
theorem dX8_trueLiterals_7 : decode cX8_trueLiterals 7 = .ok (.ifCond .ne 11, 3) := by decide +kernel
theorem dX8_trueLiterals_10 : decode cX8_trueLiterals 10 = .ok (.new 61, 3) := by decide +kernel
theorem dX8_trueLiterals_13 : decode cX8_trueLiterals 13 = .ok (.dup, 1) := by decide +kernel
theorem dX8_trueLiterals_14 : decode cX8_trueLiterals 14 = .ok (.invokespecial 63, 3) := by decide +kernel
theorem dX8_trueLiterals_17 : decode cX8_trueLiterals 17 = .ok (.athrow, 1) := by decide +kernel
theorem dX8_trueLiterals_18 : decode cX8_trueLiterals 18 = .ok (.aload_n 0, 1) := by decide +kernel
theorem dX8_trueLiterals_19 : decode cX8_trueLiterals 19 = .ok (.getfield 28, 3) := by decide +kernel
theorem dX8_trueLiterals_22 : decode cX8_trueLiterals 22 = .ok (.invokevirtual 178, 3) := by decide +kernel
theorem dX8_trueLiterals_25 : decode cX8_trueLiterals 25 = .ok (.lconst 0, 1) := by decide +kernel
theorem dX8_trueLiterals_26 : decode cX8_trueLiterals 26 = .ok (.lstore_n 1, 1) := by decide +kernel
theorem dX8_trueLiterals_27 : decode cX8_trueLiterals 27 = .ok (.iconst 0, 1) := by decide +kernel
theorem dX8_trueLiterals_28 : decode cX8_trueLiterals 28 = .ok (.istore_n 3, 1) := by decide +kernel
theorem dX8_trueLiterals_29 : decode cX8_trueLiterals 29 = .ok (.iload_n 3, 1) := by decide +kernel
theorem dX8_trueLiterals_30 : decode cX8_trueLiterals 30 = .ok (.aload_n 0, 1) := by decide +kernel
theorem dX8_trueLiterals_31 : decode cX8_trueLiterals 31 = .ok (.getfield 19, 3) := by decide +kernel
theorem dX8_trueLiterals_34 : decode cX8_trueLiterals 34 = .ok (.getfield 130, 3) := by decide +kernel
theorem dX8_trueLiterals_37 : decode cX8_trueLiterals 37 = .ok (.if_icmp .ge 21, 3) := by decide +kernel
theorem dX8_trueLiterals_40 : decode cX8_trueLiterals 40 = .ok (.lload_n 1, 1) := by decide +kernel
theorem dX8_trueLiterals_41 : decode cX8_trueLiterals 41 = .ok (.aload_n 0, 1) := by decide +kernel
theorem dX8_trueLiterals_42 : decode cX8_trueLiterals 42 = .ok (.getfield 41, 3) := by decide +kernel
theorem dX8_trueLiterals_45 : decode cX8_trueLiterals 45 = .ok (.iload_n 3, 1) := by decide +kernel
theorem dX8_trueLiterals_46 : decode cX8_trueLiterals 46 = .ok (.invokevirtual 190, 3) := by decide +kernel
theorem dX8_trueLiterals_49 : decode cX8_trueLiterals 49 = .ok (.i2l, 1) := by decide +kernel
theorem dX8_trueLiterals_50 : decode cX8_trueLiterals 50 = .ok (.ladd, 1) := by decide +kernel
theorem dX8_trueLiterals_51 : decode cX8_trueLiterals 51 = .ok (.lstore_n 1, 1) := by decide +kernel
theorem dX8_trueLiterals_52 : decode cX8_trueLiterals 52 = .ok (.iinc 3 1, 3) := by decide +kernel
theorem dX8_trueLiterals_55 : decode cX8_trueLiterals 55 = .ok (.goto (-26), 3) := by decide +kernel
theorem dX8_trueLiterals_58 : decode cX8_trueLiterals 58 = .ok (.lload_n 1, 1) := by decide +kernel
theorem dX8_trueLiterals_59 : decode cX8_trueLiterals 59 = .ok (.lreturn, 1) := by decide +kernel
theorem dX8_coreShare_0 : decode cX8_coreShare 0 = .ok (.aload_n 0, 1) := by decide +kernel
theorem dX8_coreShare_1 : decode cX8_coreShare 1 = .ok (.getfield 28, 3) := by decide +kernel
theorem dX8_coreShare_4 : decode cX8_coreShare 4 = .ok (.invokevirtual 146, 3) := by decide +kernel
theorem dX8_coreShare_7 : decode cX8_coreShare 7 = .ok (.ifCond .eq 11, 3) := by decide +kernel
theorem dX8_coreShare_10 : decode cX8_coreShare 10 = .ok (.new 61, 3) := by decide +kernel
theorem dX8_coreShare_13 : decode cX8_coreShare 13 = .ok (.dup, 1) := by decide +kernel
theorem dX8_coreShare_14 : decode cX8_coreShare 14 = .ok (.invokespecial 63, 3) := by decide +kernel
theorem dX8_coreShare_17 : decode cX8_coreShare 17 = .ok (.athrow, 1) := by decide +kernel
theorem dX8_coreShare_18 : decode cX8_coreShare 18 = .ok (.aload_n 0, 1) := by decide +kernel
theorem dX8_coreShare_19 : decode cX8_coreShare 19 = .ok (.getfield 19, 3) := by decide +kernel
theorem dX8_coreShare_22 : decode cX8_coreShare 22 = .ok (.getfield 130, 3) := by decide +kernel
theorem dX8_coreShare_25 : decode cX8_coreShare 25 = .ok (.ifCond .gt 5, 3) := by decide +kernel
theorem dX8_coreShare_28 : decode cX8_coreShare 28 = .ok (.fconst 0, 1) := by decide +kernel
theorem dX8_coreShare_29 : decode cX8_coreShare 29 = .ok (.freturn, 1) := by decide +kernel
theorem dX8_coreShare_30 : decode cX8_coreShare 30 = .ok (.aload_n 0, 1) := by decide +kernel
theorem dX8_coreShare_31 : decode cX8_coreShare 31 = .ok (.getfield 28, 3) := by decide +kernel
theorem dX8_coreShare_34 : decode cX8_coreShare 34 = .ok (.iconst (-1), 1) := by decide +kernel
theorem dX8_coreShare_35 : decode cX8_coreShare 35 = .ok (.invokevirtual 149, 3) := by decide +kernel
theorem dX8_coreShare_38 : decode cX8_coreShare 38 = .ok (.invokestatic 152, 3) := by decide +kernel
theorem dX8_coreShare_41 : decode cX8_coreShare 41 = .ok (.i2f, 1) := by decide +kernel
theorem dX8_coreShare_42 : decode cX8_coreShare 42 = .ok (.aload_n 0, 1) := by decide +kernel
theorem dX8_coreShare_43 : decode cX8_coreShare 43 = .ok (.getfield 19, 3) := by decide +kernel
theorem dX8_coreShare_46 : decode cX8_coreShare 46 = .ok (.getfield 130, 3) := by decide +kernel
theorem dX8_coreShare_49 : decode cX8_coreShare 49 = .ok (.i2f, 1) := by decide +kernel
theorem dX8_coreShare_50 : decode cX8_coreShare 50 = .ok (.fdiv, 1) := by decide +kernel
theorem dX8_coreShare_51 : decode cX8_coreShare 51 = .ok (.freturn, 1) := by decide +kernel
theorem dX8_meanValue_0 : decode cX8_meanValue 0 = .ok (.aload_n 0, 1) := by decide +kernel
theorem dX8_meanValue_1 : decode cX8_meanValue 1 = .ok (.getfield 28, 3) := by decide +kernel
theorem dX8_meanValue_4 : decode cX8_meanValue 4 = .ok (.invokevirtual 146, 3) := by decide +kernel
theorem dX8_meanValue_7 : decode cX8_meanValue 7 = .ok (.ifCond .ne 11, 3) := by decide +kernel
theorem dX8_meanValue_10 : decode cX8_meanValue 10 = .ok (.new 61, 3) := by decide +kernel
theorem dX8_meanValue_13 : decode cX8_meanValue 13 = .ok (.dup, 1) := by decide +kernel
theorem dX8_meanValue_14 : decode cX8_meanValue 14 = .ok (.invokespecial 63, 3) := by decide +kernel
theorem dX8_meanValue_17 : decode cX8_meanValue 17 = .ok (.athrow, 1) := by decide +kernel
theorem dX8_meanValue_18 : decode cX8_meanValue 18 = .ok (.aload_n 0, 1) := by decide +kernel
theorem dX8_meanValue_19 : decode cX8_meanValue 19 = .ok (.getfield 28, 3) := by decide +kernel
theorem dX8_meanValue_22 : decode cX8_meanValue 22 = .ok (.invokevirtual 178, 3) := by decide +kernel
theorem dX8_meanValue_25 : decode cX8_meanValue 25 = .ok (.lconst 0, 1) := by decide +kernel
theorem dX8_meanValue_26 : decode cX8_meanValue 26 = .ok (.lstore_n 1, 1) := by decide +kernel
theorem dX8_meanValue_27 : decode cX8_meanValue 27 = .ok (.iconst 0, 1) := by decide +kernel
theorem dX8_meanValue_28 : decode cX8_meanValue 28 = .ok (.istore_n 3, 1) := by decide +kernel
theorem dX8_meanValue_29 : decode cX8_meanValue 29 = .ok (.iconst 0, 1) := by decide +kernel
theorem dX8_meanValue_30 : decode cX8_meanValue 30 = .ok (.istore 4, 2) := by decide +kernel
theorem dX8_meanValue_32 : decode cX8_meanValue 32 = .ok (.iload 4, 2) := by decide +kernel
theorem dX8_meanValue_34 : decode cX8_meanValue 34 = .ok (.aload_n 0, 1) := by decide +kernel
theorem dX8_meanValue_35 : decode cX8_meanValue 35 = .ok (.getfield 10, 3) := by decide +kernel
theorem dX8_meanValue_38 : decode cX8_meanValue 38 = .ok (.getfield 87, 3) := by decide +kernel
theorem dX8_meanValue_41 : decode cX8_meanValue 41 = .ok (.if_icmp .ge 38, 3) := by decide +kernel
theorem dX8_meanValue_44 : decode cX8_meanValue 44 = .ok (.aload_n 0, 1) := by decide +kernel
theorem dX8_meanValue_45 : decode cX8_meanValue 45 = .ok (.getfield 10, 3) := by decide +kernel
theorem dX8_meanValue_48 : decode cX8_meanValue 48 = .ok (.iload 4, 2) := by decide +kernel
theorem dX8_meanValue_50 : decode cX8_meanValue 50 = .ok (.invokevirtual 74, 3) := by decide +kernel
theorem dX8_meanValue_53 : decode cX8_meanValue 53 = .ok (.ifCond .eq 20, 3) := by decide +kernel
theorem dX8_meanValue_56 : decode cX8_meanValue 56 = .ok (.lload_n 1, 1) := by decide +kernel
theorem dX8_meanValue_57 : decode cX8_meanValue 57 = .ok (.aload_n 0, 1) := by decide +kernel
theorem dX8_meanValue_58 : decode cX8_meanValue 58 = .ok (.getfield 28, 3) := by decide +kernel
theorem dX8_meanValue_61 : decode cX8_meanValue 61 = .ok (.getfield 34, 3) := by decide +kernel
theorem dX8_meanValue_64 : decode cX8_meanValue 64 = .ok (.iload 4, 2) := by decide +kernel
theorem dX8_meanValue_66 : decode cX8_meanValue 66 = .ok (.iaload, 1) := by decide +kernel
theorem dX8_meanValue_67 : decode cX8_meanValue 67 = .ok (.i2l, 1) := by decide +kernel
theorem dX8_meanValue_68 : decode cX8_meanValue 68 = .ok (.ladd, 1) := by decide +kernel
theorem dX8_meanValue_69 : decode cX8_meanValue 69 = .ok (.lstore_n 1, 1) := by decide +kernel
theorem dX8_meanValue_70 : decode cX8_meanValue 70 = .ok (.iinc 3 1, 3) := by decide +kernel
theorem dX8_meanValue_73 : decode cX8_meanValue 73 = .ok (.iinc 4 1, 3) := by decide +kernel
theorem dX8_meanValue_76 : decode cX8_meanValue 76 = .ok (.goto (-44), 3) := by decide +kernel
theorem dX8_meanValue_79 : decode cX8_meanValue 79 = .ok (.iload_n 3, 1) := by decide +kernel
theorem dX8_meanValue_80 : decode cX8_meanValue 80 = .ok (.ifCond .ne 11, 3) := by decide +kernel
theorem dX8_meanValue_83 : decode cX8_meanValue 83 = .ok (.new 193, 3) := by decide +kernel
theorem dX8_meanValue_86 : decode cX8_meanValue 86 = .ok (.dup, 1) := by decide +kernel
theorem dX8_meanValue_87 : decode cX8_meanValue 87 = .ok (.invokespecial 195, 3) := by decide +kernel
theorem dX8_meanValue_90 : decode cX8_meanValue 90 = .ok (.athrow, 1) := by decide +kernel
theorem dX8_meanValue_91 : decode cX8_meanValue 91 = .ok (.lload_n 1, 1) := by decide +kernel
theorem dX8_meanValue_92 : decode cX8_meanValue 92 = .ok (.l2d, 1) := by decide +kernel
theorem dX8_meanValue_93 : decode cX8_meanValue 93 = .ok (.iload_n 3, 1) := by decide +kernel
theorem dX8_meanValue_94 : decode cX8_meanValue 94 = .ok (.i2d, 1) := by decide +kernel
theorem dX8_meanValue_95 : decode cX8_meanValue 95 = .ok (.ddiv, 1) := by decide +kernel
theorem dX8_meanValue_96 : decode cX8_meanValue 96 = .ok (.dreturn, 1) := by decide +kernel
theorem dX8_isSound_0 : decode cX8_isSound 0 = .ok (.aload_n 0, 1) := by decide +kernel
theorem dX8_isSound_1 : decode cX8_isSound 1 = .ok (.getfield 28, 3) := by decide +kernel
theorem dX8_isSound_4 : decode cX8_isSound 4 = .ok (.invokevirtual 146, 3) := by decide +kernel
theorem dX8_isSound_7 : decode cX8_isSound 7 = .ok (.ifCond .ne 19, 3) := by decide +kernel
theorem dX8_isSound_10 : decode cX8_isSound 10 = .ok (.aload_n 0, 1) := by decide +kernel
theorem dX8_isSound_11 : decode cX8_isSound 11 = .ok (.getfield 28, 3) := by decide +kernel
theorem dX8_isSound_14 : decode cX8_isSound 14 = .ok (.aload_n 0, 1) := by decide +kernel
theorem dX8_isSound_15 : decode cX8_isSound 15 = .ok (.getfield 28, 3) := by decide +kernel
theorem dX8_isSound_18 : decode cX8_isSound 18 = .ok (.iconst (-1), 1) := by decide +kernel
theorem dX8_isSound_19 : decode cX8_isSound 19 = .ok (.invokevirtual 149, 3) := by decide +kernel
theorem dX8_isSound_22 : decode cX8_isSound 22 = .ok (.invokevirtual 196, 3) := by decide +kernel
theorem dX8_isSound_25 : decode cX8_isSound 25 = .ok (.ireturn, 1) := by decide +kernel
theorem dX8_isSound_26 : decode cX8_isSound 26 = .ok (.aload_n 0, 1) := by decide +kernel
theorem dX8_isSound_27 : decode cX8_isSound 27 = .ok (.getfield 28, 3) := by decide +kernel
theorem dX8_isSound_30 : decode cX8_isSound 30 = .ok (.invokevirtual 178, 3) := by decide +kernel
theorem dX8_isSound_33 : decode cX8_isSound 33 = .ok (.aload_n 0, 1) := by decide +kernel
theorem dX8_isSound_34 : decode cX8_isSound 34 = .ok (.getfield 41, 3) := by decide +kernel
theorem dX8_isSound_37 : decode cX8_isSound 37 = .ok (.invokevirtual 199, 3) := by decide +kernel
theorem dX8_isSound_40 : decode cX8_isSound 40 = .ok (.ifCond .eq 27, 3) := by decide +kernel
theorem dX8_isSound_43 : decode cX8_isSound 43 = .ok (.aload_n 0, 1) := by decide +kernel
theorem dX8_isSound_44 : decode cX8_isSound 44 = .ok (.getfield 41, 3) := by decide +kernel
theorem dX8_isSound_47 : decode cX8_isSound 47 = .ok (.invokevirtual 202, 3) := by decide +kernel
theorem dX8_isSound_50 : decode cX8_isSound 50 = .ok (.ifCond .eq 17, 3) := by decide +kernel
theorem dX8_isSound_53 : decode cX8_isSound 53 = .ok (.aload_n 0, 1) := by decide +kernel
theorem dX8_isSound_54 : decode cX8_isSound 54 = .ok (.getfield 41, 3) := by decide +kernel
theorem dX8_isSound_57 : decode cX8_isSound 57 = .ok (.invokevirtual 205, 3) := by decide +kernel
theorem dX8_isSound_60 : decode cX8_isSound 60 = .ok (.ifCond .eq 7, 3) := by decide +kernel
theorem dX8_isSound_63 : decode cX8_isSound 63 = .ok (.iconst 1, 1) := by decide +kernel
theorem dX8_isSound_64 : decode cX8_isSound 64 = .ok (.goto 4, 3) := by decide +kernel
theorem dX8_isSound_67 : decode cX8_isSound 67 = .ok (.iconst 0, 1) := by decide +kernel
theorem dX8_isSound_68 : decode cX8_isSound 68 = .ok (.ireturn, 1) := by decide +kernel
theorem dX8_numberInSet_0 : decode cX8_numberInSet 0 = .ok (.iload_n 0, 1) := by decide +kernel
theorem dX8_numberInSet_1 : decode cX8_numberInSet 1 = .ok (.istore_n 2, 1) := by decide +kernel
theorem dX8_numberInSet_2 : decode cX8_numberInSet 2 = .ok (.iconst 0, 1) := by decide +kernel
theorem dX8_numberInSet_3 : decode cX8_numberInSet 3 = .ok (.istore_n 3, 1) := by decide +kernel
theorem dX8_numberInSet_4 : decode cX8_numberInSet 4 = .ok (.iload_n 3, 1) := by decide +kernel
theorem dX8_numberInSet_5 : decode cX8_numberInSet 5 = .ok (.iload_n 1, 1) := by decide +kernel
theorem dX8_numberInSet_6 : decode cX8_numberInSet 6 = .ok (.if_icmp .ge 15, 3) := by decide +kernel
theorem dX8_numberInSet_9 : decode cX8_numberInSet 9 = .ok (.iload_n 2, 1) := by decide +kernel
theorem dX8_numberInSet_10 : decode cX8_numberInSet 10 = .ok (.iload_n 2, 1) := by decide +kernel
theorem dX8_numberInSet_11 : decode cX8_numberInSet 11 = .ok (.iconst 1, 1) := by decide +kernel
theorem dX8_numberInSet_12 : decode cX8_numberInSet 12 = .ok (.isub, 1) := by decide +kernel
theorem dX8_numberInSet_13 : decode cX8_numberInSet 13 = .ok (.iand, 1) := by decide +kernel
theorem dX8_numberInSet_14 : decode cX8_numberInSet 14 = .ok (.istore_n 2, 1) := by decide +kernel
theorem dX8_numberInSet_15 : decode cX8_numberInSet 15 = .ok (.iinc 3 1, 3) := by decide +kernel
theorem dX8_numberInSet_18 : decode cX8_numberInSet 18 = .ok (.goto (-14), 3) := by decide +kernel
theorem dX8_numberInSet_21 : decode cX8_numberInSet 21 = .ok (.iload_n 2, 1) := by decide +kernel
theorem dX8_numberInSet_22 : decode cX8_numberInSet 22 = .ok (.invokestatic 208, 3) := by decide +kernel
theorem dX8_numberInSet_25 : decode cX8_numberInSet 25 = .ok (.ireturn, 1) := by decide +kernel
