theorem dX9_isLost_71 : decode cX9_isLost 71 = .ok (.iaload, 1) := by decide +kernel
theorem dX9_isLost_72 : decode cX9_isLost 72 = .ok (.aload_n 0, 1) := by decide +kernel
theorem dX9_isLost_73 : decode cX9_isLost 73 = .ok (.getfield 66, 3) := by decide +kernel
theorem dX9_isLost_76 : decode cX9_isLost 76 = .ok (.iload_n 1, 1) := by decide +kernel
theorem dX9_isLost_77 : decode cX9_isLost 77 = .ok (.iaload, 1) := by decide +kernel
theorem dX9_isLost_78 : decode cX9_isLost 78 = .ok (.iadd, 1) := by decide +kernel
theorem dX9_isLost_79 : decode cX9_isLost 79 = .ok (.ifCond .ge 7, 3) := by decide +kernel
theorem dX9_isLost_82 : decode cX9_isLost 82 = .ok (.iconst 1, 1) := by decide +kernel
theorem dX9_isLost_83 : decode cX9_isLost 83 = .ok (.goto 4, 3) := by decide +kernel
theorem dX9_isLost_86 : decode cX9_isLost 86 = .ok (.iconst 0, 1) := by decide +kernel
theorem dX9_isLost_87 : decode cX9_isLost 87 = .ok (.ireturn, 1) := by decide +kernel
theorem dX9_bounds_0 : decode cX9_bounds 0 = .ok (.aload_n 0, 1) := by decide +kernel
theorem dX9_bounds_1 : decode cX9_bounds 1 = .ok (.getfield 82, 3) := by decide +kernel
theorem dX9_bounds_4 : decode cX9_bounds 4 = .ok (.aload_n 0, 1) := by decide +kernel
theorem dX9_bounds_5 : decode cX9_bounds 5 = .ok (.iload_n 1, 1) := by decide +kernel
theorem dX9_bounds_6 : decode cX9_bounds 6 = .ok (.iload_n 2, 1) := by decide +kernel
theorem dX9_bounds_7 : decode cX9_bounds 7 = .ok (.invokevirtual 194, 3) := by decide +kernel
theorem dX9_bounds_10 : decode cX9_bounds 10 = .ok (.iaload, 1) := by decide +kernel
theorem dX9_bounds_11 : decode cX9_bounds 11 = .ok (.iload_n 3, 1) := by decide +kernel
theorem dX9_bounds_12 : decode cX9_bounds 12 = .ok (.if_icmp .gt 4, 3) := by decide +kernel
theorem dX9_bounds_15 : decode cX9_bounds 15 = .ok (.return_, 1) := by decide +kernel
theorem dX9_bounds_16 : decode cX9_bounds 16 = .ok (.iconst 0, 1) := by decide +kernel
theorem dX9_bounds_17 : decode cX9_bounds 17 = .ok (.istore 4, 2) := by decide +kernel
theorem dX9_bounds_19 : decode cX9_bounds 19 = .ok (.iload 4, 2) := by decide +kernel
theorem dX9_bounds_21 : decode cX9_bounds 21 = .ok (.bipush 15, 2) := by decide +kernel
theorem dX9_bounds_23 : decode cX9_bounds 23 = .ok (.if_icmp .ge 87, 3) := by decide +kernel
theorem dX9_bounds_26 : decode cX9_bounds 26 = .ok (.iconst 0, 1) := by decide +kernel
theorem dX9_bounds_27 : decode cX9_bounds 27 = .ok (.istore 5, 2) := by decide +kernel
theorem dX9_bounds_29 : decode cX9_bounds 29 = .ok (.iload 5, 2) := by decide +kernel
theorem dX9_bounds_31 : decode cX9_bounds 31 = .ok (.bipush 15, 2) := by decide +kernel
theorem dX9_bounds_33 : decode cX9_bounds 33 = .ok (.if_icmp .ge 71, 3) := by decide +kernel
theorem dX9_bounds_36 : decode cX9_bounds 36 = .ok (.aload_n 0, 1) := by decide +kernel
theorem dX9_bounds_37 : decode cX9_bounds 37 = .ok (.getfield 82, 3) := by decide +kernel
theorem dX9_bounds_40 : decode cX9_bounds 40 = .ok (.aload_n 0, 1) := by decide +kernel
theorem dX9_bounds_41 : decode cX9_bounds 41 = .ok (.iload 4, 2) := by decide +kernel
theorem dX9_bounds_43 : decode cX9_bounds 43 = .ok (.iload_n 1, 1) := by decide +kernel
theorem dX9_bounds_44 : decode cX9_bounds 44 = .ok (.invokevirtual 194, 3) := by decide +kernel
theorem dX9_bounds_47 : decode cX9_bounds 47 = .ok (.iaload, 1) := by decide +kernel
theorem dX9_bounds_48 : decode cX9_bounds 48 = .ok (.iload_n 3, 1) := by decide +kernel
theorem dX9_bounds_49 : decode cX9_bounds 49 = .ok (.iadd, 1) := by decide +kernel
theorem dX9_bounds_50 : decode cX9_bounds 50 = .ok (.aload_n 0, 1) := by decide +kernel
theorem dX9_bounds_51 : decode cX9_bounds 51 = .ok (.getfield 82, 3) := by decide +kernel
theorem dX9_bounds_54 : decode cX9_bounds 54 = .ok (.aload_n 0, 1) := by decide +kernel
theorem dX9_bounds_55 : decode cX9_bounds 55 = .ok (.iload_n 2, 1) := by decide +kernel
theorem dX9_bounds_56 : decode cX9_bounds 56 = .ok (.iload 5, 2) := by decide +kernel
theorem dX9_bounds_58 : decode cX9_bounds 58 = .ok (.invokevirtual 194, 3) := by decide +kernel
theorem dX9_bounds_61 : decode cX9_bounds 61 = .ok (.iaload, 1) := by decide +kernel
theorem dX9_bounds_62 : decode cX9_bounds 62 = .ok (.iadd, 1) := by decide +kernel
theorem dX9_bounds_63 : decode cX9_bounds 63 = .ok (.istore 6, 2) := by decide +kernel
theorem dX9_bounds_65 : decode cX9_bounds 65 = .ok (.iload 6, 2) := by decide +kernel
theorem dX9_bounds_67 : decode cX9_bounds 67 = .ok (.aload_n 0, 1) := by decide +kernel
theorem dX9_bounds_68 : decode cX9_bounds 68 = .ok (.getfield 82, 3) := by decide +kernel
theorem dX9_bounds_71 : decode cX9_bounds 71 = .ok (.aload_n 0, 1) := by decide +kernel
theorem dX9_bounds_72 : decode cX9_bounds 72 = .ok (.iload 4, 2) := by decide +kernel
theorem dX9_bounds_74 : decode cX9_bounds 74 = .ok (.iload 5, 2) := by decide +kernel
theorem dX9_bounds_76 : decode cX9_bounds 76 = .ok (.invokevirtual 194, 3) := by decide +kernel
theorem dX9_bounds_79 : decode cX9_bounds 79 = .ok (.iaload, 1) := by decide +kernel
theorem dX9_bounds_80 : decode cX9_bounds 80 = .ok (.if_icmp .ge 18, 3) := by decide +kernel
theorem dX9_bounds_83 : decode cX9_bounds 83 = .ok (.aload_n 0, 1) := by decide +kernel
theorem dX9_bounds_84 : decode cX9_bounds 84 = .ok (.getfield 82, 3) := by decide +kernel
theorem dX9_bounds_87 : decode cX9_bounds 87 = .ok (.aload_n 0, 1) := by decide +kernel
theorem dX9_bounds_88 : decode cX9_bounds 88 = .ok (.iload 4, 2) := by decide +kernel
theorem dX9_bounds_90 : decode cX9_bounds 90 = .ok (.iload 5, 2) := by decide +kernel
theorem dX9_bounds_92 : decode cX9_bounds 92 = .ok (.invokevirtual 194, 3) := by decide +kernel
theorem dX9_bounds_95 : decode cX9_bounds 95 = .ok (.iload 6, 2) := by decide +kernel
theorem dX9_bounds_97 : decode cX9_bounds 97 = .ok (.iastore, 1) := by decide +kernel
theorem dX9_bounds_98 : decode cX9_bounds 98 = .ok (.iinc 5 1, 3) := by decide +kernel
theorem dX9_bounds_101 : decode cX9_bounds 101 = .ok (.goto (-72), 3) := by decide +kernel
theorem dX9_bounds_104 : decode cX9_bounds 104 = .ok (.iinc 4 1, 3) := by decide +kernel
theorem dX9_bounds_107 : decode cX9_bounds 107 = .ok (.goto (-88), 3) := by decide +kernel
theorem dX9_bounds_110 : decode cX9_bounds 110 = .ok (.return_, 1) := by decide +kernel
theorem dX9_holds_0 : decode cX9_holds 0 = .ok (.aload_n 0, 1) := by decide +kernel
theorem dX9_holds_1 : decode cX9_holds 1 = .ok (.getfield 66, 3) := by decide +kernel
theorem dX9_holds_4 : decode cX9_holds 4 = .ok (.iload_n 1, 1) := by decide +kernel
theorem dX9_holds_5 : decode cX9_holds 5 = .ok (.iaload, 1) := by decide +kernel
theorem dX9_holds_6 : decode cX9_holds 6 = .ok (.ldc 165, 2) := by decide +kernel
theorem dX9_holds_8 : decode cX9_holds 8 = .ok (.if_icmp .eq 28, 3) := by decide +kernel
theorem dX9_holds_11 : decode cX9_holds 11 = .ok (.aload_n 0, 1) := by decide +kernel
theorem dX9_holds_12 : decode cX9_holds 12 = .ok (.aload_n 0, 1) := by decide +kernel
theorem dX9_holds_13 : decode cX9_holds 13 = .ok (.getfield 60, 3) := by decide +kernel
theorem dX9_holds_16 : decode cX9_holds 16 = .ok (.iload_n 1, 1) := by decide +kernel
theorem dX9_holds_17 : decode cX9_holds 17 = .ok (.iaload, 1) := by decide +kernel
theorem dX9_holds_18 : decode cX9_holds 18 = .ok (.aload_n 0, 1) := by decide +kernel
theorem dX9_holds_19 : decode cX9_holds 19 = .ok (.getfield 63, 3) := by decide +kernel
theorem dX9_holds_22 : decode cX9_holds 22 = .ok (.iload_n 1, 1) := by decide +kernel
theorem dX9_holds_23 : decode cX9_holds 23 = .ok (.iaload, 1) := by decide +kernel
theorem dX9_holds_24 : decode cX9_holds 24 = .ok (.aload_n 0, 1) := by decide +kernel
theorem dX9_holds_25 : decode cX9_holds 25 = .ok (.getfield 66, 3) := by decide +kernel
theorem dX9_holds_28 : decode cX9_holds 28 = .ok (.iload_n 1, 1) := by decide +kernel
theorem dX9_holds_29 : decode cX9_holds 29 = .ok (.iaload, 1) := by decide +kernel
theorem dX9_holds_30 : decode cX9_holds 30 = .ok (.invokevirtual 198, 3) := by decide +kernel
theorem dX9_holds_33 : decode cX9_holds 33 = .ok (.goto 37, 3) := by decide +kernel
theorem dX9_holds_36 : decode cX9_holds 36 = .ok (.aload_n 0, 1) := by decide +kernel
theorem dX9_holds_37 : decode cX9_holds 37 = .ok (.aload_n 0, 1) := by decide +kernel
theorem dX9_holds_38 : decode cX9_holds 38 = .ok (.getfield 60, 3) := by decide +kernel
theorem dX9_holds_41 : decode cX9_holds 41 = .ok (.iload_n 1, 1) := by decide +kernel
theorem dX9_holds_42 : decode cX9_holds 42 = .ok (.iaload, 1) := by decide +kernel
theorem dX9_holds_43 : decode cX9_holds 43 = .ok (.aload_n 0, 1) := by decide +kernel
theorem dX9_holds_44 : decode cX9_holds 44 = .ok (.getfield 63, 3) := by decide +kernel
theorem dX9_holds_47 : decode cX9_holds 47 = .ok (.iload_n 1, 1) := by decide +kernel
theorem dX9_holds_48 : decode cX9_holds 48 = .ok (.iaload, 1) := by decide +kernel
theorem dX9_holds_49 : decode cX9_holds 49 = .ok (.iconst 0, 1) := by decide +kernel
theorem dX9_holds_50 : decode cX9_holds 50 = .ok (.invokevirtual 198, 3) := by decide +kernel
theorem dX9_holds_53 : decode cX9_holds 53 = .ok (.aload_n 0, 1) := by decide +kernel
theorem dX9_holds_54 : decode cX9_holds 54 = .ok (.aload_n 0, 1) := by decide +kernel
theorem dX9_holds_55 : decode cX9_holds 55 = .ok (.getfield 63, 3) := by decide +kernel
theorem dX9_holds_58 : decode cX9_holds 58 = .ok (.iload_n 1, 1) := by decide +kernel
theorem dX9_holds_59 : decode cX9_holds 59 = .ok (.iaload, 1) := by decide +kernel
theorem dX9_holds_60 : decode cX9_holds 60 = .ok (.aload_n 0, 1) := by decide +kernel
theorem dX9_holds_61 : decode cX9_holds 61 = .ok (.getfield 60, 3) := by decide +kernel
theorem dX9_holds_64 : decode cX9_holds 64 = .ok (.iload_n 1, 1) := by decide +kernel
theorem dX9_holds_65 : decode cX9_holds 65 = .ok (.iaload, 1) := by decide +kernel
theorem dX9_holds_66 : decode cX9_holds 66 = .ok (.iconst 0, 1) := by decide +kernel
theorem dX9_holds_67 : decode cX9_holds 67 = .ok (.invokevirtual 198, 3) := by decide +kernel
theorem dX9_holds_70 : decode cX9_holds 70 = .ok (.return_, 1) := by decide +kernel
theorem dX9_base_0 : decode cX9_base 0 = .ok (.aload_n 0, 1) := by decide +kernel
theorem dX9_base_1 : decode cX9_base 1 = .ok (.getfield 72, 3) := by decide +kernel
theorem dX9_base_4 : decode cX9_base 4 = .ok (.aload_n 0, 1) := by decide +kernel
theorem dX9_base_5 : decode cX9_base 5 = .ok (.getfield 201, 3) := by decide +kernel
theorem dX9_base_8 : decode cX9_base 8 = .ok (.iload_n 1, 1) := by decide +kernel
theorem dX9_base_9 : decode cX9_base 9 = .ok (.iastore, 1) := by decide +kernel
theorem dX9_base_10 : decode cX9_base 10 = .ok (.aload_n 0, 1) := by decide +kernel
theorem dX9_base_11 : decode cX9_base 11 = .ok (.getfield 75, 3) := by decide +kernel
theorem dX9_base_14 : decode cX9_base 14 = .ok (.aload_n 0, 1) := by decide +kernel
theorem dX9_base_15 : decode cX9_base 15 = .ok (.getfield 201, 3) := by decide +kernel
theorem dX9_base_18 : decode cX9_base 18 = .ok (.iload_n 2, 1) := by decide +kernel
theorem dX9_base_19 : decode cX9_base 19 = .ok (.iastore, 1) := by decide +kernel
theorem dX9_base_20 : decode cX9_base 20 = .ok (.aload_n 0, 1) := by decide +kernel
theorem dX9_base_21 : decode cX9_base 21 = .ok (.getfield 78, 3) := by decide +kernel
theorem dX9_base_24 : decode cX9_base 24 = .ok (.aload_n 0, 1) := by decide +kernel
theorem dX9_base_25 : decode cX9_base 25 = .ok (.getfield 201, 3) := by decide +kernel
theorem dX9_base_28 : decode cX9_base 28 = .ok (.iload_n 3, 1) := by decide +kernel
theorem dX9_base_29 : decode cX9_base 29 = .ok (.iastore, 1) := by decide +kernel
theorem dX9_base_30 : decode cX9_base 30 = .ok (.aload_n 0, 1) := by decide +kernel
theorem dX9_base_31 : decode cX9_base 31 = .ok (.dup, 1) := by decide +kernel
theorem dX9_base_32 : decode cX9_base 32 = .ok (.getfield 201, 3) := by decide +kernel
theorem dX9_base_35 : decode cX9_base 35 = .ok (.iconst 1, 1) := by decide +kernel
theorem dX9_base_36 : decode cX9_base 36 = .ok (.iadd, 1) := by decide +kernel
theorem dX9_base_37 : decode cX9_base 37 = .ok (.putfield 201, 3) := by decide +kernel
theorem dX9_base_40 : decode cX9_base 40 = .ok (.return_, 1) := by decide +kernel
theorem dX9_isBroken_0 : decode cX9_isBroken 0 = .ok (.iconst 0, 1) := by decide +kernel
theorem dX9_isBroken_1 : decode cX9_isBroken 1 = .ok (.istore_n 1, 1) := by decide +kernel
theorem dX9_isBroken_2 : decode cX9_isBroken 2 = .ok (.iconst 0, 1) := by decide +kernel
theorem dX9_isBroken_3 : decode cX9_isBroken 3 = .ok (.istore_n 2, 1) := by decide +kernel
theorem dX9_isBroken_4 : decode cX9_isBroken 4 = .ok (.iload_n 2, 1) := by decide +kernel
theorem dX9_isBroken_5 : decode cX9_isBroken 5 = .ok (.bipush 15, 2) := by decide +kernel
theorem dX9_isBroken_7 : decode cX9_isBroken 7 = .ok (.if_icmp .ge 31, 3) := by decide +kernel
theorem dX9_isBroken_10 : decode cX9_isBroken 10 = .ok (.iload_n 1, 1) := by decide +kernel
theorem dX9_isBroken_11 : decode cX9_isBroken 11 = .ok (.aload_n 0, 1) := by decide +kernel
theorem dX9_isBroken_12 : decode cX9_isBroken 12 = .ok (.getfield 82, 3) := by decide +kernel
theorem dX9_isBroken_15 : decode cX9_isBroken 15 = .ok (.aload_n 0, 1) := by decide +kernel
theorem dX9_isBroken_16 : decode cX9_isBroken 16 = .ok (.iload_n 2, 1) := by decide +kernel
theorem dX9_isBroken_17 : decode cX9_isBroken 17 = .ok (.iload_n 2, 1) := by decide +kernel
theorem dX9_isBroken_18 : decode cX9_isBroken 18 = .ok (.invokevirtual 194, 3) := by decide +kernel
theorem dX9_isBroken_21 : decode cX9_isBroken 21 = .ok (.iaload, 1) := by decide +kernel
theorem dX9_isBroken_22 : decode cX9_isBroken 22 = .ok (.ifCond .ge 7, 3) := by decide +kernel
theorem dX9_isBroken_25 : decode cX9_isBroken 25 = .ok (.iconst 1, 1) := by decide +kernel
theorem dX9_isBroken_26 : decode cX9_isBroken 26 = .ok (.goto 4, 3) := by decide +kernel
theorem dX9_isBroken_29 : decode cX9_isBroken 29 = .ok (.iconst 0, 1) := by decide +kernel
theorem dX9_isBroken_30 : decode cX9_isBroken 30 = .ok (.ior, 1) := by decide +kernel
theorem dX9_isBroken_31 : decode cX9_isBroken 31 = .ok (.istore_n 1, 1) := by decide +kernel
theorem dX9_isBroken_32 : decode cX9_isBroken 32 = .ok (.iinc 2 1, 3) := by decide +kernel
theorem dX9_isBroken_35 : decode cX9_isBroken 35 = .ok (.goto (-31), 3) := by decide +kernel
theorem dX9_isBroken_38 : decode cX9_isBroken 38 = .ok (.iload_n 1, 1) := by decide +kernel
theorem dX9_isBroken_39 : decode cX9_isBroken 39 = .ok (.ireturn, 1) := by decide +kernel
theorem dX9_begins_0 : decode cX9_begins 0 = .ok (.aload_n 0, 1) := by decide +kernel
theorem dX9_begins_1 : decode cX9_begins 1 = .ok (.iconst 0, 1) := by decide +kernel
theorem dX9_begins_2 : decode cX9_begins 2 = .ok (.putfield 191, 3) := by decide +kernel
theorem dX9_begins_5 : decode cX9_begins 5 = .ok (.iconst 0, 1) := by decide +kernel
theorem dX9_begins_6 : decode cX9_begins 6 = .ok (.istore_n 1, 1) := by decide +kernel
theorem dX9_begins_7 : decode cX9_begins 7 = .ok (.iload_n 1, 1) := by decide +kernel
theorem dX9_begins_8 : decode cX9_begins 8 = .ok (.bipush 15, 2) := by decide +kernel
theorem dX9_begins_10 : decode cX9_begins 10 = .ok (.if_icmp .ge 45, 3) := by decide +kernel
theorem dX9_begins_13 : decode cX9_begins 13 = .ok (.iconst 0, 1) := by decide +kernel
theorem dX9_begins_14 : decode cX9_begins 14 = .ok (.istore_n 2, 1) := by decide +kernel
theorem dX9_begins_15 : decode cX9_begins 15 = .ok (.iload_n 2, 1) := by decide +kernel
theorem dX9_begins_16 : decode cX9_begins 16 = .ok (.bipush 15, 2) := by decide +kernel
theorem dX9_begins_18 : decode cX9_begins 18 = .ok (.if_icmp .ge 31, 3) := by decide +kernel
theorem dX9_begins_21 : decode cX9_begins 21 = .ok (.aload_n 0, 1) := by decide +kernel
theorem dX9_begins_22 : decode cX9_begins 22 = .ok (.getfield 82, 3) := by decide +kernel
theorem dX9_begins_25 : decode cX9_begins 25 = .ok (.aload_n 0, 1) := by decide +kernel
theorem dX9_begins_26 : decode cX9_begins 26 = .ok (.iload_n 1, 1) := by decide +kernel
theorem dX9_begins_27 : decode cX9_begins 27 = .ok (.iload_n 2, 1) := by decide +kernel
theorem dX9_begins_28 : decode cX9_begins 28 = .ok (.invokevirtual 194, 3) := by decide +kernel
theorem dX9_begins_31 : decode cX9_begins 31 = .ok (.iload_n 1, 1) := by decide +kernel
theorem dX9_begins_32 : decode cX9_begins 32 = .ok (.iload_n 2, 1) := by decide +kernel
theorem dX9_begins_33 : decode cX9_begins 33 = .ok (.if_icmp .ne 7, 3) := by decide +kernel
theorem dX9_begins_36 : decode cX9_begins 36 = .ok (.iconst 0, 1) := by decide +kernel
theorem dX9_begins_37 : decode cX9_begins 37 = .ok (.goto 5, 3) := by decide +kernel
theorem dX9_begins_40 : decode cX9_begins 40 = .ok (.ldc 204, 2) := by decide +kernel
theorem dX9_begins_42 : decode cX9_begins 42 = .ok (.iastore, 1) := by decide +kernel
theorem dX9_begins_43 : decode cX9_begins 43 = .ok (.iinc 2 1, 3) := by decide +kernel
theorem dX9_begins_46 : decode cX9_begins 46 = .ok (.goto (-31), 3) := by decide +kernel
theorem dX9_begins_49 : decode cX9_begins 49 = .ok (.iinc 1 1, 3) := by decide +kernel
theorem dX9_begins_52 : decode cX9_begins 52 = .ok (.goto (-45), 3) := by decide +kernel
theorem dX9_begins_55 : decode cX9_begins 55 = .ok (.iconst 0, 1) := by decide +kernel
theorem dX9_begins_56 : decode cX9_begins 56 = .ok (.istore_n 1, 1) := by decide +kernel
theorem dX9_begins_57 : decode cX9_begins 57 = .ok (.iload_n 1, 1) := by decide +kernel
theorem dX9_begins_58 : decode cX9_begins 58 = .ok (.aload_n 0, 1) := by decide +kernel
theorem dX9_begins_59 : decode cX9_begins 59 = .ok (.getfield 201, 3) := by decide +kernel
theorem dX9_begins_62 : decode cX9_begins 62 = .ok (.if_icmp .ge 31, 3) := by decide +kernel
theorem dX9_begins_65 : decode cX9_begins 65 = .ok (.aload_n 0, 1) := by decide +kernel
theorem dX9_begins_66 : decode cX9_begins 66 = .ok (.aload_n 0, 1) := by decide +kernel
theorem dX9_begins_67 : decode cX9_begins 67 = .ok (.getfield 72, 3) := by decide +kernel
theorem dX9_begins_70 : decode cX9_begins 70 = .ok (.iload_n 1, 1) := by decide +kernel
theorem dX9_begins_71 : decode cX9_begins 71 = .ok (.iaload, 1) := by decide +kernel
theorem dX9_begins_72 : decode cX9_begins 72 = .ok (.aload_n 0, 1) := by decide +kernel
theorem dX9_begins_73 : decode cX9_begins 73 = .ok (.getfield 75, 3) := by decide +kernel
theorem dX9_begins_76 : decode cX9_begins 76 = .ok (.iload_n 1, 1) := by decide +kernel
theorem dX9_begins_77 : decode cX9_begins 77 = .ok (.iaload, 1) := by decide +kernel
theorem dX9_begins_78 : decode cX9_begins 78 = .ok (.aload_n 0, 1) := by decide +kernel
theorem dX9_begins_79 : decode cX9_begins 79 = .ok (.getfield 78, 3) := by decide +kernel
theorem dX9_begins_82 : decode cX9_begins 82 = .ok (.iload_n 1, 1) := by decide +kernel
theorem dX9_begins_83 : decode cX9_begins 83 = .ok (.iaload, 1) := by decide +kernel
theorem dX9_begins_84 : decode cX9_begins 84 = .ok (.invokevirtual 198, 3) := by decide +kernel
theorem dX9_begins_87 : decode cX9_begins 87 = .ok (.iinc 1 1, 3) := by decide +kernel
theorem dX9_begins_90 : decode cX9_begins 90 = .ok (.goto (-33), 3) := by decide +kernel
theorem dX9_begins_93 : decode cX9_begins 93 = .ok (.aload_n 0, 1) := by decide +kernel
theorem dX9_begins_94 : decode cX9_begins 94 = .ok (.invokevirtual 205, 3) := by decide +kernel
theorem dX9_begins_97 : decode cX9_begins 97 = .ok (.ifCond .ne 7, 3) := by decide +kernel
theorem dX9_begins_100 : decode cX9_begins 100 = .ok (.iconst 1, 1) := by decide +kernel
theorem dX9_begins_101 : decode cX9_begins 101 = .ok (.goto 4, 3) := by decide +kernel
theorem dX9_begins_104 : decode cX9_begins 104 = .ok (.iconst 0, 1) := by decide +kernel
theorem dX9_begins_105 : decode cX9_begins 105 = .ok (.ireturn, 1) := by decide +kernel
theorem dX9_narrow_0 : decode cX9_narrow 0 = .ok (.iconst (-1), 1) := by decide +kernel
theorem dX9_narrow_1 : decode cX9_narrow 1 = .ok (.istore_n 1, 1) := by decide +kernel
theorem dX9_narrow_2 : decode cX9_narrow 2 = .ok (.ldc 204, 2) := by decide +kernel
theorem dX9_narrow_4 : decode cX9_narrow 4 = .ok (.istore_n 2, 1) := by decide +kernel
theorem dX9_narrow_5 : decode cX9_narrow 5 = .ok (.iconst 0, 1) := by decide +kernel
theorem dX9_narrow_6 : decode cX9_narrow 6 = .ok (.istore_n 3, 1) := by decide +kernel
theorem dX9_narrow_7 : decode cX9_narrow 7 = .ok (.iload_n 3, 1) := by decide +kernel
theorem dX9_narrow_8 : decode cX9_narrow 8 = .ok (.aload_n 0, 1) := by decide +kernel
theorem dX9_narrow_9 : decode cX9_narrow 9 = .ok (.getfield 162, 3) := by decide +kernel
theorem dX9_narrow_12 : decode cX9_narrow 12 = .ok (.if_icmp .ge 130, 3) := by decide +kernel
theorem dX9_narrow_15 : decode cX9_narrow 15 = .ok (.iload_n 3, 1) := by decide +kernel
theorem dX9_narrow_16 : decode cX9_narrow 16 = .ok (.bipush 14, 2) := by decide +kernel
theorem dX9_narrow_18 : decode cX9_narrow 18 = .ok (.if_icmp .ge 23, 3) := by decide +kernel
theorem dX9_narrow_21 : decode cX9_narrow 21 = .ok (.iload_n 3, 1) := by decide +kernel
theorem dX9_narrow_22 : decode cX9_narrow 22 = .ok (.aload_n 0, 1) := by decide +kernel
theorem dX9_narrow_23 : decode cX9_narrow 23 = .ok (.getfield 146, 3) := by decide +kernel
theorem dX9_narrow_26 : decode cX9_narrow 26 = .ok (.if_icmp .ge 110, 3) := by decide +kernel
theorem dX9_narrow_29 : decode cX9_narrow 29 = .ok (.aload_n 0, 1) := by decide +kernel
theorem dX9_narrow_30 : decode cX9_narrow 30 = .ok (.getfield 45, 3) := by decide +kernel
theorem dX9_narrow_33 : decode cX9_narrow 33 = .ok (.iload_n 3, 1) := by decide +kernel
theorem dX9_narrow_34 : decode cX9_narrow 34 = .ok (.baload, 1) := by decide +kernel
theorem dX9_narrow_35 : decode cX9_narrow 35 = .ok (.ifCond .ne 6, 3) := by decide +kernel
theorem dX9_narrow_38 : decode cX9_narrow 38 = .ok (.goto 98, 3) := by decide +kernel
theorem dX9_narrow_41 : decode cX9_narrow 41 = .ok (.iconst 0, 1) := by decide +kernel
theorem dX9_narrow_42 : decode cX9_narrow 42 = .ok (.istore 4, 2) := by decide +kernel
theorem dX9_narrow_44 : decode cX9_narrow 44 = .ok (.iconst 0, 1) := by decide +kernel
theorem dX9_narrow_45 : decode cX9_narrow 45 = .ok (.istore 5, 2) := by decide +kernel
theorem dX9_narrow_47 : decode cX9_narrow 47 = .ok (.aload_n 0, 1) := by decide +kernel
theorem dX9_narrow_48 : decode cX9_narrow 48 = .ok (.getfield 69, 3) := by decide +kernel
theorem dX9_narrow_51 : decode cX9_narrow 51 = .ok (.iload_n 3, 1) := by decide +kernel
theorem dX9_narrow_52 : decode cX9_narrow 52 = .ok (.iaload, 1) := by decide +kernel
theorem dX9_narrow_53 : decode cX9_narrow 53 = .ok (.istore 6, 2) := by decide +kernel
theorem dX9_narrow_55 : decode cX9_narrow 55 = .ok (.iload 5, 2) := by decide +kernel
theorem dX9_narrow_57 : decode cX9_narrow 57 = .ok (.ifCond .ne 49, 3) := by decide +kernel
theorem dX9_narrow_60 : decode cX9_narrow 60 = .ok (.iload 6, 2) := by decide +kernel
theorem dX9_narrow_62 : decode cX9_narrow 62 = .ok (.aload_n 0, 1) := by decide +kernel
theorem dX9_narrow_63 : decode cX9_narrow 63 = .ok (.getfield 69, 3) := by decide +kernel
theorem dX9_narrow_66 : decode cX9_narrow 66 = .ok (.iload_n 3, 1) := by decide +kernel
theorem dX9_narrow_67 : decode cX9_narrow 67 = .ok (.iconst 1, 1) := by decide +kernel
theorem dX9_narrow_68 : decode cX9_narrow 68 = .ok (.iadd, 1) := by decide +kernel
theorem dX9_narrow_69 : decode cX9_narrow 69 = .ok (.iaload, 1) := by decide +kernel
theorem dX9_narrow_70 : decode cX9_narrow 70 = .ok (.if_icmp .ge 36, 3) := by decide +kernel
theorem dX9_narrow_73 : decode cX9_narrow 73 = .ok (.aload_n 0, 1) := by decide +kernel
theorem dX9_narrow_74 : decode cX9_narrow 74 = .ok (.iload 6, 2) := by decide +kernel
theorem dX9_narrow_76 : decode cX9_narrow 76 = .ok (.invokevirtual 209, 3) := by decide +kernel
theorem dX9_narrow_79 : decode cX9_narrow 79 = .ok (.istore 5, 2) := by decide +kernel
theorem dX9_narrow_81 : decode cX9_narrow 81 = .ok (.iload 4, 2) := by decide +kernel
theorem dX9_narrow_83 : decode cX9_narrow 83 = .ok (.aload_n 0, 1) := by decide +kernel
theorem dX9_narrow_84 : decode cX9_narrow 84 = .ok (.iload 6, 2) := by decide +kernel
theorem dX9_narrow_86 : decode cX9_narrow 86 = .ok (.invokevirtual 212, 3) := by decide +kernel
theorem dX9_narrow_89 : decode cX9_narrow 89 = .ok (.ifCond .eq 7, 3) := by decide +kernel
theorem dX9_narrow_92 : decode cX9_narrow 92 = .ok (.iconst 0, 1) := by decide +kernel
theorem dX9_narrow_93 : decode cX9_narrow 93 = .ok (.goto 4, 3) := by decide +kernel
theorem dX9_narrow_96 : decode cX9_narrow 96 = .ok (.iconst 1, 1) := by decide +kernel
theorem dX9_narrow_97 : decode cX9_narrow 97 = .ok (.iadd, 1) := by decide +kernel
theorem dX9_narrow_98 : decode cX9_narrow 98 = .ok (.istore 4, 2) := by decide +kernel
theorem dX9_narrow_100 : decode cX9_narrow 100 = .ok (.iinc 6 1, 3) := by decide +kernel
theorem dX9_narrow_103 : decode cX9_narrow 103 = .ok (.goto (-48), 3) := by decide +kernel
theorem dX9_narrow_106 : decode cX9_narrow 106 = .ok (.iload 5, 2) := by decide +kernel
theorem dX9_narrow_108 : decode cX9_narrow 108 = .ok (.ifCond .eq 6, 3) := by decide +kernel
theorem dX9_narrow_111 : decode cX9_narrow 111 = .ok (.goto 25, 3) := by decide +kernel
theorem dX9_narrow_114 : decode cX9_narrow 114 = .ok (.iload 4, 2) := by decide +kernel
theorem dX9_narrow_116 : decode cX9_narrow 116 = .ok (.ifCond .ne 6, 3) := by decide +kernel
theorem dX9_narrow_119 : decode cX9_narrow 119 = .ok (.bipush (-2), 2) := by decide +kernel
theorem dX9_narrow_121 : decode cX9_narrow 121 = .ok (.ireturn, 1) := by decide +kernel
theorem dX9_narrow_122 : decode cX9_narrow 122 = .ok (.iload 4, 2) := by decide +kernel
theorem dX9_narrow_124 : decode cX9_narrow 124 = .ok (.iload_n 2, 1) := by decide +kernel
theorem dX9_narrow_125 : decode cX9_narrow 125 = .ok (.if_icmp .lt 6, 3) := by decide +kernel
theorem dX9_narrow_128 : decode cX9_narrow 128 = .ok (.goto 8, 3) := by decide +kernel
theorem dX9_narrow_131 : decode cX9_narrow 131 = .ok (.iload 4, 2) := by decide +kernel
theorem dX9_narrow_133 : decode cX9_narrow 133 = .ok (.istore_n 2, 1) := by decide +kernel
theorem dX9_narrow_134 : decode cX9_narrow 134 = .ok (.iload_n 3, 1) := by decide +kernel
theorem dX9_narrow_135 : decode cX9_narrow 135 = .ok (.istore_n 1, 1) := by decide +kernel
theorem dX9_narrow_136 : decode cX9_narrow 136 = .ok (.iinc 3 1, 3) := by decide +kernel
theorem dX9_narrow_139 : decode cX9_narrow 139 = .ok (.goto (-132), 3) := by decide +kernel
theorem dX9_narrow_142 : decode cX9_narrow 142 = .ok (.iload_n 1, 1) := by decide +kernel
theorem dX9_narrow_143 : decode cX9_narrow 143 = .ok (.ireturn, 1) := by decide +kernel
theorem dX9_goes_0 : decode cX9_goes 0 = .ok (.aload_n 0, 1) := by decide +kernel
theorem dX9_goes_1 : decode cX9_goes 1 = .ok (.getfield 191, 3) := by decide +kernel
theorem dX9_goes_4 : decode cX9_goes 4 = .ok (.ifCond .lt 200, 3) := by decide +kernel
theorem dX9_goes_7 : decode cX9_goes 7 = .ok (.aload_n 0, 1) := by decide +kernel
theorem dX9_goes_8 : decode cX9_goes 8 = .ok (.getfield 88, 3) := by decide +kernel
theorem dX9_goes_11 : decode cX9_goes 11 = .ok (.aload_n 0, 1) := by decide +kernel
theorem dX9_goes_12 : decode cX9_goes 12 = .ok (.getfield 191, 3) := by decide +kernel
theorem dX9_goes_15 : decode cX9_goes 15 = .ok (.iaload, 1) := by decide +kernel
theorem dX9_goes_16 : decode cX9_goes 16 = .ok (.istore_n 1, 1) := by decide +kernel
theorem dX9_goes_17 : decode cX9_goes 17 = .ok (.aload_n 0, 1) := by decide +kernel
theorem dX9_goes_18 : decode cX9_goes 18 = .ok (.getfield 69, 3) := by decide +kernel
theorem dX9_goes_21 : decode cX9_goes 21 = .ok (.aload_n 0, 1) := by decide +kernel
theorem dX9_goes_22 : decode cX9_goes 22 = .ok (.getfield 85, 3) := by decide +kernel
theorem dX9_goes_25 : decode cX9_goes 25 = .ok (.aload_n 0, 1) := by decide +kernel
theorem dX9_goes_26 : decode cX9_goes 26 = .ok (.getfield 191, 3) := by decide +kernel
theorem dX9_goes_29 : decode cX9_goes 29 = .ok (.iaload, 1) := by decide +kernel
theorem dX9_goes_30 : decode cX9_goes 30 = .ok (.iconst 1, 1) := by decide +kernel
theorem dX9_goes_31 : decode cX9_goes 31 = .ok (.iadd, 1) := by decide +kernel
theorem dX9_goes_32 : decode cX9_goes 32 = .ok (.iaload, 1) := by decide +kernel
theorem dX9_goes_33 : decode cX9_goes 33 = .ok (.istore_n 2, 1) := by decide +kernel
theorem dX9_goes_34 : decode cX9_goes 34 = .ok (.iload_n 1, 1) := by decide +kernel
theorem dX9_goes_35 : decode cX9_goes 35 = .ok (.iload_n 2, 1) := by decide +kernel
theorem dX9_goes_36 : decode cX9_goes 36 = .ok (.if_icmp .ge 17, 3) := by decide +kernel
theorem dX9_goes_39 : decode cX9_goes 39 = .ok (.aload_n 0, 1) := by decide +kernel
theorem dX9_goes_40 : decode cX9_goes 40 = .ok (.iload_n 1, 1) := by decide +kernel
theorem dX9_goes_41 : decode cX9_goes 41 = .ok (.invokevirtual 212, 3) := by decide +kernel
theorem dX9_goes_44 : decode cX9_goes 44 = .ok (.ifCond .eq 9, 3) := by decide +kernel
theorem dX9_goes_47 : decode cX9_goes 47 = .ok (.iinc 1 1, 3) := by decide +kernel
theorem dX9_goes_50 : decode cX9_goes 50 = .ok (.goto (-16), 3) := by decide +kernel
theorem dX9_goes_53 : decode cX9_goes 53 = .ok (.iload_n 1, 1) := by decide +kernel
theorem dX9_goes_54 : decode cX9_goes 54 = .ok (.iload_n 2, 1) := by decide +kernel
theorem dX9_goes_55 : decode cX9_goes 55 = .ok (.if_icmp .lt 16, 3) := by decide +kernel
theorem dX9_goes_58 : decode cX9_goes 58 = .ok (.aload_n 0, 1) := by decide +kernel
theorem dX9_goes_59 : decode cX9_goes 59 = .ok (.dup, 1) := by decide +kernel
theorem dX9_goes_60 : decode cX9_goes 60 = .ok (.getfield 191, 3) := by decide +kernel
theorem dX9_goes_63 : decode cX9_goes 63 = .ok (.iconst 1, 1) := by decide +kernel
theorem dX9_goes_64 : decode cX9_goes 64 = .ok (.isub, 1) := by decide +kernel
theorem dX9_goes_65 : decode cX9_goes 65 = .ok (.putfield 191, 3) := by decide +kernel
theorem dX9_goes_68 : decode cX9_goes 68 = .ok (.goto (-68), 3) := by decide +kernel
theorem dX9_goes_71 : decode cX9_goes 71 = .ok (.aload_n 0, 1) := by decide +kernel
theorem dX9_goes_72 : decode cX9_goes 72 = .ok (.getfield 88, 3) := by decide +kernel
theorem dX9_goes_75 : decode cX9_goes 75 = .ok (.aload_n 0, 1) := by decide +kernel
theorem dX9_goes_76 : decode cX9_goes 76 = .ok (.getfield 191, 3) := by decide +kernel
theorem dX9_goes_79 : decode cX9_goes 79 = .ok (.iload_n 1, 1) := by decide +kernel
theorem dX9_goes_80 : decode cX9_goes 80 = .ok (.iconst 1, 1) := by decide +kernel
theorem dX9_goes_81 : decode cX9_goes 81 = .ok (.iadd, 1) := by decide +kernel
theorem dX9_goes_82 : decode cX9_goes 82 = .ok (.iastore, 1) := by decide +kernel
theorem dX9_goes_83 : decode cX9_goes 83 = .ok (.sipush 225, 3) := by decide +kernel
theorem dX9_goes_86 : decode cX9_goes 86 = .ok (.aload_n 0, 1) := by decide +kernel
theorem dX9_goes_87 : decode cX9_goes 87 = .ok (.getfield 191, 3) := by decide +kernel
theorem dX9_goes_90 : decode cX9_goes 90 = .ok (.imul, 1) := by decide +kernel
theorem dX9_goes_91 : decode cX9_goes 91 = .ok (.istore_n 3, 1) := by decide +kernel
theorem dX9_goes_92 : decode cX9_goes 92 = .ok (.iconst 0, 1) := by decide +kernel
theorem dX9_goes_93 : decode cX9_goes 93 = .ok (.istore 4, 2) := by decide +kernel
theorem dX9_goes_95 : decode cX9_goes 95 = .ok (.iload 4, 2) := by decide +kernel
theorem dX9_goes_97 : decode cX9_goes 97 = .ok (.sipush 225, 3) := by decide +kernel
theorem dX9_goes_100 : decode cX9_goes 100 = .ok (.if_icmp .ge 31, 3) := by decide +kernel
theorem dX9_goes_103 : decode cX9_goes 103 = .ok (.aload_n 0, 1) := by decide +kernel
theorem dX9_goes_104 : decode cX9_goes 104 = .ok (.getfield 82, 3) := by decide +kernel
theorem dX9_goes_107 : decode cX9_goes 107 = .ok (.iload_n 3, 1) := by decide +kernel
theorem dX9_goes_108 : decode cX9_goes 108 = .ok (.sipush 225, 3) := by decide +kernel
theorem dX9_goes_111 : decode cX9_goes 111 = .ok (.iadd, 1) := by decide +kernel
theorem dX9_goes_112 : decode cX9_goes 112 = .ok (.iload 4, 2) := by decide +kernel
theorem dX9_goes_114 : decode cX9_goes 114 = .ok (.iadd, 1) := by decide +kernel
theorem dX9_goes_115 : decode cX9_goes 115 = .ok (.aload_n 0, 1) := by decide +kernel
theorem dX9_goes_116 : decode cX9_goes 116 = .ok (.getfield 82, 3) := by decide +kernel
theorem dX9_goes_119 : decode cX9_goes 119 = .ok (.iload_n 3, 1) := by decide +kernel
theorem dX9_goes_120 : decode cX9_goes 120 = .ok (.iload 4, 2) := by decide +kernel
theorem dX9_goes_122 : decode cX9_goes 122 = .ok (.iadd, 1) := by decide +kernel
theorem dX9_goes_123 : decode cX9_goes 123 = .ok (.iaload, 1) := by decide +kernel
theorem dX9_goes_124 : decode cX9_goes 124 = .ok (.iastore, 1) := by decide +kernel
theorem dX9_goes_125 : decode cX9_goes 125 = .ok (.iinc 4 1, 3) := by decide +kernel
theorem dX9_goes_128 : decode cX9_goes 128 = .ok (.goto (-33), 3) := by decide +kernel
theorem dX9_goes_131 : decode cX9_goes 131 = .ok (.aload_n 0, 1) := by decide +kernel
theorem dX9_goes_132 : decode cX9_goes 132 = .ok (.dup, 1) := by decide +kernel
theorem dX9_goes_133 : decode cX9_goes 133 = .ok (.getfield 191, 3) := by decide +kernel
theorem dX9_goes_136 : decode cX9_goes 136 = .ok (.iconst 1, 1) := by decide +kernel
theorem dX9_goes_137 : decode cX9_goes 137 = .ok (.iadd, 1) := by decide +kernel
theorem dX9_goes_138 : decode cX9_goes 138 = .ok (.putfield 191, 3) := by decide +kernel
theorem dX9_goes_141 : decode cX9_goes 141 = .ok (.aload_n 0, 1) := by decide +kernel
theorem dX9_goes_142 : decode cX9_goes 142 = .ok (.iload_n 1, 1) := by decide +kernel
theorem dX9_goes_143 : decode cX9_goes 143 = .ok (.invokevirtual 215, 3) := by decide +kernel
theorem dX9_goes_146 : decode cX9_goes 146 = .ok (.aload_n 0, 1) := by decide +kernel
theorem dX9_goes_147 : decode cX9_goes 147 = .ok (.getfield 66, 3) := by decide +kernel
theorem dX9_goes_150 : decode cX9_goes 150 = .ok (.iload_n 1, 1) := by decide +kernel
theorem dX9_goes_151 : decode cX9_goes 151 = .ok (.iaload, 1) := by decide +kernel
theorem dX9_goes_152 : decode cX9_goes 152 = .ok (.ldc 165, 2) := by decide +kernel
theorem dX9_goes_154 : decode cX9_goes 154 = .ok (.if_icmp .eq 48, 3) := by decide +kernel
theorem dX9_goes_157 : decode cX9_goes 157 = .ok (.aload_n 0, 1) := by decide +kernel
theorem dX9_goes_158 : decode cX9_goes 158 = .ok (.dup, 1) := by decide +kernel
theorem dX9_goes_159 : decode cX9_goes 159 = .ok (.getfield 191, 3) := by decide +kernel
theorem dX9_goes_162 : decode cX9_goes 162 = .ok (.iconst 1, 1) := by decide +kernel
theorem dX9_goes_163 : decode cX9_goes 163 = .ok (.isub, 1) := by decide +kernel
theorem dX9_goes_164 : decode cX9_goes 164 = .ok (.putfield 191, 3) := by decide +kernel
theorem dX9_goes_167 : decode cX9_goes 167 = .ok (.aload_n 0, 1) := by decide +kernel
theorem dX9_goes_168 : decode cX9_goes 168 = .ok (.aload_n 0, 1) := by decide +kernel
theorem dX9_goes_169 : decode cX9_goes 169 = .ok (.getfield 63, 3) := by decide +kernel
theorem dX9_goes_172 : decode cX9_goes 172 = .ok (.iload_n 1, 1) := by decide +kernel
theorem dX9_goes_173 : decode cX9_goes 173 = .ok (.iaload, 1) := by decide +kernel
theorem dX9_goes_174 : decode cX9_goes 174 = .ok (.aload_n 0, 1) := by decide +kernel
theorem dX9_goes_175 : decode cX9_goes 175 = .ok (.getfield 60, 3) := by decide +kernel
theorem dX9_goes_178 : decode cX9_goes 178 = .ok (.iload_n 1, 1) := by decide +kernel
theorem dX9_goes_179 : decode cX9_goes 179 = .ok (.iaload, 1) := by decide +kernel
theorem dX9_goes_180 : decode cX9_goes 180 = .ok (.aload_n 0, 1) := by decide +kernel
theorem dX9_goes_181 : decode cX9_goes 181 = .ok (.getfield 66, 3) := by decide +kernel
theorem dX9_goes_184 : decode cX9_goes 184 = .ok (.iload_n 1, 1) := by decide +kernel
theorem dX9_goes_185 : decode cX9_goes 185 = .ok (.iaload, 1) := by decide +kernel
theorem dX9_goes_186 : decode cX9_goes 186 = .ok (.ineg, 1) := by decide +kernel
theorem dX9_goes_187 : decode cX9_goes 187 = .ok (.iconst 1, 1) := by decide +kernel
theorem dX9_goes_188 : decode cX9_goes 188 = .ok (.isub, 1) := by decide +kernel
theorem dX9_goes_189 : decode cX9_goes 189 = .ok (.invokevirtual 198, 3) := by decide +kernel
theorem dX9_goes_192 : decode cX9_goes 192 = .ok (.aload_n 0, 1) := by decide +kernel
theorem dX9_goes_193 : decode cX9_goes 193 = .ok (.dup, 1) := by decide +kernel
theorem dX9_goes_194 : decode cX9_goes 194 = .ok (.getfield 191, 3) := by decide +kernel
theorem dX9_goes_197 : decode cX9_goes 197 = .ok (.iconst 1, 1) := by decide +kernel
theorem dX9_goes_198 : decode cX9_goes 198 = .ok (.iadd, 1) := by decide +kernel
theorem dX9_goes_199 : decode cX9_goes 199 = .ok (.putfield 191, 3) := by decide +kernel
theorem dX9_goes_202 : decode cX9_goes 202 = .ok (.iconst 1, 1) := by decide +kernel
theorem dX9_goes_203 : decode cX9_goes 203 = .ok (.ireturn, 1) := by decide +kernel
theorem dX9_goes_204 : decode cX9_goes 204 = .ok (.iconst 0, 1) := by decide +kernel
theorem dX9_goes_205 : decode cX9_goes 205 = .ok (.ireturn, 1) := by decide +kernel
theorem dX9_can_0 : decode cX9_can 0 = .ok (.aload_n 0, 1) := by decide +kernel
theorem dX9_can_1 : decode cX9_can 1 = .ok (.invokevirtual 218, 3) := by decide +kernel
theorem dX9_can_4 : decode cX9_can 4 = .ok (.aload_n 0, 1) := by decide +kernel
theorem dX9_can_5 : decode cX9_can 5 = .ok (.invokevirtual 221, 3) := by decide +kernel
theorem dX9_can_8 : decode cX9_can 8 = .ok (.ifCond .ne 5, 3) := by decide +kernel
theorem dX9_can_11 : decode cX9_can 11 = .ok (.iconst 0, 1) := by decide +kernel
theorem dX9_can_12 : decode cX9_can 12 = .ok (.ireturn, 1) := by decide +kernel
theorem dX9_can_13 : decode cX9_can 13 = .ok (.aload_n 0, 1) := by decide +kernel
theorem dX9_can_14 : decode cX9_can 14 = .ok (.invokevirtual 224, 3) := by decide +kernel
theorem dX9_can_17 : decode cX9_can 17 = .ok (.istore_n 1, 1) := by decide +kernel
theorem dX9_can_18 : decode cX9_can 18 = .ok (.iload_n 1, 1) := by decide +kernel
theorem dX9_can_19 : decode cX9_can 19 = .ok (.iconst (-1), 1) := by decide +kernel
theorem dX9_can_20 : decode cX9_can 20 = .ok (.if_icmp .ne 5, 3) := by decide +kernel
theorem dX9_can_23 : decode cX9_can 23 = .ok (.iconst 1, 1) := by decide +kernel
theorem dX9_can_24 : decode cX9_can 24 = .ok (.ireturn, 1) := by decide +kernel
theorem dX9_can_25 : decode cX9_can 25 = .ok (.iload_n 1, 1) := by decide +kernel
theorem dX9_can_26 : decode cX9_can 26 = .ok (.ifCond .lt 31, 3) := by decide +kernel
theorem dX9_can_29 : decode cX9_can 29 = .ok (.aload_n 0, 1) := by decide +kernel
theorem dX9_can_30 : decode cX9_can 30 = .ok (.getfield 85, 3) := by decide +kernel
theorem dX9_can_33 : decode cX9_can 33 = .ok (.aload_n 0, 1) := by decide +kernel
theorem dX9_can_34 : decode cX9_can 34 = .ok (.getfield 191, 3) := by decide +kernel
theorem dX9_can_37 : decode cX9_can 37 = .ok (.iload_n 1, 1) := by decide +kernel
theorem dX9_can_38 : decode cX9_can 38 = .ok (.iastore, 1) := by decide +kernel
theorem dX9_can_39 : decode cX9_can 39 = .ok (.aload_n 0, 1) := by decide +kernel
theorem dX9_can_40 : decode cX9_can 40 = .ok (.getfield 88, 3) := by decide +kernel
theorem dX9_can_43 : decode cX9_can 43 = .ok (.aload_n 0, 1) := by decide +kernel
theorem dX9_can_44 : decode cX9_can 44 = .ok (.getfield 191, 3) := by decide +kernel
theorem dX9_can_47 : decode cX9_can 47 = .ok (.aload_n 0, 1) := by decide +kernel
theorem dX9_can_48 : decode cX9_can 48 = .ok (.getfield 69, 3) := by decide +kernel
theorem dX9_can_51 : decode cX9_can 51 = .ok (.iload_n 1, 1) := by decide +kernel
theorem dX9_can_52 : decode cX9_can 52 = .ok (.iaload, 1) := by decide +kernel
theorem dX9_can_53 : decode cX9_can 53 = .ok (.iastore, 1) := by decide +kernel
theorem dX9_can_54 : decode cX9_can 54 = .ok (.goto 13, 3) := by decide +kernel
theorem dX9_can_57 : decode cX9_can 57 = .ok (.aload_n 0, 1) := by decide +kernel
theorem dX9_can_58 : decode cX9_can 58 = .ok (.dup, 1) := by decide +kernel
theorem dX9_can_59 : decode cX9_can 59 = .ok (.getfield 191, 3) := by decide +kernel
theorem dX9_can_62 : decode cX9_can 62 = .ok (.iconst 1, 1) := by decide +kernel
theorem dX9_can_63 : decode cX9_can 63 = .ok (.isub, 1) := by decide +kernel
theorem dX9_can_64 : decode cX9_can 64 = .ok (.putfield 191, 3) := by decide +kernel
theorem dX9_can_67 : decode cX9_can 67 = .ok (.aload_n 0, 1) := by decide +kernel
theorem dX9_can_68 : decode cX9_can 68 = .ok (.invokevirtual 228, 3) := by decide +kernel
theorem dX9_can_71 : decode cX9_can 71 = .ok (.ifCond .ne 5, 3) := by decide +kernel
theorem dX9_can_74 : decode cX9_can 74 = .ok (.iconst 0, 1) := by decide +kernel
theorem dX9_can_75 : decode cX9_can 75 = .ok (.ireturn, 1) := by decide +kernel
theorem dX9_can_76 : decode cX9_can 76 = .ok (.goto (-63), 3) := by decide +kernel
theorem dX9_canWith_0 : decode cX9_canWith 0 = .ok (.aload_n 0, 1) := by decide +kernel
theorem dX9_canWith_1 : decode cX9_canWith 1 = .ok (.iload_n 1, 1) := by decide +kernel
theorem dX9_canWith_2 : decode cX9_canWith 2 = .ok (.iload_n 2, 1) := by decide +kernel
theorem dX9_canWith_3 : decode cX9_canWith 3 = .ok (.iload_n 3, 1) := by decide +kernel
theorem dX9_canWith_4 : decode cX9_canWith 4 = .ok (.invokevirtual 231, 3) := by decide +kernel
theorem dX9_canWith_7 : decode cX9_canWith 7 = .ok (.aload_n 0, 1) := by decide +kernel
theorem dX9_canWith_8 : decode cX9_canWith 8 = .ok (.invokevirtual 234, 3) := by decide +kernel
theorem dX9_canWith_11 : decode cX9_canWith 11 = .ok (.istore 4, 2) := by decide +kernel
theorem dX9_canWith_13 : decode cX9_canWith 13 = .ok (.aload_n 0, 1) := by decide +kernel
theorem dX9_canWith_14 : decode cX9_canWith 14 = .ok (.dup, 1) := by decide +kernel
theorem dX9_canWith_15 : decode cX9_canWith 15 = .ok (.getfield 201, 3) := by decide +kernel
theorem dX9_canWith_18 : decode cX9_canWith 18 = .ok (.iconst 1, 1) := by decide +kernel
theorem dX9_canWith_19 : decode cX9_canWith 19 = .ok (.isub, 1) := by decide +kernel
theorem dX9_canWith_20 : decode cX9_canWith 20 = .ok (.putfield 201, 3) := by decide +kernel
theorem dX9_canWith_23 : decode cX9_canWith 23 = .ok (.iload 4, 2) := by decide +kernel
theorem dX9_canWith_25 : decode cX9_canWith 25 = .ok (.ireturn, 1) := by decide +kernel
theorem dX9_usesAll_0 : decode cX9_usesAll 0 = .ok (.iconst 0, 1) := by decide +kernel
theorem dX9_usesAll_1 : decode cX9_usesAll 1 = .ok (.istore_n 1, 1) := by decide +kernel
theorem dX9_usesAll_2 : decode cX9_usesAll 2 = .ok (.iload_n 1, 1) := by decide +kernel
theorem dX9_usesAll_3 : decode cX9_usesAll 3 = .ok (.bipush 14, 2) := by decide +kernel
theorem dX9_usesAll_5 : decode cX9_usesAll 5 = .ok (.if_icmp .ge 16, 3) := by decide +kernel
theorem dX9_usesAll_8 : decode cX9_usesAll 8 = .ok (.aload_n 0, 1) := by decide +kernel
theorem dX9_usesAll_9 : decode cX9_usesAll 9 = .ok (.getfield 45, 3) := by decide +kernel
theorem dX9_usesAll_12 : decode cX9_usesAll 12 = .ok (.iload_n 1, 1) := by decide +kernel
theorem dX9_usesAll_13 : decode cX9_usesAll 13 = .ok (.iconst 1, 1) := by decide +kernel
theorem dX9_usesAll_14 : decode cX9_usesAll 14 = .ok (.bastore, 1) := by decide +kernel
theorem dX9_usesAll_15 : decode cX9_usesAll 15 = .ok (.iinc 1 1, 3) := by decide +kernel
theorem dX9_usesAll_18 : decode cX9_usesAll 18 = .ok (.goto (-16), 3) := by decide +kernel
theorem dX9_usesAll_21 : decode cX9_usesAll 21 = .ok (.return_, 1) := by decide +kernel
theorem dX9_canNow_0 : decode cX9_canNow 0 = .ok (.aload_n 0, 1) := by decide +kernel
theorem dX9_canNow_1 : decode cX9_canNow 1 = .ok (.invokevirtual 237, 3) := by decide +kernel
theorem dX9_canNow_4 : decode cX9_canNow 4 = .ok (.aload_n 0, 1) := by decide +kernel
theorem dX9_canNow_5 : decode cX9_canNow 5 = .ok (.iconst 0, 1) := by decide +kernel
theorem dX9_canNow_6 : decode cX9_canNow 6 = .ok (.putfield 201, 3) := by decide +kernel
theorem dX9_canNow_9 : decode cX9_canNow 9 = .ok (.aload_n 0, 1) := by decide +kernel
theorem dX9_canNow_10 : decode cX9_canNow 10 = .ok (.invokevirtual 234, 3) := by decide +kernel
theorem dX9_canNow_13 : decode cX9_canNow 13 = .ok (.ireturn, 1) := by decide +kernel
theorem dX9_check_0 : decode cX9_check 0 = .ok (.aload_n 0, 1) := by decide +kernel
theorem dX9_check_1 : decode cX9_check 1 = .ok (.invokevirtual 240, 3) := by decide +kernel
theorem dX9_check_4 : decode cX9_check 4 = .ok (.ireturn, 1) := by decide +kernel
theorem dX9_cores_0 : decode cX9_cores 0 = .ok (.aload_n 0, 1) := by decide +kernel
theorem dX9_cores_1 : decode cX9_cores 1 = .ok (.getfield 111, 3) := by decide +kernel
theorem dX9_cores_4 : decode cX9_cores 4 = .ok (.ifCond .eq 4, 3) := by decide +kernel
theorem dX9_cores_7 : decode cX9_cores 7 = .ok (.return_, 1) := by decide +kernel
theorem dX9_cores_8 : decode cX9_cores 8 = .ok (.aload_n 0, 1) := by decide +kernel
theorem dX9_cores_9 : decode cX9_cores 9 = .ok (.invokevirtual 237, 3) := by decide +kernel
theorem dX9_cores_12 : decode cX9_cores 12 = .ok (.aload_n 0, 1) := by decide +kernel
theorem dX9_cores_13 : decode cX9_cores 13 = .ok (.iconst 0, 1) := by decide +kernel
theorem dX9_cores_14 : decode cX9_cores 14 = .ok (.putfield 201, 3) := by decide +kernel
theorem dX9_cores_17 : decode cX9_cores 17 = .ok (.iconst 0, 1) := by decide +kernel
theorem dX9_cores_18 : decode cX9_cores 18 = .ok (.istore_n 1, 1) := by decide +kernel
theorem dX9_cores_19 : decode cX9_cores 19 = .ok (.iload_n 1, 1) := by decide +kernel
theorem dX9_cores_20 : decode cX9_cores 20 = .ok (.aload_n 0, 1) := by decide +kernel
theorem dX9_cores_21 : decode cX9_cores 21 = .ok (.getfield 146, 3) := by decide +kernel
theorem dX9_cores_24 : decode cX9_cores 24 = .ok (.if_icmp .ge 30, 3) := by decide +kernel
theorem dX9_cores_27 : decode cX9_cores 27 = .ok (.aload_n 0, 1) := by decide +kernel
theorem dX9_cores_28 : decode cX9_cores 28 = .ok (.getfield 45, 3) := by decide +kernel
theorem dX9_cores_31 : decode cX9_cores 31 = .ok (.iload_n 1, 1) := by decide +kernel
theorem dX9_cores_32 : decode cX9_cores 32 = .ok (.iconst 0, 1) := by decide +kernel
theorem dX9_cores_33 : decode cX9_cores 33 = .ok (.bastore, 1) := by decide +kernel
theorem dX9_cores_34 : decode cX9_cores 34 = .ok (.aload_n 0, 1) := by decide +kernel
theorem dX9_cores_35 : decode cX9_cores 35 = .ok (.invokevirtual 234, 3) := by decide +kernel
theorem dX9_cores_38 : decode cX9_cores 38 = .ok (.ifCond .eq 10, 3) := by decide +kernel
theorem dX9_cores_41 : decode cX9_cores 41 = .ok (.aload_n 0, 1) := by decide +kernel
theorem dX9_cores_42 : decode cX9_cores 42 = .ok (.getfield 45, 3) := by decide +kernel
theorem dX9_cores_45 : decode cX9_cores 45 = .ok (.iload_n 1, 1) := by decide +kernel
theorem dX9_cores_46 : decode cX9_cores 46 = .ok (.iconst 1, 1) := by decide +kernel
theorem dX9_cores_47 : decode cX9_cores 47 = .ok (.bastore, 1) := by decide +kernel
theorem dX9_cores_48 : decode cX9_cores 48 = .ok (.iinc 1 1, 3) := by decide +kernel
theorem dX9_cores_51 : decode cX9_cores 51 = .ok (.goto (-32), 3) := by decide +kernel
theorem dX9_cores_54 : decode cX9_cores 54 = .ok (.iconst 0, 1) := by decide +kernel
theorem dX9_cores_55 : decode cX9_cores 55 = .ok (.istore_n 1, 1) := by decide +kernel
theorem dX9_cores_56 : decode cX9_cores 56 = .ok (.iload_n 1, 1) := by decide +kernel
theorem dX9_cores_57 : decode cX9_cores 57 = .ok (.aload_n 0, 1) := by decide +kernel
theorem dX9_cores_58 : decode cX9_cores 58 = .ok (.getfield 146, 3) := by decide +kernel
theorem dX9_cores_61 : decode cX9_cores 61 = .ok (.if_icmp .ge 21, 3) := by decide +kernel
theorem dX9_cores_64 : decode cX9_cores 64 = .ok (.aload_n 0, 1) := by decide +kernel
theorem dX9_cores_65 : decode cX9_cores 65 = .ok (.getfield 48, 3) := by decide +kernel
theorem dX9_cores_68 : decode cX9_cores 68 = .ok (.iload_n 1, 1) := by decide +kernel
theorem dX9_cores_69 : decode cX9_cores 69 = .ok (.aload_n 0, 1) := by decide +kernel
theorem dX9_cores_70 : decode cX9_cores 70 = .ok (.getfield 45, 3) := by decide +kernel
theorem dX9_cores_73 : decode cX9_cores 73 = .ok (.iload_n 1, 1) := by decide +kernel
theorem dX9_cores_74 : decode cX9_cores 74 = .ok (.baload, 1) := by decide +kernel
theorem dX9_cores_75 : decode cX9_cores 75 = .ok (.bastore, 1) := by decide +kernel
theorem dX9_cores_76 : decode cX9_cores 76 = .ok (.iinc 1 1, 3) := by decide +kernel
theorem dX9_cores_79 : decode cX9_cores 79 = .ok (.goto (-23), 3) := by decide +kernel
theorem dX9_cores_82 : decode cX9_cores 82 = .ok (.aload_n 0, 1) := by decide +kernel
theorem dX9_cores_83 : decode cX9_cores 83 = .ok (.iconst 1, 1) := by decide +kernel
theorem dX9_cores_84 : decode cX9_cores 84 = .ok (.putfield 111, 3) := by decide +kernel
theorem dX9_cores_87 : decode cX9_cores 87 = .ok (.return_, 1) := by decide +kernel
theorem dX9_must_0 : decode cX9_must 0 = .ok (.iload_n 1, 1) := by decide +kernel
theorem dX9_must_1 : decode cX9_must 1 = .ok (.iconst 2, 1) := by decide +kernel
theorem dX9_must_2 : decode cX9_must 2 = .ok (.idiv, 1) := by decide +kernel
theorem dX9_must_3 : decode cX9_must 3 = .ok (.istore_n 2, 1) := by decide +kernel
theorem dX9_must_4 : decode cX9_must 4 = .ok (.aload_n 0, 1) := by decide +kernel
theorem dX9_must_5 : decode cX9_must 5 = .ok (.getfield 32, 3) := by decide +kernel
theorem dX9_must_8 : decode cX9_must 8 = .ok (.iload_n 2, 1) := by decide +kernel
theorem dX9_must_9 : decode cX9_must 9 = .ok (.iaload, 1) := by decide +kernel
theorem dX9_must_10 : decode cX9_must 10 = .ok (.istore_n 3, 1) := by decide +kernel
theorem dX9_must_11 : decode cX9_must 11 = .ok (.aload_n 0, 1) := by decide +kernel
theorem dX9_must_12 : decode cX9_must 12 = .ok (.getfield 35, 3) := by decide +kernel
theorem dX9_must_15 : decode cX9_must 15 = .ok (.iload_n 2, 1) := by decide +kernel
theorem dX9_must_16 : decode cX9_must 16 = .ok (.iaload, 1) := by decide +kernel
theorem dX9_must_17 : decode cX9_must 17 = .ok (.istore 4, 2) := by decide +kernel
theorem dX9_must_19 : decode cX9_must 19 = .ok (.aload_n 0, 1) := by decide +kernel
theorem dX9_must_20 : decode cX9_must 20 = .ok (.iconst 0, 1) := by decide +kernel
theorem dX9_must_21 : decode cX9_must 21 = .ok (.putfield 201, 3) := by decide +kernel
theorem dX9_must_24 : decode cX9_must 24 = .ok (.aload_n 0, 1) := by decide +kernel
theorem dX9_must_25 : decode cX9_must 25 = .ok (.getfield 41, 3) := by decide +kernel
theorem dX9_must_28 : decode cX9_must 28 = .ok (.iload_n 2, 1) := by decide +kernel
theorem dX9_must_29 : decode cX9_must 29 = .ok (.baload, 1) := by decide +kernel
theorem dX9_must_30 : decode cX9_must 30 = .ok (.ifCond .eq 37, 3) := by decide +kernel
theorem dX9_must_33 : decode cX9_must 33 = .ok (.iload_n 1, 1) := by decide +kernel
theorem dX9_must_34 : decode cX9_must 34 = .ok (.iconst 2, 1) := by decide +kernel
theorem dX9_must_35 : decode cX9_must 35 = .ok (.irem, 1) := by decide +kernel
theorem dX9_must_36 : decode cX9_must 36 = .ok (.ifCond .ne 31, 3) := by decide +kernel
theorem dX9_must_39 : decode cX9_must 39 = .ok (.aload_n 0, 1) := by decide +kernel
theorem dX9_must_40 : decode cX9_must 40 = .ok (.iload_n 3, 1) := by decide +kernel
theorem dX9_must_41 : decode cX9_must 41 = .ok (.iload 4, 2) := by decide +kernel
theorem dX9_must_43 : decode cX9_must 43 = .ok (.iconst (-1), 1) := by decide +kernel
theorem dX9_must_44 : decode cX9_must 44 = .ok (.invokevirtual 243, 3) := by decide +kernel
theorem dX9_must_47 : decode cX9_must 47 = .ok (.ifCond .ne 18, 3) := by decide +kernel
theorem dX9_must_50 : decode cX9_must 50 = .ok (.aload_n 0, 1) := by decide +kernel
theorem dX9_must_51 : decode cX9_must 51 = .ok (.iload 4, 2) := by decide +kernel
theorem dX9_must_53 : decode cX9_must 53 = .ok (.iload_n 3, 1) := by decide +kernel
theorem dX9_must_54 : decode cX9_must 54 = .ok (.iconst (-1), 1) := by decide +kernel
theorem dX9_must_55 : decode cX9_must 55 = .ok (.invokevirtual 243, 3) := by decide +kernel
theorem dX9_must_58 : decode cX9_must 58 = .ok (.ifCond .ne 7, 3) := by decide +kernel
theorem dX9_must_61 : decode cX9_must 61 = .ok (.iconst 1, 1) := by decide +kernel
theorem dX9_must_62 : decode cX9_must 62 = .ok (.goto 4, 3) := by decide +kernel
theorem dX9_must_65 : decode cX9_must 65 = .ok (.iconst 0, 1) := by decide +kernel
theorem dX9_must_66 : decode cX9_must 66 = .ok (.ireturn, 1) := by decide +kernel
theorem dX9_must_67 : decode cX9_must 67 = .ok (.aload_n 0, 1) := by decide +kernel
theorem dX9_must_68 : decode cX9_must 68 = .ok (.getfield 41, 3) := by decide +kernel
theorem dX9_must_71 : decode cX9_must 71 = .ok (.iload_n 2, 1) := by decide +kernel
theorem dX9_must_72 : decode cX9_must 72 = .ok (.baload, 1) := by decide +kernel
theorem dX9_must_73 : decode cX9_must 73 = .ok (.ifCond .ne 58, 3) := by decide +kernel
theorem dX9_must_76 : decode cX9_must 76 = .ok (.iload_n 1, 1) := by decide +kernel
theorem dX9_must_77 : decode cX9_must 77 = .ok (.iconst 2, 1) := by decide +kernel
theorem dX9_must_78 : decode cX9_must 78 = .ok (.irem, 1) := by decide +kernel
theorem dX9_must_79 : decode cX9_must 79 = .ok (.ifCond .ne 30, 3) := by decide +kernel
theorem dX9_must_82 : decode cX9_must 82 = .ok (.aload_n 0, 1) := by decide +kernel
theorem dX9_must_83 : decode cX9_must 83 = .ok (.iload 4, 2) := by decide +kernel
theorem dX9_must_85 : decode cX9_must 85 = .ok (.iload_n 3, 1) := by decide +kernel
theorem dX9_must_86 : decode cX9_must 86 = .ok (.aload_n 0, 1) := by decide +kernel
theorem dX9_must_87 : decode cX9_must 87 = .ok (.getfield 38, 3) := by decide +kernel
theorem dX9_must_90 : decode cX9_must 90 = .ok (.iload_n 2, 1) := by decide +kernel
theorem dX9_must_91 : decode cX9_must 91 = .ok (.iaload, 1) := by decide +kernel
theorem dX9_must_92 : decode cX9_must 92 = .ok (.ineg, 1) := by decide +kernel
theorem dX9_must_93 : decode cX9_must 93 = .ok (.iconst 1, 1) := by decide +kernel
theorem dX9_must_94 : decode cX9_must 94 = .ok (.isub, 1) := by decide +kernel
theorem dX9_must_95 : decode cX9_must 95 = .ok (.invokevirtual 243, 3) := by decide +kernel
theorem dX9_must_98 : decode cX9_must 98 = .ok (.ifCond .ne 7, 3) := by decide +kernel
theorem dX9_must_101 : decode cX9_must 101 = .ok (.iconst 1, 1) := by decide +kernel
theorem dX9_must_102 : decode cX9_must 102 = .ok (.goto 28, 3) := by decide +kernel
theorem dX9_must_105 : decode cX9_must 105 = .ok (.iconst 0, 1) := by decide +kernel
theorem dX9_must_106 : decode cX9_must 106 = .ok (.goto 24, 3) := by decide +kernel
theorem dX9_must_109 : decode cX9_must 109 = .ok (.aload_n 0, 1) := by decide +kernel
theorem dX9_must_110 : decode cX9_must 110 = .ok (.iload_n 3, 1) := by decide +kernel
theorem dX9_must_111 : decode cX9_must 111 = .ok (.iload 4, 2) := by decide +kernel
theorem dX9_must_113 : decode cX9_must 113 = .ok (.aload_n 0, 1) := by decide +kernel
theorem dX9_must_114 : decode cX9_must 114 = .ok (.getfield 38, 3) := by decide +kernel
theorem dX9_must_117 : decode cX9_must 117 = .ok (.iload_n 2, 1) := by decide +kernel
theorem dX9_must_118 : decode cX9_must 118 = .ok (.iaload, 1) := by decide +kernel
theorem dX9_must_119 : decode cX9_must 119 = .ok (.invokevirtual 243, 3) := by decide +kernel
theorem dX9_must_122 : decode cX9_must 122 = .ok (.ifCond .ne 7, 3) := by decide +kernel
theorem dX9_must_125 : decode cX9_must 125 = .ok (.iconst 1, 1) := by decide +kernel
theorem dX9_must_126 : decode cX9_must 126 = .ok (.goto 4, 3) := by decide +kernel
theorem dX9_must_129 : decode cX9_must 129 = .ok (.iconst 0, 1) := by decide +kernel
theorem dX9_must_130 : decode cX9_must 130 = .ok (.ireturn, 1) := by decide +kernel
theorem dX9_must_131 : decode cX9_must 131 = .ok (.aload_n 0, 1) := by decide +kernel
theorem dX9_must_132 : decode cX9_must 132 = .ok (.iload_n 3, 1) := by decide +kernel
theorem dX9_must_133 : decode cX9_must 133 = .ok (.iload 4, 2) := by decide +kernel
theorem dX9_must_135 : decode cX9_must 135 = .ok (.iconst 0, 1) := by decide +kernel
theorem dX9_must_136 : decode cX9_must 136 = .ok (.invokevirtual 231, 3) := by decide +kernel
theorem dX9_must_139 : decode cX9_must 139 = .ok (.aload_n 0, 1) := by decide +kernel
theorem dX9_must_140 : decode cX9_must 140 = .ok (.iload 4, 2) := by decide +kernel
theorem dX9_must_142 : decode cX9_must 142 = .ok (.iload_n 3, 1) := by decide +kernel
theorem dX9_must_143 : decode cX9_must 143 = .ok (.iconst 0, 1) := by decide +kernel
theorem dX9_must_144 : decode cX9_must 144 = .ok (.invokevirtual 243, 3) := by decide +kernel
theorem dX9_must_147 : decode cX9_must 147 = .ok (.ifCond .ne 7, 3) := by decide +kernel
theorem dX9_must_150 : decode cX9_must 150 = .ok (.iconst 1, 1) := by decide +kernel
theorem dX9_must_151 : decode cX9_must 151 = .ok (.goto 4, 3) := by decide +kernel
theorem dX9_must_154 : decode cX9_must 154 = .ok (.iconst 0, 1) := by decide +kernel
theorem dX9_must_155 : decode cX9_must 155 = .ok (.istore 5, 2) := by decide +kernel
theorem dX9_must_157 : decode cX9_must 157 = .ok (.aload_n 0, 1) := by decide +kernel
theorem dX9_must_158 : decode cX9_must 158 = .ok (.iconst 0, 1) := by decide +kernel
theorem dX9_must_159 : decode cX9_must 159 = .ok (.putfield 201, 3) := by decide +kernel
theorem dX9_must_162 : decode cX9_must 162 = .ok (.iload 5, 2) := by decide +kernel
theorem dX9_must_164 : decode cX9_must 164 = .ok (.ireturn, 1) := by decide +kernel
theorem dX9_count_0 : decode cX9_count 0 = .ok (.iconst 0, 1) := by decide +kernel
theorem dX9_count_1 : decode cX9_count 1 = .ok (.istore_n 2, 1) := by decide +kernel
theorem dX9_count_2 : decode cX9_count 2 = .ok (.iconst 0, 1) := by decide +kernel
theorem dX9_count_3 : decode cX9_count 3 = .ok (.istore_n 3, 1) := by decide +kernel
theorem dX9_count_4 : decode cX9_count 4 = .ok (.iload_n 3, 1) := by decide +kernel
theorem dX9_count_5 : decode cX9_count 5 = .ok (.iload_n 1, 1) := by decide +kernel
theorem dX9_count_6 : decode cX9_count 6 = .ok (.if_icmp .ge 23, 3) := by decide +kernel
theorem dX9_count_9 : decode cX9_count 9 = .ok (.iload_n 2, 1) := by decide +kernel
theorem dX9_count_10 : decode cX9_count 10 = .ok (.aload_n 0, 1) := by decide +kernel
theorem dX9_count_11 : decode cX9_count 11 = .ok (.iload_n 3, 1) := by decide +kernel
theorem dX9_count_12 : decode cX9_count 12 = .ok (.baload, 1) := by decide +kernel
theorem dX9_count_13 : decode cX9_count 13 = .ok (.ifCond .eq 7, 3) := by decide +kernel
theorem dX9_count_16 : decode cX9_count 16 = .ok (.iconst 1, 1) := by decide +kernel
theorem dX9_count_17 : decode cX9_count 17 = .ok (.goto 4, 3) := by decide +kernel
theorem dX9_count_20 : decode cX9_count 20 = .ok (.iconst 0, 1) := by decide +kernel
theorem dX9_count_21 : decode cX9_count 21 = .ok (.iadd, 1) := by decide +kernel
theorem dX9_count_22 : decode cX9_count 22 = .ok (.istore_n 2, 1) := by decide +kernel
theorem dX9_count_23 : decode cX9_count 23 = .ok (.iinc 3 1, 3) := by decide +kernel
theorem dX9_count_26 : decode cX9_count 26 = .ok (.goto (-22), 3) := by decide +kernel
theorem dX9_count_29 : decode cX9_count 29 = .ok (.iload_n 2, 1) := by decide +kernel
theorem dX9_count_30 : decode cX9_count 30 = .ok (.ireturn, 1) := by decide +kernel
theorem dX9_nth_0 : decode cX9_nth 0 = .ok (.iload_n 2, 1) := by decide +kernel
theorem dX9_nth_1 : decode cX9_nth 1 = .ok (.istore_n 3, 1) := by decide +kernel
theorem dX9_nth_2 : decode cX9_nth 2 = .ok (.iconst 0, 1) := by decide +kernel
theorem dX9_nth_3 : decode cX9_nth 3 = .ok (.istore 4, 2) := by decide +kernel
theorem dX9_nth_5 : decode cX9_nth 5 = .ok (.iload 4, 2) := by decide +kernel
theorem dX9_nth_7 : decode cX9_nth 7 = .ok (.iload_n 1, 1) := by decide +kernel
theorem dX9_nth_8 : decode cX9_nth 8 = .ok (.if_icmp .ge 26, 3) := by decide +kernel
theorem dX9_nth_11 : decode cX9_nth 11 = .ok (.aload_n 0, 1) := by decide +kernel
theorem dX9_nth_12 : decode cX9_nth 12 = .ok (.iload 4, 2) := by decide +kernel
theorem dX9_nth_14 : decode cX9_nth 14 = .ok (.baload, 1) := by decide +kernel
theorem dX9_nth_15 : decode cX9_nth 15 = .ok (.ifCond .eq 13, 3) := by decide +kernel
theorem dX9_nth_18 : decode cX9_nth 18 = .ok (.iload_n 3, 1) := by decide +kernel
theorem dX9_nth_19 : decode cX9_nth 19 = .ok (.iinc 3 (-1), 3) := by decide +kernel
theorem dX9_nth_22 : decode cX9_nth 22 = .ok (.ifCond .ne 6, 3) := by decide +kernel
theorem dX9_nth_25 : decode cX9_nth 25 = .ok (.iload 4, 2) := by decide +kernel
theorem dX9_nth_27 : decode cX9_nth 27 = .ok (.ireturn, 1) := by decide +kernel
theorem dX9_nth_28 : decode cX9_nth 28 = .ok (.iinc 4 1, 3) := by decide +kernel
theorem dX9_nth_31 : decode cX9_nth 31 = .ok (.goto (-26), 3) := by decide +kernel
theorem dX9_nth_34 : decode cX9_nth 34 = .ok (.iconst (-1), 1) := by decide +kernel
theorem dX9_nth_35 : decode cX9_nth 35 = .ok (.ireturn, 1) := by decide +kernel
theorem dX9_core_0 : decode cX9_core 0 = .ok (.aload_n 0, 1) := by decide +kernel
theorem dX9_core_1 : decode cX9_core 1 = .ok (.invokevirtual 240, 3) := by decide +kernel
theorem dX9_core_4 : decode cX9_core 4 = .ok (.ifCond .eq 9, 3) := by decide +kernel
theorem dX9_core_7 : decode cX9_core 7 = .ok (.aload_n 0, 1) := by decide +kernel
theorem dX9_core_8 : decode cX9_core 8 = .ok (.iconst 1, 1) := by decide +kernel
theorem dX9_core_9 : decode cX9_core 9 = .ok (.invokevirtual 117, 3) := by decide +kernel
theorem dX9_core_12 : decode cX9_core 12 = .ok (.ireturn, 1) := by decide +kernel
theorem dX9_core_13 : decode cX9_core 13 = .ok (.aload_n 0, 1) := by decide +kernel
theorem dX9_core_14 : decode cX9_core 14 = .ok (.invokevirtual 247, 3) := by decide +kernel
theorem dX9_core_17 : decode cX9_core 17 = .ok (.aload_n 0, 1) := by decide +kernel
theorem dX9_core_18 : decode cX9_core 18 = .ok (.iconst 0, 1) := by decide +kernel
theorem dX9_core_19 : decode cX9_core 19 = .ok (.putfield 97, 3) := by decide +kernel
theorem dX9_core_22 : decode cX9_core 22 = .ok (.aload_n 0, 1) := by decide +kernel
theorem dX9_core_23 : decode cX9_core 23 = .ok (.getfield 48, 3) := by decide +kernel
theorem dX9_core_26 : decode cX9_core 26 = .ok (.aload_n 0, 1) := by decide +kernel
theorem dX9_core_27 : decode cX9_core 27 = .ok (.getfield 146, 3) := by decide +kernel
theorem dX9_core_30 : decode cX9_core 30 = .ok (.invokestatic 250, 3) := by decide +kernel
theorem dX9_core_33 : decode cX9_core 33 = .ok (.ireturn, 1) := by decide +kernel
theorem dX9_coreAt_0 : decode cX9_coreAt 0 = .ok (.aload_n 0, 1) := by decide +kernel
theorem dX9_coreAt_1 : decode cX9_coreAt 1 = .ok (.invokevirtual 254, 3) := by decide +kernel
theorem dX9_coreAt_4 : decode cX9_coreAt 4 = .ok (.istore_n 2, 1) := by decide +kernel
theorem dX9_coreAt_5 : decode cX9_coreAt 5 = .ok (.aload_n 0, 1) := by decide +kernel
theorem dX9_coreAt_6 : decode cX9_coreAt 6 = .ok (.getfield 97, 3) := by decide +kernel
theorem dX9_coreAt_9 : decode cX9_coreAt 9 = .ok (.ifCond .eq 5, 3) := by decide +kernel
theorem dX9_coreAt_12 : decode cX9_coreAt 12 = .ok (.iconst 0, 1) := by decide +kernel
theorem dX9_coreAt_13 : decode cX9_coreAt 13 = .ok (.ireturn, 1) := by decide +kernel
theorem dX9_coreAt_14 : decode cX9_coreAt 14 = .ok (.iload_n 1, 1) := by decide +kernel
theorem dX9_coreAt_15 : decode cX9_coreAt 15 = .ok (.ifCond .lt 8, 3) := by decide +kernel
theorem dX9_coreAt_18 : decode cX9_coreAt 18 = .ok (.iload_n 1, 1) := by decide +kernel
theorem dX9_coreAt_19 : decode cX9_coreAt 19 = .ok (.iload_n 2, 1) := by decide +kernel
theorem dX9_coreAt_20 : decode cX9_coreAt 20 = .ok (.if_icmp .lt 9, 3) := by decide +kernel
theorem dX9_coreAt_23 : decode cX9_coreAt 23 = .ok (.aload_n 0, 1) := by decide +kernel
theorem dX9_coreAt_24 : decode cX9_coreAt 24 = .ok (.iconst 2, 1) := by decide +kernel
theorem dX9_coreAt_25 : decode cX9_coreAt 25 = .ok (.invokevirtual 117, 3) := by decide +kernel
theorem dX9_coreAt_28 : decode cX9_coreAt 28 = .ok (.ireturn, 1) := by decide +kernel
theorem dX9_coreAt_29 : decode cX9_coreAt 29 = .ok (.aload_n 0, 1) := by decide +kernel
theorem dX9_coreAt_30 : decode cX9_coreAt 30 = .ok (.getfield 48, 3) := by decide +kernel
theorem dX9_coreAt_33 : decode cX9_coreAt 33 = .ok (.aload_n 0, 1) := by decide +kernel
theorem dX9_coreAt_34 : decode cX9_coreAt 34 = .ok (.getfield 146, 3) := by decide +kernel
theorem dX9_coreAt_37 : decode cX9_coreAt 37 = .ok (.iload_n 1, 1) := by decide +kernel
theorem dX9_coreAt_38 : decode cX9_coreAt 38 = .ok (.invokestatic 257, 3) := by decide +kernel
theorem dX9_coreAt_41 : decode cX9_coreAt 41 = .ok (.ireturn, 1) := by decide +kernel
theorem dX9_follows_0 : decode cX9_follows 0 = .ok (.aload_n 0, 1) := by decide +kernel
theorem dX9_follows_1 : decode cX9_follows 1 = .ok (.iload_n 1, 1) := by decide +kernel
theorem dX9_follows_2 : decode cX9_follows 2 = .ok (.invokevirtual 143, 3) := by decide +kernel
theorem dX9_follows_5 : decode cX9_follows 5 = .ok (.ifCond .eq 5, 3) := by decide +kernel
theorem dX9_follows_8 : decode cX9_follows 8 = .ok (.iconst 0, 1) := by decide +kernel
theorem dX9_follows_9 : decode cX9_follows 9 = .ok (.ireturn, 1) := by decide +kernel
theorem dX9_follows_10 : decode cX9_follows 10 = .ok (.aload_n 0, 1) := by decide +kernel
theorem dX9_follows_11 : decode cX9_follows 11 = .ok (.invokevirtual 237, 3) := by decide +kernel
theorem dX9_follows_14 : decode cX9_follows 14 = .ok (.aload_n 0, 1) := by decide +kernel
theorem dX9_follows_15 : decode cX9_follows 15 = .ok (.iload_n 1, 1) := by decide +kernel
theorem dX9_follows_16 : decode cX9_follows 16 = .ok (.invokevirtual 261, 3) := by decide +kernel
theorem dX9_follows_19 : decode cX9_follows 19 = .ok (.ireturn, 1) := by decide +kernel
theorem dX9_reasons_0 : decode cX9_reasons 0 = .ok (.aload_n 0, 1) := by decide +kernel
theorem dX9_reasons_1 : decode cX9_reasons 1 = .ok (.iload_n 1, 1) := by decide +kernel
theorem dX9_reasons_2 : decode cX9_reasons 2 = .ok (.invokevirtual 143, 3) := by decide +kernel
theorem dX9_reasons_5 : decode cX9_reasons 5 = .ok (.ifCond .eq 5, 3) := by decide +kernel
theorem dX9_reasons_8 : decode cX9_reasons 8 = .ok (.iconst 0, 1) := by decide +kernel
theorem dX9_reasons_9 : decode cX9_reasons 9 = .ok (.ireturn, 1) := by decide +kernel
theorem dX9_reasons_10 : decode cX9_reasons 10 = .ok (.aload_n 0, 1) := by decide +kernel
theorem dX9_reasons_11 : decode cX9_reasons 11 = .ok (.invokevirtual 237, 3) := by decide +kernel
theorem dX9_reasons_14 : decode cX9_reasons 14 = .ok (.aload_n 0, 1) := by decide +kernel
theorem dX9_reasons_15 : decode cX9_reasons 15 = .ok (.iload_n 1, 1) := by decide +kernel
theorem dX9_reasons_16 : decode cX9_reasons 16 = .ok (.invokevirtual 261, 3) := by decide +kernel
theorem dX9_reasons_19 : decode cX9_reasons 19 = .ok (.ifCond .ne 9, 3) := by decide +kernel
theorem dX9_reasons_22 : decode cX9_reasons 22 = .ok (.aload_n 0, 1) := by decide +kernel
theorem dX9_reasons_23 : decode cX9_reasons 23 = .ok (.iconst 2, 1) := by decide +kernel
theorem dX9_reasons_24 : decode cX9_reasons 24 = .ok (.invokevirtual 117, 3) := by decide +kernel
theorem dX9_reasons_27 : decode cX9_reasons 27 = .ok (.ireturn, 1) := by decide +kernel
theorem dX9_reasons_28 : decode cX9_reasons 28 = .ok (.iconst 0, 1) := by decide +kernel
theorem dX9_reasons_29 : decode cX9_reasons 29 = .ok (.istore_n 2, 1) := by decide +kernel
theorem dX9_reasons_30 : decode cX9_reasons 30 = .ok (.iload_n 2, 1) := by decide +kernel
theorem dX9_reasons_31 : decode cX9_reasons 31 = .ok (.aload_n 0, 1) := by decide +kernel
theorem dX9_reasons_32 : decode cX9_reasons 32 = .ok (.getfield 146, 3) := by decide +kernel
theorem dX9_reasons_35 : decode cX9_reasons 35 = .ok (.if_icmp .ge 31, 3) := by decide +kernel
theorem dX9_reasons_38 : decode cX9_reasons 38 = .ok (.aload_n 0, 1) := by decide +kernel
theorem dX9_reasons_39 : decode cX9_reasons 39 = .ok (.getfield 45, 3) := by decide +kernel
theorem dX9_reasons_42 : decode cX9_reasons 42 = .ok (.iload_n 2, 1) := by decide +kernel
theorem dX9_reasons_43 : decode cX9_reasons 43 = .ok (.iconst 0, 1) := by decide +kernel
theorem dX9_reasons_44 : decode cX9_reasons 44 = .ok (.bastore, 1) := by decide +kernel
theorem dX9_reasons_45 : decode cX9_reasons 45 = .ok (.aload_n 0, 1) := by decide +kernel
theorem dX9_reasons_46 : decode cX9_reasons 46 = .ok (.iload_n 1, 1) := by decide +kernel
theorem dX9_reasons_47 : decode cX9_reasons 47 = .ok (.invokevirtual 261, 3) := by decide +kernel
theorem dX9_reasons_50 : decode cX9_reasons 50 = .ok (.ifCond .ne 10, 3) := by decide +kernel
theorem dX9_reasons_53 : decode cX9_reasons 53 = .ok (.aload_n 0, 1) := by decide +kernel
theorem dX9_reasons_54 : decode cX9_reasons 54 = .ok (.getfield 45, 3) := by decide +kernel
theorem dX9_reasons_57 : decode cX9_reasons 57 = .ok (.iload_n 2, 1) := by decide +kernel
theorem dX9_reasons_58 : decode cX9_reasons 58 = .ok (.iconst 1, 1) := by decide +kernel
theorem dX9_reasons_59 : decode cX9_reasons 59 = .ok (.bastore, 1) := by decide +kernel
theorem dX9_reasons_60 : decode cX9_reasons 60 = .ok (.iinc 2 1, 3) := by decide +kernel
theorem dX9_reasons_63 : decode cX9_reasons 63 = .ok (.goto (-33), 3) := by decide +kernel
theorem dX9_reasons_66 : decode cX9_reasons 66 = .ok (.iconst 0, 1) := by decide +kernel
theorem dX9_reasons_67 : decode cX9_reasons 67 = .ok (.istore_n 2, 1) := by decide +kernel
theorem dX9_reasons_68 : decode cX9_reasons 68 = .ok (.iload_n 2, 1) := by decide +kernel
theorem dX9_reasons_69 : decode cX9_reasons 69 = .ok (.aload_n 0, 1) := by decide +kernel
theorem dX9_reasons_70 : decode cX9_reasons 70 = .ok (.getfield 146, 3) := by decide +kernel
theorem dX9_reasons_73 : decode cX9_reasons 73 = .ok (.if_icmp .ge 21, 3) := by decide +kernel
theorem dX9_reasons_76 : decode cX9_reasons 76 = .ok (.aload_n 0, 1) := by decide +kernel
theorem dX9_reasons_77 : decode cX9_reasons 77 = .ok (.getfield 51, 3) := by decide +kernel
theorem dX9_reasons_80 : decode cX9_reasons 80 = .ok (.iload_n 2, 1) := by decide +kernel
theorem dX9_reasons_81 : decode cX9_reasons 81 = .ok (.aload_n 0, 1) := by decide +kernel
theorem dX9_reasons_82 : decode cX9_reasons 82 = .ok (.getfield 45, 3) := by decide +kernel
theorem dX9_reasons_85 : decode cX9_reasons 85 = .ok (.iload_n 2, 1) := by decide +kernel
theorem dX9_reasons_86 : decode cX9_reasons 86 = .ok (.baload, 1) := by decide +kernel
theorem dX9_reasons_87 : decode cX9_reasons 87 = .ok (.bastore, 1) := by decide +kernel
theorem dX9_reasons_88 : decode cX9_reasons 88 = .ok (.iinc 2 1, 3) := by decide +kernel
theorem dX9_reasons_91 : decode cX9_reasons 91 = .ok (.goto (-23), 3) := by decide +kernel
theorem dX9_reasons_94 : decode cX9_reasons 94 = .ok (.aload_n 0, 1) := by decide +kernel
theorem dX9_reasons_95 : decode cX9_reasons 95 = .ok (.getfield 51, 3) := by decide +kernel
theorem dX9_reasons_98 : decode cX9_reasons 98 = .ok (.aload_n 0, 1) := by decide +kernel
theorem dX9_reasons_99 : decode cX9_reasons 99 = .ok (.getfield 146, 3) := by decide +kernel
theorem dX9_reasons_102 : decode cX9_reasons 102 = .ok (.invokestatic 250, 3) := by decide +kernel
theorem dX9_reasons_105 : decode cX9_reasons 105 = .ok (.ireturn, 1) := by decide +kernel
theorem dX9_reasonAt_0 : decode cX9_reasonAt 0 = .ok (.aload_n 0, 1) := by decide +kernel
theorem dX9_reasonAt_1 : decode cX9_reasonAt 1 = .ok (.iload_n 1, 1) := by decide +kernel
theorem dX9_reasonAt_2 : decode cX9_reasonAt 2 = .ok (.invokevirtual 264, 3) := by decide +kernel
theorem dX9_reasonAt_5 : decode cX9_reasonAt 5 = .ok (.istore_n 3, 1) := by decide +kernel
theorem dX9_reasonAt_6 : decode cX9_reasonAt 6 = .ok (.aload_n 0, 1) := by decide +kernel
theorem dX9_reasonAt_7 : decode cX9_reasonAt 7 = .ok (.getfield 97, 3) := by decide +kernel
theorem dX9_reasonAt_10 : decode cX9_reasonAt 10 = .ok (.ifCond .eq 5, 3) := by decide +kernel
theorem dX9_reasonAt_13 : decode cX9_reasonAt 13 = .ok (.iconst 0, 1) := by decide +kernel
theorem dX9_reasonAt_14 : decode cX9_reasonAt 14 = .ok (.ireturn, 1) := by decide +kernel
theorem dX9_reasonAt_15 : decode cX9_reasonAt 15 = .ok (.iload_n 2, 1) := by decide +kernel
theorem dX9_reasonAt_16 : decode cX9_reasonAt 16 = .ok (.ifCond .lt 8, 3) := by decide +kernel
theorem dX9_reasonAt_19 : decode cX9_reasonAt 19 = .ok (.iload_n 2, 1) := by decide +kernel
theorem dX9_reasonAt_20 : decode cX9_reasonAt 20 = .ok (.iload_n 3, 1) := by decide +kernel
theorem dX9_reasonAt_21 : decode cX9_reasonAt 21 = .ok (.if_icmp .lt 9, 3) := by decide +kernel
theorem dX9_reasonAt_24 : decode cX9_reasonAt 24 = .ok (.aload_n 0, 1) := by decide +kernel
theorem dX9_reasonAt_25 : decode cX9_reasonAt 25 = .ok (.iconst 3, 1) := by decide +kernel
theorem dX9_reasonAt_26 : decode cX9_reasonAt 26 = .ok (.invokevirtual 117, 3) := by decide +kernel
theorem dX9_reasonAt_29 : decode cX9_reasonAt 29 = .ok (.ireturn, 1) := by decide +kernel
theorem dX9_reasonAt_30 : decode cX9_reasonAt 30 = .ok (.aload_n 0, 1) := by decide +kernel
theorem dX9_reasonAt_31 : decode cX9_reasonAt 31 = .ok (.getfield 51, 3) := by decide +kernel
theorem dX9_reasonAt_34 : decode cX9_reasonAt 34 = .ok (.aload_n 0, 1) := by decide +kernel
theorem dX9_reasonAt_35 : decode cX9_reasonAt 35 = .ok (.getfield 146, 3) := by decide +kernel
theorem dX9_reasonAt_38 : decode cX9_reasonAt 38 = .ok (.iload_n 2, 1) := by decide +kernel
theorem dX9_reasonAt_39 : decode cX9_reasonAt 39 = .ok (.invokestatic 257, 3) := by decide +kernel
theorem dX9_reasonAt_42 : decode cX9_reasonAt 42 = .ok (.ireturn, 1) := by decide +kernel
theorem dX9_bound_0 : decode cX9_bound 0 = .ok (.aload_n 0, 1) := by decide +kernel
theorem dX9_bound_1 : decode cX9_bound 1 = .ok (.iload_n 1, 1) := by decide +kernel
theorem dX9_bound_2 : decode cX9_bound 2 = .ok (.invokevirtual 125, 3) := by decide +kernel
theorem dX9_bound_5 : decode cX9_bound 5 = .ok (.ifCond .eq 11, 3) := by decide +kernel
theorem dX9_bound_8 : decode cX9_bound 8 = .ok (.aload_n 0, 1) := by decide +kernel
theorem dX9_bound_9 : decode cX9_bound 9 = .ok (.iload_n 2, 1) := by decide +kernel
theorem dX9_bound_10 : decode cX9_bound 10 = .ok (.invokevirtual 125, 3) := by decide +kernel
theorem dX9_bound_13 : decode cX9_bound 13 = .ok (.ifCond .ne 9, 3) := by decide +kernel
theorem dX9_bound_16 : decode cX9_bound 16 = .ok (.aload_n 0, 1) := by decide +kernel
theorem dX9_bound_17 : decode cX9_bound 17 = .ok (.iconst 1, 1) := by decide +kernel
theorem dX9_bound_18 : decode cX9_bound 18 = .ok (.invokevirtual 117, 3) := by decide +kernel
theorem dX9_bound_21 : decode cX9_bound 21 = .ok (.ireturn, 1) := by decide +kernel
theorem dX9_bound_22 : decode cX9_bound 22 = .ok (.aload_n 0, 1) := by decide +kernel
theorem dX9_bound_23 : decode cX9_bound 23 = .ok (.invokevirtual 240, 3) := by decide +kernel
theorem dX9_bound_26 : decode cX9_bound 26 = .ok (.ifCond .ne 9, 3) := by decide +kernel
theorem dX9_bound_29 : decode cX9_bound 29 = .ok (.aload_n 0, 1) := by decide +kernel
theorem dX9_bound_30 : decode cX9_bound 30 = .ok (.iconst 2, 1) := by decide +kernel
theorem dX9_bound_31 : decode cX9_bound 31 = .ok (.invokevirtual 117, 3) := by decide +kernel
theorem dX9_bound_34 : decode cX9_bound 34 = .ok (.ireturn, 1) := by decide +kernel
theorem dX9_bound_35 : decode cX9_bound 35 = .ok (.aload_n 0, 1) := by decide +kernel
theorem dX9_bound_36 : decode cX9_bound 36 = .ok (.iload_n 2, 1) := by decide +kernel
theorem dX9_bound_37 : decode cX9_bound 37 = .ok (.iload_n 1, 1) := by decide +kernel
theorem dX9_bound_38 : decode cX9_bound 38 = .ok (.sipush (-401), 3) := by decide +kernel
theorem dX9_bound_41 : decode cX9_bound 41 = .ok (.invokevirtual 243, 3) := by decide +kernel
theorem dX9_bound_44 : decode cX9_bound 44 = .ok (.ifCond .eq 9, 3) := by decide +kernel
theorem dX9_bound_47 : decode cX9_bound 47 = .ok (.aload_n 0, 1) := by decide +kernel
theorem dX9_bound_48 : decode cX9_bound 48 = .ok (.iconst 3, 1) := by decide +kernel
theorem dX9_bound_49 : decode cX9_bound 49 = .ok (.invokevirtual 117, 3) := by decide +kernel
theorem dX9_bound_52 : decode cX9_bound 52 = .ok (.ireturn, 1) := by decide +kernel
theorem dX9_bound_53 : decode cX9_bound 53 = .ok (.aload_n 0, 1) := by decide +kernel
theorem dX9_bound_54 : decode cX9_bound 54 = .ok (.iconst 0, 1) := by decide +kernel
theorem dX9_bound_55 : decode cX9_bound 55 = .ok (.putfield 97, 3) := by decide +kernel
theorem dX9_bound_58 : decode cX9_bound 58 = .ok (.sipush (-400), 3) := by decide +kernel
theorem dX9_bound_61 : decode cX9_bound 61 = .ok (.istore_n 3, 1) := by decide +kernel
theorem dX9_bound_62 : decode cX9_bound 62 = .ok (.sipush 400, 3) := by decide +kernel
theorem dX9_bound_65 : decode cX9_bound 65 = .ok (.istore 4, 2) := by decide +kernel
theorem dX9_bound_67 : decode cX9_bound 67 = .ok (.iload_n 3, 1) := by decide +kernel
theorem dX9_bound_68 : decode cX9_bound 68 = .ok (.iload 4, 2) := by decide +kernel
theorem dX9_bound_70 : decode cX9_bound 70 = .ok (.if_icmp .ge 42, 3) := by decide +kernel
theorem dX9_bound_73 : decode cX9_bound 73 = .ok (.iload_n 3, 1) := by decide +kernel
theorem dX9_bound_74 : decode cX9_bound 74 = .ok (.iload 4, 2) := by decide +kernel
theorem dX9_bound_76 : decode cX9_bound 76 = .ok (.iload_n 3, 1) := by decide +kernel
theorem dX9_bound_77 : decode cX9_bound 77 = .ok (.isub, 1) := by decide +kernel
theorem dX9_bound_78 : decode cX9_bound 78 = .ok (.iconst 2, 1) := by decide +kernel
theorem dX9_bound_79 : decode cX9_bound 79 = .ok (.idiv, 1) := by decide +kernel
theorem dX9_bound_80 : decode cX9_bound 80 = .ok (.iadd, 1) := by decide +kernel
theorem dX9_bound_81 : decode cX9_bound 81 = .ok (.istore 5, 2) := by decide +kernel
theorem dX9_bound_83 : decode cX9_bound 83 = .ok (.aload_n 0, 1) := by decide +kernel
theorem dX9_bound_84 : decode cX9_bound 84 = .ok (.iload_n 2, 1) := by decide +kernel
theorem dX9_bound_85 : decode cX9_bound 85 = .ok (.iload_n 1, 1) := by decide +kernel
theorem dX9_bound_86 : decode cX9_bound 86 = .ok (.iload 5, 2) := by decide +kernel
theorem dX9_bound_88 : decode cX9_bound 88 = .ok (.ineg, 1) := by decide +kernel
theorem dX9_bound_89 : decode cX9_bound 89 = .ok (.iconst 1, 1) := by decide +kernel
theorem dX9_bound_90 : decode cX9_bound 90 = .ok (.isub, 1) := by decide +kernel
theorem dX9_bound_91 : decode cX9_bound 91 = .ok (.invokevirtual 243, 3) := by decide +kernel
theorem dX9_bound_94 : decode cX9_bound 94 = .ok (.ifCond .eq 11, 3) := by decide +kernel
theorem dX9_bound_97 : decode cX9_bound 97 = .ok (.iload 5, 2) := by decide +kernel
theorem dX9_bound_99 : decode cX9_bound 99 = .ok (.iconst 1, 1) := by decide +kernel
theorem dX9_bound_100 : decode cX9_bound 100 = .ok (.iadd, 1) := by decide +kernel
theorem dX9_bound_101 : decode cX9_bound 101 = .ok (.istore_n 3, 1) := by decide +kernel
theorem dX9_bound_102 : decode cX9_bound 102 = .ok (.goto 7, 3) := by decide +kernel
theorem dX9_bound_105 : decode cX9_bound 105 = .ok (.iload 5, 2) := by decide +kernel
theorem dX9_bound_107 : decode cX9_bound 107 = .ok (.istore 4, 2) := by decide +kernel
theorem dX9_bound_109 : decode cX9_bound 109 = .ok (.goto (-42), 3) := by decide +kernel
theorem dX9_bound_112 : decode cX9_bound 112 = .ok (.iload_n 3, 1) := by decide +kernel
theorem dX9_bound_113 : decode cX9_bound 113 = .ok (.ireturn, 1) := by decide +kernel
theorem dX9_models_0 : decode cX9_models 0 = .ok (.aload_n 0, 1) := by decide +kernel
theorem dX9_models_1 : decode cX9_models 1 = .ok (.getfield 108, 3) := by decide +kernel
theorem dX9_models_4 : decode cX9_models 4 = .ok (.ifCond .eq 4, 3) := by decide +kernel
theorem dX9_models_7 : decode cX9_models 7 = .ok (.return_, 1) := by decide +kernel
theorem dX9_models_8 : decode cX9_models 8 = .ok (.aload_n 0, 1) := by decide +kernel
theorem dX9_models_9 : decode cX9_models 9 = .ok (.aload_n 0, 1) := by decide +kernel
theorem dX9_models_10 : decode cX9_models 10 = .ok (.invokevirtual 240, 3) := by decide +kernel
theorem dX9_models_13 : decode cX9_models 13 = .ok (.putfield 267, 3) := by decide +kernel
theorem dX9_models_16 : decode cX9_models 16 = .ok (.aload_n 0, 1) := by decide +kernel
theorem dX9_models_17 : decode cX9_models 17 = .ok (.iconst 1, 1) := by decide +kernel
theorem dX9_models_18 : decode cX9_models 18 = .ok (.putfield 108, 3) := by decide +kernel
theorem dX9_models_21 : decode cX9_models 21 = .ok (.aload_n 0, 1) := by decide +kernel
theorem dX9_models_22 : decode cX9_models 22 = .ok (.getfield 267, 3) := by decide +kernel
theorem dX9_models_25 : decode cX9_models 25 = .ok (.ifCond .ne 4, 3) := by decide +kernel
theorem dX9_models_28 : decode cX9_models 28 = .ok (.return_, 1) := by decide +kernel
theorem dX9_models_29 : decode cX9_models 29 = .ok (.iconst 0, 1) := by decide +kernel
theorem dX9_models_30 : decode cX9_models 30 = .ok (.istore_n 1, 1) := by decide +kernel
theorem dX9_models_31 : decode cX9_models 31 = .ok (.iload_n 1, 1) := by decide +kernel
theorem dX9_models_32 : decode cX9_models 32 = .ok (.aload_n 0, 1) := by decide +kernel
theorem dX9_models_33 : decode cX9_models 33 = .ok (.getfield 101, 3) := by decide +kernel
theorem dX9_models_36 : decode cX9_models 36 = .ok (.if_icmp .ge 25, 3) := by decide +kernel
theorem dX9_models_39 : decode cX9_models 39 = .ok (.aload_n 0, 1) := by decide +kernel
theorem dX9_models_40 : decode cX9_models 40 = .ok (.iload_n 1, 1) := by decide +kernel
theorem dX9_models_41 : decode cX9_models 41 = .ok (.invokevirtual 125, 3) := by decide +kernel
theorem dX9_models_44 : decode cX9_models 44 = .ok (.ifCond .eq 11, 3) := by decide +kernel
theorem dX9_models_47 : decode cX9_models 47 = .ok (.aload_n 0, 1) := by decide +kernel
theorem dX9_models_48 : decode cX9_models 48 = .ok (.bipush 14, 2) := by decide +kernel
theorem dX9_models_50 : decode cX9_models 50 = .ok (.iload_n 1, 1) := by decide +kernel
theorem dX9_models_51 : decode cX9_models 51 = .ok (.iconst 0, 1) := by decide +kernel
theorem dX9_models_52 : decode cX9_models 52 = .ok (.invokevirtual 231, 3) := by decide +kernel
theorem dX9_models_55 : decode cX9_models 55 = .ok (.iinc 1 1, 3) := by decide +kernel
theorem dX9_models_58 : decode cX9_models 58 = .ok (.goto (-27), 3) := by decide +kernel
theorem dX9_models_61 : decode cX9_models 61 = .ok (.aload_n 0, 1) := by decide +kernel
theorem dX9_models_62 : decode cX9_models 62 = .ok (.invokevirtual 234, 3) := by decide +kernel
theorem dX9_models_65 : decode cX9_models 65 = .ok (.istore_n 1, 1) := by decide +kernel
theorem dX9_models_66 : decode cX9_models 66 = .ok (.iconst 0, 1) := by decide +kernel
theorem dX9_models_67 : decode cX9_models 67 = .ok (.istore_n 2, 1) := by decide +kernel
theorem dX9_models_68 : decode cX9_models 68 = .ok (.iload_n 2, 1) := by decide +kernel
theorem dX9_models_69 : decode cX9_models 69 = .ok (.aload_n 0, 1) := by decide +kernel
theorem dX9_models_70 : decode cX9_models 70 = .ok (.getfield 101, 3) := by decide +kernel
theorem dX9_models_73 : decode cX9_models 73 = .ok (.if_icmp .ge 97, 3) := by decide +kernel
theorem dX9_models_76 : decode cX9_models 76 = .ok (.aload_n 0, 1) := by decide +kernel
theorem dX9_models_77 : decode cX9_models 77 = .ok (.iload_n 2, 1) := by decide +kernel
theorem dX9_models_78 : decode cX9_models 78 = .ok (.invokevirtual 125, 3) := by decide +kernel
theorem dX9_models_81 : decode cX9_models 81 = .ok (.ifCond .ne 6, 3) := by decide +kernel
theorem dX9_models_84 : decode cX9_models 84 = .ok (.goto 80, 3) := by decide +kernel
theorem dX9_models_87 : decode cX9_models 87 = .ok (.aload_n 0, 1) := by decide +kernel
theorem dX9_models_88 : decode cX9_models 88 = .ok (.getfield 82, 3) := by decide +kernel
theorem dX9_models_91 : decode cX9_models 91 = .ok (.aload_n 0, 1) := by decide +kernel
theorem dX9_models_92 : decode cX9_models 92 = .ok (.bipush 14, 2) := by decide +kernel
theorem dX9_models_94 : decode cX9_models 94 = .ok (.iload_n 2, 1) := by decide +kernel
theorem dX9_models_95 : decode cX9_models 95 = .ok (.invokevirtual 194, 3) := by decide +kernel
theorem dX9_models_98 : decode cX9_models 98 = .ok (.iaload, 1) := by decide +kernel
theorem dX9_models_99 : decode cX9_models 99 = .ok (.ineg, 1) := by decide +kernel
theorem dX9_models_100 : decode cX9_models 100 = .ok (.istore_n 3, 1) := by decide +kernel
theorem dX9_models_101 : decode cX9_models 101 = .ok (.iload_n 3, 1) := by decide +kernel
theorem dX9_models_102 : decode cX9_models 102 = .ok (.ifCond .le 33, 3) := by decide +kernel
theorem dX9_models_105 : decode cX9_models 105 = .ok (.aload_n 0, 1) := by decide +kernel
theorem dX9_models_106 : decode cX9_models 106 = .ok (.iload_n 2, 1) := by decide +kernel
theorem dX9_models_107 : decode cX9_models 107 = .ok (.bipush 14, 2) := by decide +kernel
theorem dX9_models_109 : decode cX9_models 109 = .ok (.iload_n 3, 1) := by decide +kernel
theorem dX9_models_110 : decode cX9_models 110 = .ok (.iconst 1, 1) := by decide +kernel
theorem dX9_models_111 : decode cX9_models 111 = .ok (.isub, 1) := by decide +kernel
theorem dX9_models_112 : decode cX9_models 112 = .ok (.invokevirtual 243, 3) := by decide +kernel
theorem dX9_models_115 : decode cX9_models 115 = .ok (.ifCond .eq 20, 3) := by decide +kernel
theorem dX9_models_118 : decode cX9_models 118 = .ok (.aload_n 0, 1) := by decide +kernel
theorem dX9_models_119 : decode cX9_models 119 = .ok (.getfield 82, 3) := by decide +kernel
theorem dX9_models_122 : decode cX9_models 122 = .ok (.aload_n 0, 1) := by decide +kernel
theorem dX9_models_123 : decode cX9_models 123 = .ok (.bipush 14, 2) := by decide +kernel
theorem dX9_models_125 : decode cX9_models 125 = .ok (.iload_n 2, 1) := by decide +kernel
theorem dX9_models_126 : decode cX9_models 126 = .ok (.invokevirtual 194, 3) := by decide +kernel
theorem dX9_models_129 : decode cX9_models 129 = .ok (.iaload, 1) := by decide +kernel
theorem dX9_models_130 : decode cX9_models 130 = .ok (.ineg, 1) := by decide +kernel
theorem dX9_models_131 : decode cX9_models 131 = .ok (.istore_n 3, 1) := by decide +kernel
theorem dX9_models_132 : decode cX9_models 132 = .ok (.goto (-31), 3) := by decide +kernel
theorem dX9_models_135 : decode cX9_models 135 = .ok (.aload_n 0, 1) := by decide +kernel
theorem dX9_models_136 : decode cX9_models 136 = .ok (.getfield 91, 3) := by decide +kernel
theorem dX9_models_139 : decode cX9_models 139 = .ok (.iload_n 2, 1) := by decide +kernel
theorem dX9_models_140 : decode cX9_models 140 = .ok (.iload_n 3, 1) := by decide +kernel
theorem dX9_models_141 : decode cX9_models 141 = .ok (.iastore, 1) := by decide +kernel
theorem dX9_models_142 : decode cX9_models 142 = .ok (.aload_n 0, 1) := by decide +kernel
theorem dX9_models_143 : decode cX9_models 143 = .ok (.iload_n 2, 1) := by decide +kernel
theorem dX9_models_144 : decode cX9_models 144 = .ok (.bipush 14, 2) := by decide +kernel
theorem dX9_models_146 : decode cX9_models 146 = .ok (.iload_n 3, 1) := by decide +kernel
theorem dX9_models_147 : decode cX9_models 147 = .ok (.invokevirtual 231, 3) := by decide +kernel
theorem dX9_models_150 : decode cX9_models 150 = .ok (.aload_n 0, 1) := by decide +kernel
theorem dX9_models_151 : decode cX9_models 151 = .ok (.bipush 14, 2) := by decide +kernel
theorem dX9_models_153 : decode cX9_models 153 = .ok (.iload_n 2, 1) := by decide +kernel
theorem dX9_models_154 : decode cX9_models 154 = .ok (.iload_n 3, 1) := by decide +kernel
theorem dX9_models_155 : decode cX9_models 155 = .ok (.ineg, 1) := by decide +kernel
theorem dX9_models_156 : decode cX9_models 156 = .ok (.invokevirtual 231, 3) := by decide +kernel
theorem dX9_models_159 : decode cX9_models 159 = .ok (.aload_n 0, 1) := by decide +kernel
theorem dX9_models_160 : decode cX9_models 160 = .ok (.invokevirtual 234, 3) := by decide +kernel
theorem dX9_models_163 : decode cX9_models 163 = .ok (.istore_n 1, 1) := by decide +kernel
theorem dX9_models_164 : decode cX9_models 164 = .ok (.iinc 2 1, 3) := by decide +kernel
theorem dX9_models_167 : decode cX9_models 167 = .ok (.goto (-99), 3) := by decide +kernel
theorem dX9_models_170 : decode cX9_models 170 = .ok (.return_, 1) := by decide +kernel
theorem dX9_noModel_0 : decode cX9_noModel 0 = .ok (.aload_n 0, 1) := by decide +kernel
theorem dX9_noModel_1 : decode cX9_noModel 1 = .ok (.invokevirtual 270, 3) := by decide +kernel
theorem dX9_noModel_4 : decode cX9_noModel 4 = .ok (.aload_n 0, 1) := by decide +kernel
theorem dX9_noModel_5 : decode cX9_noModel 5 = .ok (.aload_n 0, 1) := by decide +kernel
theorem dX9_noModel_6 : decode cX9_noModel 6 = .ok (.getfield 267, 3) := by decide +kernel
theorem dX9_noModel_9 : decode cX9_noModel 9 = .ok (.ifCond .eq 7, 3) := by decide +kernel
theorem dX9_noModel_12 : decode cX9_noModel 12 = .ok (.iconst 0, 1) := by decide +kernel
theorem dX9_noModel_13 : decode cX9_noModel 13 = .ok (.goto 4, 3) := by decide +kernel
theorem dX9_noModel_16 : decode cX9_noModel 16 = .ok (.iload_n 1, 1) := by decide +kernel
theorem dX9_noModel_17 : decode cX9_noModel 17 = .ok (.putfield 97, 3) := by decide +kernel
theorem dX9_noModel_20 : decode cX9_noModel 20 = .ok (.aload_n 0, 1) := by decide +kernel
theorem dX9_noModel_21 : decode cX9_noModel 21 = .ok (.getfield 267, 3) := by decide +kernel
theorem dX9_noModel_24 : decode cX9_noModel 24 = .ok (.ifCond .ne 7, 3) := by decide +kernel
theorem dX9_noModel_27 : decode cX9_noModel 27 = .ok (.iconst 1, 1) := by decide +kernel
theorem dX9_noModel_28 : decode cX9_noModel 28 = .ok (.goto 4, 3) := by decide +kernel
theorem dX9_noModel_31 : decode cX9_noModel 31 = .ok (.iconst 0, 1) := by decide +kernel
theorem dX9_noModel_32 : decode cX9_noModel 32 = .ok (.ireturn, 1) := by decide +kernel
theorem dX9_sorts_0 : decode cX9_sorts 0 = .ok (.aload_n 0, 1) := by decide +kernel
theorem dX9_sorts_1 : decode cX9_sorts 1 = .ok (.invokevirtual 270, 3) := by decide +kernel
theorem dX9_sorts_4 : decode cX9_sorts 4 = .ok (.aload_n 0, 1) := by decide +kernel
theorem dX9_sorts_5 : decode cX9_sorts 5 = .ok (.invokevirtual 237, 3) := by decide +kernel
theorem dX9_sorts_8 : decode cX9_sorts 8 = .ok (.iconst 0, 1) := by decide +kernel
theorem dX9_sorts_9 : decode cX9_sorts 9 = .ok (.istore_n 1, 1) := by decide +kernel
theorem dX9_sorts_10 : decode cX9_sorts 10 = .ok (.iload_n 1, 1) := by decide +kernel
theorem dX9_sorts_11 : decode cX9_sorts 11 = .ok (.aload_n 0, 1) := by decide +kernel
theorem dX9_sorts_12 : decode cX9_sorts 12 = .ok (.getfield 101, 3) := by decide +kernel
theorem dX9_sorts_15 : decode cX9_sorts 15 = .ok (.if_icmp .ge 115, 3) := by decide +kernel
theorem dX9_sorts_18 : decode cX9_sorts 18 = .ok (.aload_n 0, 1) := by decide +kernel
theorem dX9_sorts_19 : decode cX9_sorts 19 = .ok (.getfield 94, 3) := by decide +kernel
theorem dX9_sorts_22 : decode cX9_sorts 22 = .ok (.iload_n 1, 1) := by decide +kernel
theorem dX9_sorts_23 : decode cX9_sorts 23 = .ok (.iload_n 1, 1) := by decide +kernel
theorem dX9_sorts_24 : decode cX9_sorts 24 = .ok (.iastore, 1) := by decide +kernel
theorem dX9_sorts_25 : decode cX9_sorts 25 = .ok (.iconst 0, 1) := by decide +kernel
theorem dX9_sorts_26 : decode cX9_sorts 26 = .ok (.istore_n 2, 1) := by decide +kernel
theorem dX9_sorts_27 : decode cX9_sorts 27 = .ok (.iload_n 2, 1) := by decide +kernel
theorem dX9_sorts_28 : decode cX9_sorts 28 = .ok (.iload_n 1, 1) := by decide +kernel
theorem dX9_sorts_29 : decode cX9_sorts 29 = .ok (.if_icmp .ge 95, 3) := by decide +kernel
theorem dX9_sorts_32 : decode cX9_sorts 32 = .ok (.aload_n 0, 1) := by decide +kernel
theorem dX9_sorts_33 : decode cX9_sorts 33 = .ok (.getfield 94, 3) := by decide +kernel
theorem dX9_sorts_36 : decode cX9_sorts 36 = .ok (.iload_n 1, 1) := by decide +kernel
theorem dX9_sorts_37 : decode cX9_sorts 37 = .ok (.iaload, 1) := by decide +kernel
theorem dX9_sorts_38 : decode cX9_sorts 38 = .ok (.iload_n 1, 1) := by decide +kernel
theorem dX9_sorts_39 : decode cX9_sorts 39 = .ok (.if_icmp .ne 85, 3) := by decide +kernel
theorem dX9_sorts_42 : decode cX9_sorts 42 = .ok (.aload_n 0, 1) := by decide +kernel
theorem dX9_sorts_43 : decode cX9_sorts 43 = .ok (.iconst 0, 1) := by decide +kernel
theorem dX9_sorts_44 : decode cX9_sorts 44 = .ok (.putfield 201, 3) := by decide +kernel
theorem dX9_sorts_47 : decode cX9_sorts 47 = .ok (.aload_n 0, 1) := by decide +kernel
theorem dX9_sorts_48 : decode cX9_sorts 48 = .ok (.iload_n 1, 1) := by decide +kernel
theorem dX9_sorts_49 : decode cX9_sorts 49 = .ok (.invokevirtual 125, 3) := by decide +kernel
theorem dX9_sorts_52 : decode cX9_sorts 52 = .ok (.ifCond .eq 66, 3) := by decide +kernel
theorem dX9_sorts_55 : decode cX9_sorts 55 = .ok (.aload_n 0, 1) := by decide +kernel
theorem dX9_sorts_56 : decode cX9_sorts 56 = .ok (.iload_n 2, 1) := by decide +kernel
theorem dX9_sorts_57 : decode cX9_sorts 57 = .ok (.invokevirtual 125, 3) := by decide +kernel
theorem dX9_sorts_60 : decode cX9_sorts 60 = .ok (.ifCond .eq 58, 3) := by decide +kernel
theorem dX9_sorts_63 : decode cX9_sorts 63 = .ok (.aload_n 0, 1) := by decide +kernel
theorem dX9_sorts_64 : decode cX9_sorts 64 = .ok (.getfield 94, 3) := by decide +kernel
theorem dX9_sorts_67 : decode cX9_sorts 67 = .ok (.iload_n 2, 1) := by decide +kernel
theorem dX9_sorts_68 : decode cX9_sorts 68 = .ok (.iaload, 1) := by decide +kernel
theorem dX9_sorts_69 : decode cX9_sorts 69 = .ok (.iload_n 2, 1) := by decide +kernel
theorem dX9_sorts_70 : decode cX9_sorts 70 = .ok (.if_icmp .ne 48, 3) := by decide +kernel
theorem dX9_sorts_73 : decode cX9_sorts 73 = .ok (.aload_n 0, 1) := by decide +kernel
theorem dX9_sorts_74 : decode cX9_sorts 74 = .ok (.getfield 91, 3) := by decide +kernel
theorem dX9_sorts_77 : decode cX9_sorts 77 = .ok (.iload_n 2, 1) := by decide +kernel
theorem dX9_sorts_78 : decode cX9_sorts 78 = .ok (.iaload, 1) := by decide +kernel
theorem dX9_sorts_79 : decode cX9_sorts 79 = .ok (.aload_n 0, 1) := by decide +kernel
theorem dX9_sorts_80 : decode cX9_sorts 80 = .ok (.getfield 91, 3) := by decide +kernel
theorem dX9_sorts_83 : decode cX9_sorts 83 = .ok (.iload_n 1, 1) := by decide +kernel
theorem dX9_sorts_84 : decode cX9_sorts 84 = .ok (.iaload, 1) := by decide +kernel
theorem dX9_sorts_85 : decode cX9_sorts 85 = .ok (.if_icmp .eq 6, 3) := by decide +kernel
theorem dX9_sorts_88 : decode cX9_sorts 88 = .ok (.goto 30, 3) := by decide +kernel
theorem dX9_sorts_91 : decode cX9_sorts 91 = .ok (.aload_n 0, 1) := by decide +kernel
theorem dX9_sorts_92 : decode cX9_sorts 92 = .ok (.iload_n 2, 1) := by decide +kernel
theorem dX9_sorts_93 : decode cX9_sorts 93 = .ok (.iload_n 1, 1) := by decide +kernel
theorem dX9_sorts_94 : decode cX9_sorts 94 = .ok (.iconst (-1), 1) := by decide +kernel
theorem dX9_sorts_95 : decode cX9_sorts 95 = .ok (.invokevirtual 243, 3) := by decide +kernel
theorem dX9_sorts_98 : decode cX9_sorts 98 = .ok (.ifCond .ne 20, 3) := by decide +kernel
theorem dX9_sorts_101 : decode cX9_sorts 101 = .ok (.aload_n 0, 1) := by decide +kernel
theorem dX9_sorts_102 : decode cX9_sorts 102 = .ok (.iload_n 1, 1) := by decide +kernel
theorem dX9_sorts_103 : decode cX9_sorts 103 = .ok (.iload_n 2, 1) := by decide +kernel
theorem dX9_sorts_104 : decode cX9_sorts 104 = .ok (.iconst (-1), 1) := by decide +kernel
theorem dX9_sorts_105 : decode cX9_sorts 105 = .ok (.invokevirtual 243, 3) := by decide +kernel
theorem dX9_sorts_108 : decode cX9_sorts 108 = .ok (.ifCond .ne 10, 3) := by decide +kernel
theorem dX9_sorts_111 : decode cX9_sorts 111 = .ok (.aload_n 0, 1) := by decide +kernel
theorem dX9_sorts_112 : decode cX9_sorts 112 = .ok (.getfield 94, 3) := by decide +kernel
theorem dX9_sorts_115 : decode cX9_sorts 115 = .ok (.iload_n 1, 1) := by decide +kernel
theorem dX9_sorts_116 : decode cX9_sorts 116 = .ok (.iload_n 2, 1) := by decide +kernel
theorem dX9_sorts_117 : decode cX9_sorts 117 = .ok (.iastore, 1) := by decide +kernel
theorem dX9_sorts_118 : decode cX9_sorts 118 = .ok (.iinc 2 1, 3) := by decide +kernel
theorem dX9_sorts_121 : decode cX9_sorts 121 = .ok (.goto (-94), 3) := by decide +kernel
theorem dX9_sorts_124 : decode cX9_sorts 124 = .ok (.iinc 1 1, 3) := by decide +kernel
theorem dX9_sorts_127 : decode cX9_sorts 127 = .ok (.goto (-117), 3) := by decide +kernel
theorem dX9_sorts_130 : decode cX9_sorts 130 = .ok (.return_, 1) := by decide +kernel
theorem dX9_classOf_0 : decode cX9_classOf 0 = .ok (.aload_n 0, 1) := by decide +kernel
theorem dX9_classOf_1 : decode cX9_classOf 1 = .ok (.iload_n 1, 1) := by decide +kernel
theorem dX9_classOf_2 : decode cX9_classOf 2 = .ok (.invokevirtual 125, 3) := by decide +kernel
theorem dX9_classOf_5 : decode cX9_classOf 5 = .ok (.ifCond .ne 9, 3) := by decide +kernel
theorem dX9_classOf_8 : decode cX9_classOf 8 = .ok (.aload_n 0, 1) := by decide +kernel
theorem dX9_classOf_9 : decode cX9_classOf 9 = .ok (.iconst 1, 1) := by decide +kernel
theorem dX9_classOf_10 : decode cX9_classOf 10 = .ok (.invokevirtual 117, 3) := by decide +kernel
theorem dX9_classOf_13 : decode cX9_classOf 13 = .ok (.ireturn, 1) := by decide +kernel
theorem dX9_classOf_14 : decode cX9_classOf 14 = .ok (.aload_n 0, 1) := by decide +kernel
theorem dX9_classOf_15 : decode cX9_classOf 15 = .ok (.iconst 2, 1) := by decide +kernel
theorem dX9_classOf_16 : decode cX9_classOf 16 = .ok (.invokevirtual 273, 3) := by decide +kernel
theorem dX9_classOf_19 : decode cX9_classOf 19 = .ok (.ifCond .eq 5, 3) := by decide +kernel
theorem dX9_classOf_22 : decode cX9_classOf 22 = .ok (.iconst 0, 1) := by decide +kernel
theorem dX9_classOf_23 : decode cX9_classOf 23 = .ok (.ireturn, 1) := by decide +kernel
theorem dX9_classOf_24 : decode cX9_classOf 24 = .ok (.aload_n 0, 1) := by decide +kernel
theorem dX9_classOf_25 : decode cX9_classOf 25 = .ok (.invokevirtual 276, 3) := by decide +kernel
theorem dX9_classOf_28 : decode cX9_classOf 28 = .ok (.aload_n 0, 1) := by decide +kernel
theorem dX9_classOf_29 : decode cX9_classOf 29 = .ok (.getfield 94, 3) := by decide +kernel
theorem dX9_classOf_32 : decode cX9_classOf 32 = .ok (.iload_n 1, 1) := by decide +kernel
theorem dX9_classOf_33 : decode cX9_classOf 33 = .ok (.iaload, 1) := by decide +kernel
theorem dX9_classOf_34 : decode cX9_classOf 34 = .ok (.ireturn, 1) := by decide +kernel
theorem dX9_classes_0 : decode cX9_classes 0 = .ok (.aload_n 0, 1) := by decide +kernel
theorem dX9_classes_1 : decode cX9_classes 1 = .ok (.iconst 1, 1) := by decide +kernel
theorem dX9_classes_2 : decode cX9_classes 2 = .ok (.invokevirtual 273, 3) := by decide +kernel
theorem dX9_classes_5 : decode cX9_classes 5 = .ok (.ifCond .eq 5, 3) := by decide +kernel
theorem dX9_classes_8 : decode cX9_classes 8 = .ok (.iconst 0, 1) := by decide +kernel
theorem dX9_classes_9 : decode cX9_classes 9 = .ok (.ireturn, 1) := by decide +kernel
theorem dX9_classes_10 : decode cX9_classes 10 = .ok (.aload_n 0, 1) := by decide +kernel
theorem dX9_classes_11 : decode cX9_classes 11 = .ok (.invokevirtual 276, 3) := by decide +kernel
theorem dX9_classes_14 : decode cX9_classes 14 = .ok (.iconst 0, 1) := by decide +kernel
theorem dX9_classes_15 : decode cX9_classes 15 = .ok (.istore_n 1, 1) := by decide +kernel
theorem dX9_classes_16 : decode cX9_classes 16 = .ok (.iconst 0, 1) := by decide +kernel
theorem dX9_classes_17 : decode cX9_classes 17 = .ok (.istore_n 2, 1) := by decide +kernel
theorem dX9_classes_18 : decode cX9_classes 18 = .ok (.iload_n 2, 1) := by decide +kernel
theorem dX9_classes_19 : decode cX9_classes 19 = .ok (.aload_n 0, 1) := by decide +kernel
theorem dX9_classes_20 : decode cX9_classes 20 = .ok (.getfield 101, 3) := by decide +kernel
theorem dX9_classes_23 : decode cX9_classes 23 = .ok (.if_icmp .ge 35, 3) := by decide +kernel
theorem dX9_classes_26 : decode cX9_classes 26 = .ok (.iload_n 1, 1) := by decide +kernel
theorem dX9_classes_27 : decode cX9_classes 27 = .ok (.aload_n 0, 1) := by decide +kernel
theorem dX9_classes_28 : decode cX9_classes 28 = .ok (.iload_n 2, 1) := by decide +kernel
theorem dX9_classes_29 : decode cX9_classes 29 = .ok (.invokevirtual 125, 3) := by decide +kernel
theorem dX9_classes_32 : decode cX9_classes 32 = .ok (.ifCond .eq 17, 3) := by decide +kernel
theorem dX9_classes_35 : decode cX9_classes 35 = .ok (.aload_n 0, 1) := by decide +kernel
theorem dX9_classes_36 : decode cX9_classes 36 = .ok (.getfield 94, 3) := by decide +kernel
theorem dX9_classes_39 : decode cX9_classes 39 = .ok (.iload_n 2, 1) := by decide +kernel
theorem dX9_classes_40 : decode cX9_classes 40 = .ok (.iaload, 1) := by decide +kernel
theorem dX9_classes_41 : decode cX9_classes 41 = .ok (.iload_n 2, 1) := by decide +kernel
theorem dX9_classes_42 : decode cX9_classes 42 = .ok (.if_icmp .ne 7, 3) := by decide +kernel
theorem dX9_classes_45 : decode cX9_classes 45 = .ok (.iconst 1, 1) := by decide +kernel
theorem dX9_classes_46 : decode cX9_classes 46 = .ok (.goto 4, 3) := by decide +kernel
theorem dX9_classes_49 : decode cX9_classes 49 = .ok (.iconst 0, 1) := by decide +kernel
theorem dX9_classes_50 : decode cX9_classes 50 = .ok (.iadd, 1) := by decide +kernel
theorem dX9_classes_51 : decode cX9_classes 51 = .ok (.istore_n 1, 1) := by decide +kernel
theorem dX9_classes_52 : decode cX9_classes 52 = .ok (.iinc 2 1, 3) := by decide +kernel
theorem dX9_classes_55 : decode cX9_classes 55 = .ok (.goto (-37), 3) := by decide +kernel
theorem dX9_classes_58 : decode cX9_classes 58 = .ok (.iload_n 1, 1) := by decide +kernel
theorem dX9_classes_59 : decode cX9_classes 59 = .ok (.ireturn, 1) := by decide +kernel
theorem dX9_valueOf_0 : decode cX9_valueOf 0 = .ok (.aload_n 0, 1) := by decide +kernel
theorem dX9_valueOf_1 : decode cX9_valueOf 1 = .ok (.iload_n 1, 1) := by decide +kernel
theorem dX9_valueOf_2 : decode cX9_valueOf 2 = .ok (.invokevirtual 125, 3) := by decide +kernel
theorem dX9_valueOf_5 : decode cX9_valueOf 5 = .ok (.ifCond .ne 9, 3) := by decide +kernel
theorem dX9_valueOf_8 : decode cX9_valueOf 8 = .ok (.aload_n 0, 1) := by decide +kernel
theorem dX9_valueOf_9 : decode cX9_valueOf 9 = .ok (.iconst 1, 1) := by decide +kernel
theorem dX9_valueOf_10 : decode cX9_valueOf 10 = .ok (.invokevirtual 117, 3) := by decide +kernel
theorem dX9_valueOf_13 : decode cX9_valueOf 13 = .ok (.ireturn, 1) := by decide +kernel
theorem dX9_valueOf_14 : decode cX9_valueOf 14 = .ok (.aload_n 0, 1) := by decide +kernel
theorem dX9_valueOf_15 : decode cX9_valueOf 15 = .ok (.iconst 2, 1) := by decide +kernel
theorem dX9_valueOf_16 : decode cX9_valueOf 16 = .ok (.invokevirtual 273, 3) := by decide +kernel
theorem dX9_valueOf_19 : decode cX9_valueOf 19 = .ok (.ifCond .eq 7, 3) := by decide +kernel
theorem dX9_valueOf_22 : decode cX9_valueOf 22 = .ok (.iconst 0, 1) := by decide +kernel
theorem dX9_valueOf_23 : decode cX9_valueOf 23 = .ok (.goto 9, 3) := by decide +kernel
theorem dX9_valueOf_26 : decode cX9_valueOf 26 = .ok (.aload_n 0, 1) := by decide +kernel
theorem dX9_valueOf_27 : decode cX9_valueOf 27 = .ok (.getfield 91, 3) := by decide +kernel
theorem dX9_valueOf_30 : decode cX9_valueOf 30 = .ok (.iload_n 1, 1) := by decide +kernel
theorem dX9_valueOf_31 : decode cX9_valueOf 31 = .ok (.iaload, 1) := by decide +kernel
theorem dX9_valueOf_32 : decode cX9_valueOf 32 = .ok (.ireturn, 1) := by decide +kernel
theorem dX9_functionAt_0 : decode cX9_functionAt 0 = .ok (.iload_n 1, 1) := by decide +kernel
theorem dX9_functionAt_1 : decode cX9_functionAt 1 = .ok (.ifCond .lt 8, 3) := by decide +kernel
theorem dX9_functionAt_4 : decode cX9_functionAt 4 = .ok (.iload_n 1, 1) := by decide +kernel
theorem dX9_functionAt_5 : decode cX9_functionAt 5 = .ok (.iconst 3, 1) := by decide +kernel
theorem dX9_functionAt_6 : decode cX9_functionAt 6 = .ok (.if_icmp .le 9, 3) := by decide +kernel
theorem dX9_functionAt_9 : decode cX9_functionAt 9 = .ok (.aload_n 0, 1) := by decide +kernel
theorem dX9_functionAt_10 : decode cX9_functionAt 10 = .ok (.iconst 1, 1) := by decide +kernel
theorem dX9_functionAt_11 : decode cX9_functionAt 11 = .ok (.invokevirtual 117, 3) := by decide +kernel
theorem dX9_functionAt_14 : decode cX9_functionAt 14 = .ok (.ireturn, 1) := by decide +kernel
theorem dX9_functionAt_15 : decode cX9_functionAt 15 = .ok (.aload_n 0, 1) := by decide +kernel
theorem dX9_functionAt_16 : decode cX9_functionAt 16 = .ok (.iconst 2, 1) := by decide +kernel
theorem dX9_functionAt_17 : decode cX9_functionAt 17 = .ok (.invokevirtual 273, 3) := by decide +kernel
theorem dX9_functionAt_20 : decode cX9_functionAt 20 = .ok (.ifCond .eq 5, 3) := by decide +kernel
theorem dX9_functionAt_23 : decode cX9_functionAt 23 = .ok (.iconst 0, 1) := by decide +kernel
theorem dX9_functionAt_24 : decode cX9_functionAt 24 = .ok (.ireturn, 1) := by decide +kernel
theorem dX9_functionAt_25 : decode cX9_functionAt 25 = .ok (.iconst 0, 1) := by decide +kernel
theorem dX9_functionAt_26 : decode cX9_functionAt 26 = .ok (.istore 4, 2) := by decide +kernel
theorem dX9_functionAt_28 : decode cX9_functionAt 28 = .ok (.iload 4, 2) := by decide +kernel
theorem dX9_functionAt_30 : decode cX9_functionAt 30 = .ok (.aload_n 0, 1) := by decide +kernel
theorem dX9_functionAt_31 : decode cX9_functionAt 31 = .ok (.getfield 101, 3) := by decide +kernel
theorem dX9_functionAt_34 : decode cX9_functionAt 34 = .ok (.if_icmp .ge 77, 3) := by decide +kernel
theorem dX9_functionAt_37 : decode cX9_functionAt 37 = .ok (.aload_n 0, 1) := by decide +kernel
theorem dX9_functionAt_38 : decode cX9_functionAt 38 = .ok (.getfield 7, 3) := by decide +kernel
theorem dX9_functionAt_41 : decode cX9_functionAt 41 = .ok (.iload 4, 2) := by decide +kernel
theorem dX9_functionAt_43 : decode cX9_functionAt 43 = .ok (.caload, 1) := by decide +kernel
theorem dX9_functionAt_44 : decode cX9_functionAt 44 = .ok (.bipush 102, 2) := by decide +kernel
theorem dX9_functionAt_46 : decode cX9_functionAt 46 = .ok (.if_icmp .ne 59, 3) := by decide +kernel
theorem dX9_functionAt_49 : decode cX9_functionAt 49 = .ok (.aload_n 0, 1) := by decide +kernel
theorem dX9_functionAt_50 : decode cX9_functionAt 50 = .ok (.getfield 16, 3) := by decide +kernel
theorem dX9_functionAt_53 : decode cX9_functionAt 53 = .ok (.iload 4, 2) := by decide +kernel
theorem dX9_functionAt_55 : decode cX9_functionAt 55 = .ok (.iaload, 1) := by decide +kernel
theorem dX9_functionAt_56 : decode cX9_functionAt 56 = .ok (.iload_n 1, 1) := by decide +kernel
theorem dX9_functionAt_57 : decode cX9_functionAt 57 = .ok (.if_icmp .ne 48, 3) := by decide +kernel
theorem dX9_functionAt_60 : decode cX9_functionAt 60 = .ok (.aload_n 0, 1) := by decide +kernel
theorem dX9_functionAt_61 : decode cX9_functionAt 61 = .ok (.getfield 91, 3) := by decide +kernel
theorem dX9_functionAt_64 : decode cX9_functionAt 64 = .ok (.aload_n 0, 1) := by decide +kernel
theorem dX9_functionAt_65 : decode cX9_functionAt 65 = .ok (.getfield 20, 3) := by decide +kernel
theorem dX9_functionAt_68 : decode cX9_functionAt 68 = .ok (.iload 4, 2) := by decide +kernel
theorem dX9_functionAt_70 : decode cX9_functionAt 70 = .ok (.iaload, 1) := by decide +kernel
theorem dX9_functionAt_71 : decode cX9_functionAt 71 = .ok (.iaload, 1) := by decide +kernel
theorem dX9_functionAt_72 : decode cX9_functionAt 72 = .ok (.iload_n 2, 1) := by decide +kernel
theorem dX9_functionAt_73 : decode cX9_functionAt 73 = .ok (.if_icmp .ne 32, 3) := by decide +kernel
theorem dX9_functionAt_76 : decode cX9_functionAt 76 = .ok (.iload_n 1, 1) := by decide +kernel
theorem dX9_functionAt_77 : decode cX9_functionAt 77 = .ok (.iconst 2, 1) := by decide +kernel
theorem dX9_functionAt_78 : decode cX9_functionAt 78 = .ok (.if_icmp .lt 19, 3) := by decide +kernel
theorem dX9_functionAt_81 : decode cX9_functionAt 81 = .ok (.aload_n 0, 1) := by decide +kernel
theorem dX9_functionAt_82 : decode cX9_functionAt 82 = .ok (.getfield 91, 3) := by decide +kernel
theorem dX9_functionAt_85 : decode cX9_functionAt 85 = .ok (.aload_n 0, 1) := by decide +kernel
theorem dX9_functionAt_86 : decode cX9_functionAt 86 = .ok (.getfield 23, 3) := by decide +kernel
theorem dX9_functionAt_89 : decode cX9_functionAt 89 = .ok (.iload 4, 2) := by decide +kernel
theorem dX9_functionAt_91 : decode cX9_functionAt 91 = .ok (.iaload, 1) := by decide +kernel
theorem dX9_functionAt_92 : decode cX9_functionAt 92 = .ok (.iaload, 1) := by decide +kernel
theorem dX9_functionAt_93 : decode cX9_functionAt 93 = .ok (.iload_n 3, 1) := by decide +kernel
theorem dX9_functionAt_94 : decode cX9_functionAt 94 = .ok (.if_icmp .ne 11, 3) := by decide +kernel
theorem dX9_functionAt_97 : decode cX9_functionAt 97 = .ok (.aload_n 0, 1) := by decide +kernel
theorem dX9_functionAt_98 : decode cX9_functionAt 98 = .ok (.getfield 91, 3) := by decide +kernel
theorem dX9_functionAt_101 : decode cX9_functionAt 101 = .ok (.iload 4, 2) := by decide +kernel
theorem dX9_functionAt_103 : decode cX9_functionAt 103 = .ok (.iaload, 1) := by decide +kernel
theorem dX9_functionAt_104 : decode cX9_functionAt 104 = .ok (.ireturn, 1) := by decide +kernel
theorem dX9_functionAt_105 : decode cX9_functionAt 105 = .ok (.iinc 4 1, 3) := by decide +kernel
theorem dX9_functionAt_108 : decode cX9_functionAt 108 = .ok (.goto (-80), 3) := by decide +kernel
theorem dX9_functionAt_111 : decode cX9_functionAt 111 = .ok (.iconst 0, 1) := by decide +kernel
theorem dX9_functionAt_112 : decode cX9_functionAt 112 = .ok (.ireturn, 1) := by decide +kernel
theorem dX9_has_0 : decode cX9_has 0 = .ok (.iload_n 1, 1) := by decide +kernel
theorem dX9_has_1 : decode cX9_has 1 = .ok (.istore_n 3, 1) := by decide +kernel
theorem dX9_has_2 : decode cX9_has 2 = .ok (.aload_n 0, 1) := by decide +kernel
theorem dX9_has_3 : decode cX9_has 3 = .ok (.getfield 7, 3) := by decide +kernel
theorem dX9_has_6 : decode cX9_has 6 = .ok (.iload_n 3, 1) := by decide +kernel
theorem dX9_has_7 : decode cX9_has 7 = .ok (.caload, 1) := by decide +kernel
theorem dX9_has_8 : decode cX9_has 8 = .ok (.bipush 119, 2) := by decide +kernel
theorem dX9_has_10 : decode cX9_has 10 = .ok (.if_icmp .ne 40, 3) := by decide +kernel
theorem dX9_has_13 : decode cX9_has 13 = .ok (.aload_n 0, 1) := by decide +kernel
theorem dX9_has_14 : decode cX9_has 14 = .ok (.getfield 91, 3) := by decide +kernel
theorem dX9_has_17 : decode cX9_has 17 = .ok (.aload_n 0, 1) := by decide +kernel
theorem dX9_has_18 : decode cX9_has 18 = .ok (.getfield 23, 3) := by decide +kernel
theorem dX9_has_21 : decode cX9_has 21 = .ok (.iload_n 3, 1) := by decide +kernel
theorem dX9_has_22 : decode cX9_has 22 = .ok (.iaload, 1) := by decide +kernel
theorem dX9_has_23 : decode cX9_has 23 = .ok (.iaload, 1) := by decide +kernel
theorem dX9_has_24 : decode cX9_has 24 = .ok (.iload_n 2, 1) := by decide +kernel
theorem dX9_has_25 : decode cX9_has 25 = .ok (.if_icmp .ne 15, 3) := by decide +kernel
theorem dX9_has_28 : decode cX9_has 28 = .ok (.aload_n 0, 1) := by decide +kernel
theorem dX9_has_29 : decode cX9_has 29 = .ok (.getfield 91, 3) := by decide +kernel
theorem dX9_has_32 : decode cX9_has 32 = .ok (.aload_n 0, 1) := by decide +kernel
theorem dX9_has_33 : decode cX9_has 33 = .ok (.getfield 26, 3) := by decide +kernel
theorem dX9_has_36 : decode cX9_has 36 = .ok (.iload_n 3, 1) := by decide +kernel
theorem dX9_has_37 : decode cX9_has 37 = .ok (.iaload, 1) := by decide +kernel
theorem dX9_has_38 : decode cX9_has 38 = .ok (.iaload, 1) := by decide +kernel
theorem dX9_has_39 : decode cX9_has 39 = .ok (.ireturn, 1) := by decide +kernel
theorem dX9_has_40 : decode cX9_has 40 = .ok (.aload_n 0, 1) := by decide +kernel
theorem dX9_has_41 : decode cX9_has 41 = .ok (.getfield 20, 3) := by decide +kernel
theorem dX9_has_44 : decode cX9_has 44 = .ok (.iload_n 3, 1) := by decide +kernel
theorem dX9_has_45 : decode cX9_has 45 = .ok (.iaload, 1) := by decide +kernel
theorem dX9_has_46 : decode cX9_has 46 = .ok (.istore_n 3, 1) := by decide +kernel
theorem dX9_has_47 : decode cX9_has 47 = .ok (.goto (-45), 3) := by decide +kernel
theorem dX9_has_50 : decode cX9_has 50 = .ok (.iconst 0, 1) := by decide +kernel
theorem dX9_has_51 : decode cX9_has 51 = .ok (.istore 4, 2) := by decide +kernel
theorem dX9_has_53 : decode cX9_has 53 = .ok (.iload 4, 2) := by decide +kernel
theorem dX9_has_55 : decode cX9_has 55 = .ok (.aload_n 0, 1) := by decide +kernel
theorem dX9_has_56 : decode cX9_has 56 = .ok (.getfield 101, 3) := by decide +kernel
theorem dX9_has_59 : decode cX9_has 59 = .ok (.if_icmp .ge 130, 3) := by decide +kernel
theorem dX9_has_62 : decode cX9_has 62 = .ok (.aload_n 0, 1) := by decide +kernel
theorem dX9_has_63 : decode cX9_has 63 = .ok (.getfield 7, 3) := by decide +kernel
theorem dX9_has_66 : decode cX9_has 66 = .ok (.iload 4, 2) := by decide +kernel
theorem dX9_has_68 : decode cX9_has 68 = .ok (.caload, 1) := by decide +kernel
theorem dX9_has_69 : decode cX9_has 69 = .ok (.bipush 114, 2) := by decide +kernel
theorem dX9_has_71 : decode cX9_has 71 = .ok (.if_icmp .ne 112, 3) := by decide +kernel
theorem dX9_has_74 : decode cX9_has 74 = .ok (.aload_n 0, 1) := by decide +kernel
theorem dX9_has_75 : decode cX9_has 75 = .ok (.getfield 91, 3) := by decide +kernel
theorem dX9_has_78 : decode cX9_has 78 = .ok (.aload_n 0, 1) := by decide +kernel
theorem dX9_has_79 : decode cX9_has 79 = .ok (.getfield 23, 3) := by decide +kernel
theorem dX9_has_82 : decode cX9_has 82 = .ok (.iload 4, 2) := by decide +kernel
theorem dX9_has_84 : decode cX9_has 84 = .ok (.iaload, 1) := by decide +kernel
theorem dX9_has_85 : decode cX9_has 85 = .ok (.iaload, 1) := by decide +kernel
theorem dX9_has_86 : decode cX9_has 86 = .ok (.iload_n 2, 1) := by decide +kernel
theorem dX9_has_87 : decode cX9_has 87 = .ok (.if_icmp .ne 96, 3) := by decide +kernel
theorem dX9_has_90 : decode cX9_has 90 = .ok (.aload_n 0, 1) := by decide +kernel
theorem dX9_has_91 : decode cX9_has 91 = .ok (.aload_n 0, 1) := by decide +kernel
theorem dX9_has_92 : decode cX9_has 92 = .ok (.getfield 20, 3) := by decide +kernel
theorem dX9_has_95 : decode cX9_has 95 = .ok (.iload 4, 2) := by decide +kernel
theorem dX9_has_97 : decode cX9_has 97 = .ok (.iaload, 1) := by decide +kernel
theorem dX9_has_98 : decode cX9_has 98 = .ok (.invokevirtual 176, 3) := by decide +kernel
theorem dX9_has_101 : decode cX9_has 101 = .ok (.iload_n 3, 1) := by decide +kernel
theorem dX9_has_102 : decode cX9_has 102 = .ok (.if_icmp .eq 6, 3) := by decide +kernel
theorem dX9_has_105 : decode cX9_has 105 = .ok (.goto 78, 3) := by decide +kernel
theorem dX9_has_108 : decode cX9_has 108 = .ok (.iconst 1, 1) := by decide +kernel
theorem dX9_has_109 : decode cX9_has 109 = .ok (.istore 5, 2) := by decide +kernel
theorem dX9_has_111 : decode cX9_has 111 = .ok (.aload_n 0, 1) := by decide +kernel
theorem dX9_has_112 : decode cX9_has 112 = .ok (.getfield 20, 3) := by decide +kernel
theorem dX9_has_115 : decode cX9_has 115 = .ok (.iload 4, 2) := by decide +kernel
theorem dX9_has_117 : decode cX9_has 117 = .ok (.iaload, 1) := by decide +kernel
theorem dX9_has_118 : decode cX9_has 118 = .ok (.istore 6, 2) := by decide +kernel
theorem dX9_has_120 : decode cX9_has 120 = .ok (.aload_n 0, 1) := by decide +kernel
theorem dX9_has_121 : decode cX9_has 121 = .ok (.getfield 7, 3) := by decide +kernel
theorem dX9_has_124 : decode cX9_has 124 = .ok (.iload 6, 2) := by decide +kernel
theorem dX9_has_126 : decode cX9_has 126 = .ok (.caload, 1) := by decide +kernel
theorem dX9_has_127 : decode cX9_has 127 = .ok (.bipush 119, 2) := by decide +kernel
theorem dX9_has_129 : decode cX9_has 129 = .ok (.if_icmp .ne 41, 3) := by decide +kernel
theorem dX9_has_132 : decode cX9_has 132 = .ok (.iload 5, 2) := by decide +kernel
theorem dX9_has_134 : decode cX9_has 134 = .ok (.aload_n 0, 1) := by decide +kernel
theorem dX9_has_135 : decode cX9_has 135 = .ok (.getfield 91, 3) := by decide +kernel
theorem dX9_has_138 : decode cX9_has 138 = .ok (.aload_n 0, 1) := by decide +kernel
theorem dX9_has_139 : decode cX9_has 139 = .ok (.getfield 23, 3) := by decide +kernel
theorem dX9_has_142 : decode cX9_has 142 = .ok (.iload 6, 2) := by decide +kernel
theorem dX9_has_144 : decode cX9_has 144 = .ok (.iaload, 1) := by decide +kernel
theorem dX9_has_145 : decode cX9_has 145 = .ok (.iaload, 1) := by decide +kernel
theorem dX9_has_146 : decode cX9_has 146 = .ok (.iload_n 2, 1) := by decide +kernel
theorem dX9_has_147 : decode cX9_has 147 = .ok (.if_icmp .eq 7, 3) := by decide +kernel
theorem dX9_has_150 : decode cX9_has 150 = .ok (.iconst 1, 1) := by decide +kernel
theorem dX9_has_151 : decode cX9_has 151 = .ok (.goto 4, 3) := by decide +kernel
theorem dX9_has_154 : decode cX9_has 154 = .ok (.iconst 0, 1) := by decide +kernel
theorem dX9_has_155 : decode cX9_has 155 = .ok (.iand, 1) := by decide +kernel
theorem dX9_has_156 : decode cX9_has 156 = .ok (.istore 5, 2) := by decide +kernel
theorem dX9_has_158 : decode cX9_has 158 = .ok (.aload_n 0, 1) := by decide +kernel
theorem dX9_has_159 : decode cX9_has 159 = .ok (.getfield 20, 3) := by decide +kernel
theorem dX9_has_162 : decode cX9_has 162 = .ok (.iload 6, 2) := by decide +kernel
theorem dX9_has_164 : decode cX9_has 164 = .ok (.iaload, 1) := by decide +kernel
theorem dX9_has_165 : decode cX9_has 165 = .ok (.istore 6, 2) := by decide +kernel
theorem dX9_has_167 : decode cX9_has 167 = .ok (.goto (-47), 3) := by decide +kernel
theorem dX9_has_170 : decode cX9_has 170 = .ok (.iload 5, 2) := by decide +kernel
theorem dX9_has_172 : decode cX9_has 172 = .ok (.ifCond .eq 11, 3) := by decide +kernel
theorem dX9_has_175 : decode cX9_has 175 = .ok (.aload_n 0, 1) := by decide +kernel
theorem dX9_has_176 : decode cX9_has 176 = .ok (.getfield 91, 3) := by decide +kernel
theorem dX9_has_179 : decode cX9_has 179 = .ok (.iload 4, 2) := by decide +kernel
theorem dX9_has_181 : decode cX9_has 181 = .ok (.iaload, 1) := by decide +kernel
theorem dX9_has_182 : decode cX9_has 182 = .ok (.ireturn, 1) := by decide +kernel
theorem dX9_has_183 : decode cX9_has 183 = .ok (.iinc 4 1, 3) := by decide +kernel
theorem dX9_has_186 : decode cX9_has 186 = .ok (.goto (-133), 3) := by decide +kernel
theorem dX9_has_189 : decode cX9_has 189 = .ok (.iconst 0, 1) := by decide +kernel
theorem dX9_has_190 : decode cX9_has 190 = .ok (.ireturn, 1) := by decide +kernel
theorem dX9_entry_0 : decode cX9_entry 0 = .ok (.aload_n 0, 1) := by decide +kernel
theorem dX9_entry_1 : decode cX9_entry 1 = .ok (.iload_n 1, 1) := by decide +kernel
theorem dX9_entry_2 : decode cX9_entry 2 = .ok (.invokevirtual 133, 3) := by decide +kernel
theorem dX9_entry_5 : decode cX9_entry 5 = .ok (.ifCond .ne 9, 3) := by decide +kernel
theorem dX9_entry_8 : decode cX9_entry 8 = .ok (.aload_n 0, 1) := by decide +kernel
theorem dX9_entry_9 : decode cX9_entry 9 = .ok (.iconst 1, 1) := by decide +kernel
theorem dX9_entry_10 : decode cX9_entry 10 = .ok (.invokevirtual 117, 3) := by decide +kernel
theorem dX9_entry_13 : decode cX9_entry 13 = .ok (.ireturn, 1) := by decide +kernel
theorem dX9_entry_14 : decode cX9_entry 14 = .ok (.aload_n 0, 1) := by decide +kernel
theorem dX9_entry_15 : decode cX9_entry 15 = .ok (.iconst 2, 1) := by decide +kernel
theorem dX9_entry_16 : decode cX9_entry 16 = .ok (.invokevirtual 273, 3) := by decide +kernel
theorem dX9_entry_19 : decode cX9_entry 19 = .ok (.ifCond .eq 7, 3) := by decide +kernel
theorem dX9_entry_22 : decode cX9_entry 22 = .ok (.iconst 0, 1) := by decide +kernel
theorem dX9_entry_23 : decode cX9_entry 23 = .ok (.goto 9, 3) := by decide +kernel
theorem dX9_entry_26 : decode cX9_entry 26 = .ok (.aload_n 0, 1) := by decide +kernel
theorem dX9_entry_27 : decode cX9_entry 27 = .ok (.iload_n 1, 1) := by decide +kernel
theorem dX9_entry_28 : decode cX9_entry 28 = .ok (.iload_n 2, 1) := by decide +kernel
theorem dX9_entry_29 : decode cX9_entry 29 = .ok (.invokevirtual 279, 3) := by decide +kernel
theorem dX9_entry_32 : decode cX9_entry 32 = .ok (.ireturn, 1) := by decide +kernel
theorem dX9_isSo_0 : decode cX9_isSo 0 = .ok (.iload_n 1, 1) := by decide +kernel
theorem dX9_isSo_1 : decode cX9_isSo 1 = .ok (.iconst 2, 1) := by decide +kernel
theorem dX9_isSo_2 : decode cX9_isSo 2 = .ok (.idiv, 1) := by decide +kernel
theorem dX9_isSo_3 : decode cX9_isSo 3 = .ok (.istore_n 2, 1) := by decide +kernel
theorem dX9_isSo_4 : decode cX9_isSo 4 = .ok (.aload_n 0, 1) := by decide +kernel
theorem dX9_isSo_5 : decode cX9_isSo 5 = .ok (.getfield 91, 3) := by decide +kernel
theorem dX9_isSo_8 : decode cX9_isSo 8 = .ok (.aload_n 0, 1) := by decide +kernel
theorem dX9_isSo_9 : decode cX9_isSo 9 = .ok (.getfield 32, 3) := by decide +kernel
theorem dX9_isSo_12 : decode cX9_isSo 12 = .ok (.iload_n 2, 1) := by decide +kernel
theorem dX9_isSo_13 : decode cX9_isSo 13 = .ok (.iaload, 1) := by decide +kernel
theorem dX9_isSo_14 : decode cX9_isSo 14 = .ok (.iaload, 1) := by decide +kernel
theorem dX9_isSo_15 : decode cX9_isSo 15 = .ok (.istore_n 3, 1) := by decide +kernel
theorem dX9_isSo_16 : decode cX9_isSo 16 = .ok (.aload_n 0, 1) := by decide +kernel
theorem dX9_isSo_17 : decode cX9_isSo 17 = .ok (.getfield 91, 3) := by decide +kernel
theorem dX9_isSo_20 : decode cX9_isSo 20 = .ok (.aload_n 0, 1) := by decide +kernel
theorem dX9_isSo_21 : decode cX9_isSo 21 = .ok (.getfield 35, 3) := by decide +kernel
theorem dX9_isSo_24 : decode cX9_isSo 24 = .ok (.iload_n 2, 1) := by decide +kernel
theorem dX9_isSo_25 : decode cX9_isSo 25 = .ok (.iaload, 1) := by decide +kernel
theorem dX9_isSo_26 : decode cX9_isSo 26 = .ok (.iaload, 1) := by decide +kernel
theorem dX9_isSo_27 : decode cX9_isSo 27 = .ok (.istore 4, 2) := by decide +kernel
theorem dX9_isSo_29 : decode cX9_isSo 29 = .ok (.aload_n 0, 1) := by decide +kernel
theorem dX9_isSo_30 : decode cX9_isSo 30 = .ok (.getfield 41, 3) := by decide +kernel
theorem dX9_isSo_33 : decode cX9_isSo 33 = .ok (.iload_n 2, 1) := by decide +kernel
theorem dX9_isSo_34 : decode cX9_isSo 34 = .ok (.baload, 1) := by decide +kernel
theorem dX9_isSo_35 : decode cX9_isSo 35 = .ok (.ifCond .eq 17, 3) := by decide +kernel
theorem dX9_isSo_38 : decode cX9_isSo 38 = .ok (.iload_n 3, 1) := by decide +kernel
theorem dX9_isSo_39 : decode cX9_isSo 39 = .ok (.iload 4, 2) := by decide +kernel
theorem dX9_isSo_41 : decode cX9_isSo 41 = .ok (.if_icmp .ne 7, 3) := by decide +kernel
theorem dX9_isSo_44 : decode cX9_isSo 44 = .ok (.iconst 1, 1) := by decide +kernel
theorem dX9_isSo_45 : decode cX9_isSo 45 = .ok (.goto 25, 3) := by decide +kernel
theorem dX9_isSo_48 : decode cX9_isSo 48 = .ok (.iconst 0, 1) := by decide +kernel
theorem dX9_isSo_49 : decode cX9_isSo 49 = .ok (.goto 21, 3) := by decide +kernel
theorem dX9_isSo_52 : decode cX9_isSo 52 = .ok (.iload_n 3, 1) := by decide +kernel
theorem dX9_isSo_53 : decode cX9_isSo 53 = .ok (.iload 4, 2) := by decide +kernel
theorem dX9_isSo_55 : decode cX9_isSo 55 = .ok (.isub, 1) := by decide +kernel
theorem dX9_isSo_56 : decode cX9_isSo 56 = .ok (.aload_n 0, 1) := by decide +kernel
theorem dX9_isSo_57 : decode cX9_isSo 57 = .ok (.getfield 38, 3) := by decide +kernel
theorem dX9_isSo_60 : decode cX9_isSo 60 = .ok (.iload_n 2, 1) := by decide +kernel
theorem dX9_isSo_61 : decode cX9_isSo 61 = .ok (.iaload, 1) := by decide +kernel
theorem dX9_isSo_62 : decode cX9_isSo 62 = .ok (.if_icmp .gt 7, 3) := by decide +kernel
theorem dX9_isSo_65 : decode cX9_isSo 65 = .ok (.iconst 1, 1) := by decide +kernel
theorem dX9_isSo_66 : decode cX9_isSo 66 = .ok (.goto 4, 3) := by decide +kernel
theorem dX9_isSo_69 : decode cX9_isSo 69 = .ok (.iconst 0, 1) := by decide +kernel
theorem dX9_isSo_70 : decode cX9_isSo 70 = .ok (.istore 5, 2) := by decide +kernel
theorem dX9_isSo_72 : decode cX9_isSo 72 = .ok (.iload 5, 2) := by decide +kernel
theorem dX9_isSo_74 : decode cX9_isSo 74 = .ok (.iload_n 1, 1) := by decide +kernel
theorem dX9_isSo_75 : decode cX9_isSo 75 = .ok (.iconst 2, 1) := by decide +kernel
theorem dX9_isSo_76 : decode cX9_isSo 76 = .ok (.irem, 1) := by decide +kernel
theorem dX9_isSo_77 : decode cX9_isSo 77 = .ok (.ifCond .ne 7, 3) := by decide +kernel
theorem dX9_isSo_80 : decode cX9_isSo 80 = .ok (.iconst 1, 1) := by decide +kernel
theorem dX9_isSo_81 : decode cX9_isSo 81 = .ok (.goto 4, 3) := by decide +kernel
theorem dX9_isSo_84 : decode cX9_isSo 84 = .ok (.iconst 0, 1) := by decide +kernel
theorem dX9_isSo_85 : decode cX9_isSo 85 = .ok (.if_icmp .ne 7, 3) := by decide +kernel
theorem dX9_isSo_88 : decode cX9_isSo 88 = .ok (.iconst 1, 1) := by decide +kernel
theorem dX9_isSo_89 : decode cX9_isSo 89 = .ok (.goto 4, 3) := by decide +kernel
theorem dX9_isSo_92 : decode cX9_isSo 92 = .ok (.iconst 0, 1) := by decide +kernel
theorem dX9_isSo_93 : decode cX9_isSo 93 = .ok (.ireturn, 1) := by decide +kernel
theorem dX9_isTrue_0 : decode cX9_isTrue 0 = .ok (.aload_n 0, 1) := by decide +kernel
theorem dX9_isTrue_1 : decode cX9_isTrue 1 = .ok (.iload_n 1, 1) := by decide +kernel
theorem dX9_isTrue_2 : decode cX9_isTrue 2 = .ok (.invokevirtual 143, 3) := by decide +kernel
theorem dX9_isTrue_5 : decode cX9_isTrue 5 = .ok (.ifCond .eq 5, 3) := by decide +kernel
theorem dX9_isTrue_8 : decode cX9_isTrue 8 = .ok (.iconst 0, 1) := by decide +kernel
theorem dX9_isTrue_9 : decode cX9_isTrue 9 = .ok (.ireturn, 1) := by decide +kernel
theorem dX9_isTrue_10 : decode cX9_isTrue 10 = .ok (.aload_n 0, 1) := by decide +kernel
theorem dX9_isTrue_11 : decode cX9_isTrue 11 = .ok (.iconst 2, 1) := by decide +kernel
theorem dX9_isTrue_12 : decode cX9_isTrue 12 = .ok (.invokevirtual 273, 3) := by decide +kernel
theorem dX9_isTrue_15 : decode cX9_isTrue 15 = .ok (.ifCond .ne 15, 3) := by decide +kernel
theorem dX9_isTrue_18 : decode cX9_isTrue 18 = .ok (.aload_n 0, 1) := by decide +kernel
theorem dX9_isTrue_19 : decode cX9_isTrue 19 = .ok (.iload_n 1, 1) := by decide +kernel
theorem dX9_isTrue_20 : decode cX9_isTrue 20 = .ok (.invokevirtual 282, 3) := by decide +kernel
theorem dX9_isTrue_23 : decode cX9_isTrue 23 = .ok (.ifCond .eq 7, 3) := by decide +kernel
theorem dX9_isTrue_26 : decode cX9_isTrue 26 = .ok (.iconst 1, 1) := by decide +kernel
theorem dX9_isTrue_27 : decode cX9_isTrue 27 = .ok (.goto 4, 3) := by decide +kernel
theorem dX9_isTrue_30 : decode cX9_isTrue 30 = .ok (.iconst 0, 1) := by decide +kernel
theorem dX9_isTrue_31 : decode cX9_isTrue 31 = .ok (.ireturn, 1) := by decide +kernel
theorem dX9_trueLiterals_0 : decode cX9_trueLiterals 0 = .ok (.aload_n 0, 1) := by decide +kernel
theorem dX9_trueLiterals_1 : decode cX9_trueLiterals 1 = .ok (.iconst 1, 1) := by decide +kernel
theorem dX9_trueLiterals_2 : decode cX9_trueLiterals 2 = .ok (.invokevirtual 273, 3) := by decide +kernel
theorem dX9_trueLiterals_5 : decode cX9_trueLiterals 5 = .ok (.ifCond .eq 5, 3) := by decide +kernel
theorem dX9_trueLiterals_8 : decode cX9_trueLiterals 8 = .ok (.lconst 0, 1) := by decide +kernel
theorem dX9_trueLiterals_9 : decode cX9_trueLiterals 9 = .ok (.lreturn, 1) := by decide +kernel
theorem dX9_trueLiterals_10 : decode cX9_trueLiterals 10 = .ok (.lconst 0, 1) := by decide +kernel
theorem dX9_trueLiterals_11 : decode cX9_trueLiterals 11 = .ok (.lstore_n 1, 1) := by decide +kernel
theorem dX9_trueLiterals_12 : decode cX9_trueLiterals 12 = .ok (.iconst 0, 1) := by decide +kernel
theorem dX9_trueLiterals_13 : decode cX9_trueLiterals 13 = .ok (.istore_n 3, 1) := by decide +kernel
theorem dX9_trueLiterals_14 : decode cX9_trueLiterals 14 = .ok (.iload_n 3, 1) := by decide +kernel
theorem dX9_trueLiterals_15 : decode cX9_trueLiterals 15 = .ok (.iconst 3, 1) := by decide +kernel
theorem dX9_trueLiterals_16 : decode cX9_trueLiterals 16 = .ok (.aload_n 0, 1) := by decide +kernel
theorem dX9_trueLiterals_17 : decode cX9_trueLiterals 17 = .ok (.getfield 146, 3) := by decide +kernel
theorem dX9_trueLiterals_20 : decode cX9_trueLiterals 20 = .ok (.imul, 1) := by decide +kernel
theorem dX9_trueLiterals_21 : decode cX9_trueLiterals 21 = .ok (.if_icmp .ge 40, 3) := by decide +kernel
theorem dX9_trueLiterals_24 : decode cX9_trueLiterals 24 = .ok (.lload_n 1, 1) := by decide +kernel
theorem dX9_trueLiterals_25 : decode cX9_trueLiterals 25 = .ok (.aload_n 0, 1) := by decide +kernel
theorem dX9_trueLiterals_26 : decode cX9_trueLiterals 26 = .ok (.getfield 54, 3) := by decide +kernel
theorem dX9_trueLiterals_29 : decode cX9_trueLiterals 29 = .ok (.iload_n 3, 1) := by decide +kernel
theorem dX9_trueLiterals_30 : decode cX9_trueLiterals 30 = .ok (.iaload, 1) := by decide +kernel
theorem dX9_trueLiterals_31 : decode cX9_trueLiterals 31 = .ok (.iconst (-1), 1) := by decide +kernel
theorem dX9_trueLiterals_32 : decode cX9_trueLiterals 32 = .ok (.if_icmp .eq 20, 3) := by decide +kernel
theorem dX9_trueLiterals_35 : decode cX9_trueLiterals 35 = .ok (.aload_n 0, 1) := by decide +kernel
theorem dX9_trueLiterals_36 : decode cX9_trueLiterals 36 = .ok (.aload_n 0, 1) := by decide +kernel
theorem dX9_trueLiterals_37 : decode cX9_trueLiterals 37 = .ok (.getfield 54, 3) := by decide +kernel
theorem dX9_trueLiterals_40 : decode cX9_trueLiterals 40 = .ok (.iload_n 3, 1) := by decide +kernel
theorem dX9_trueLiterals_41 : decode cX9_trueLiterals 41 = .ok (.iaload, 1) := by decide +kernel
theorem dX9_trueLiterals_42 : decode cX9_trueLiterals 42 = .ok (.invokevirtual 282, 3) := by decide +kernel
theorem dX9_trueLiterals_45 : decode cX9_trueLiterals 45 = .ok (.ifCond .eq 7, 3) := by decide +kernel
theorem dX9_trueLiterals_48 : decode cX9_trueLiterals 48 = .ok (.lconst 1, 1) := by decide +kernel
theorem dX9_trueLiterals_49 : decode cX9_trueLiterals 49 = .ok (.goto 4, 3) := by decide +kernel
theorem dX9_trueLiterals_52 : decode cX9_trueLiterals 52 = .ok (.lconst 0, 1) := by decide +kernel
theorem dX9_trueLiterals_53 : decode cX9_trueLiterals 53 = .ok (.ladd, 1) := by decide +kernel
theorem dX9_trueLiterals_54 : decode cX9_trueLiterals 54 = .ok (.lstore_n 1, 1) := by decide +kernel
theorem dX9_trueLiterals_55 : decode cX9_trueLiterals 55 = .ok (.iinc 3 1, 3) := by decide +kernel
theorem dX9_trueLiterals_58 : decode cX9_trueLiterals 58 = .ok (.goto (-44), 3) := by decide +kernel
theorem dX9_trueLiterals_61 : decode cX9_trueLiterals 61 = .ok (.lload_n 1, 1) := by decide +kernel
theorem dX9_trueLiterals_62 : decode cX9_trueLiterals 62 = .ok (.lreturn, 1) := by decide +kernel
theorem dX9_coreShare_0 : decode cX9_coreShare 0 = .ok (.aload_n 0, 1) := by decide +kernel
theorem dX9_coreShare_1 : decode cX9_coreShare 1 = .ok (.invokevirtual 254, 3) := by decide +kernel
theorem dX9_coreShare_4 : decode cX9_coreShare 4 = .ok (.istore_n 1, 1) := by decide +kernel
theorem dX9_coreShare_5 : decode cX9_coreShare 5 = .ok (.aload_n 0, 1) := by decide +kernel
theorem dX9_coreShare_6 : decode cX9_coreShare 6 = .ok (.getfield 97, 3) := by decide +kernel
theorem dX9_coreShare_9 : decode cX9_coreShare 9 = .ok (.ifCond .ne 14, 3) := by decide +kernel
theorem dX9_coreShare_12 : decode cX9_coreShare 12 = .ok (.iload_n 1, 1) := by decide +kernel
theorem dX9_coreShare_13 : decode cX9_coreShare 13 = .ok (.i2f, 1) := by decide +kernel
theorem dX9_coreShare_14 : decode cX9_coreShare 14 = .ok (.aload_n 0, 1) := by decide +kernel
theorem dX9_coreShare_15 : decode cX9_coreShare 15 = .ok (.getfield 146, 3) := by decide +kernel
theorem dX9_coreShare_18 : decode cX9_coreShare 18 = .ok (.i2f, 1) := by decide +kernel
theorem dX9_coreShare_19 : decode cX9_coreShare 19 = .ok (.fdiv, 1) := by decide +kernel
theorem dX9_coreShare_20 : decode cX9_coreShare 20 = .ok (.goto 4, 3) := by decide +kernel
theorem dX9_coreShare_23 : decode cX9_coreShare 23 = .ok (.fconst 0, 1) := by decide +kernel
theorem dX9_coreShare_24 : decode cX9_coreShare 24 = .ok (.freturn, 1) := by decide +kernel
theorem dX9_meanValue_0 : decode cX9_meanValue 0 = .ok (.aload_n 0, 1) := by decide +kernel
theorem dX9_meanValue_1 : decode cX9_meanValue 1 = .ok (.iconst 1, 1) := by decide +kernel
theorem dX9_meanValue_2 : decode cX9_meanValue 2 = .ok (.invokevirtual 273, 3) := by decide +kernel
theorem dX9_meanValue_5 : decode cX9_meanValue 5 = .ok (.ifCond .eq 5, 3) := by decide +kernel
theorem dX9_meanValue_8 : decode cX9_meanValue 8 = .ok (.dconst 0, 1) := by decide +kernel
theorem dX9_meanValue_9 : decode cX9_meanValue 9 = .ok (.dreturn, 1) := by decide +kernel
theorem dX9_meanValue_10 : decode cX9_meanValue 10 = .ok (.iconst 0, 1) := by decide +kernel
theorem dX9_meanValue_11 : decode cX9_meanValue 11 = .ok (.istore_n 1, 1) := by decide +kernel
theorem dX9_meanValue_12 : decode cX9_meanValue 12 = .ok (.lconst 0, 1) := by decide +kernel
theorem dX9_meanValue_13 : decode cX9_meanValue 13 = .ok (.lstore_n 2, 1) := by decide +kernel
theorem dX9_meanValue_14 : decode cX9_meanValue 14 = .ok (.iconst 0, 1) := by decide +kernel
theorem dX9_meanValue_15 : decode cX9_meanValue 15 = .ok (.istore 4, 2) := by decide +kernel
theorem dX9_meanValue_17 : decode cX9_meanValue 17 = .ok (.iload 4, 2) := by decide +kernel
theorem dX9_meanValue_19 : decode cX9_meanValue 19 = .ok (.aload_n 0, 1) := by decide +kernel
theorem dX9_meanValue_20 : decode cX9_meanValue 20 = .ok (.getfield 101, 3) := by decide +kernel
theorem dX9_meanValue_23 : decode cX9_meanValue 23 = .ok (.if_icmp .ge 50, 3) := by decide +kernel
theorem dX9_meanValue_26 : decode cX9_meanValue 26 = .ok (.iload_n 1, 1) := by decide +kernel
theorem dX9_meanValue_27 : decode cX9_meanValue 27 = .ok (.aload_n 0, 1) := by decide +kernel
theorem dX9_meanValue_28 : decode cX9_meanValue 28 = .ok (.iload 4, 2) := by decide +kernel
theorem dX9_meanValue_30 : decode cX9_meanValue 30 = .ok (.invokevirtual 125, 3) := by decide +kernel
theorem dX9_meanValue_33 : decode cX9_meanValue 33 = .ok (.ifCond .eq 7, 3) := by decide +kernel
theorem dX9_meanValue_36 : decode cX9_meanValue 36 = .ok (.iconst 1, 1) := by decide +kernel
theorem dX9_meanValue_37 : decode cX9_meanValue 37 = .ok (.goto 4, 3) := by decide +kernel
theorem dX9_meanValue_40 : decode cX9_meanValue 40 = .ok (.iconst 0, 1) := by decide +kernel
theorem dX9_meanValue_41 : decode cX9_meanValue 41 = .ok (.iadd, 1) := by decide +kernel
theorem dX9_meanValue_42 : decode cX9_meanValue 42 = .ok (.istore_n 1, 1) := by decide +kernel
theorem dX9_meanValue_43 : decode cX9_meanValue 43 = .ok (.lload_n 2, 1) := by decide +kernel
theorem dX9_meanValue_44 : decode cX9_meanValue 44 = .ok (.aload_n 0, 1) := by decide +kernel
theorem dX9_meanValue_45 : decode cX9_meanValue 45 = .ok (.iload 4, 2) := by decide +kernel
theorem dX9_meanValue_47 : decode cX9_meanValue 47 = .ok (.invokevirtual 125, 3) := by decide +kernel
theorem dX9_meanValue_50 : decode cX9_meanValue 50 = .ok (.ifCond .eq 14, 3) := by decide +kernel
theorem dX9_meanValue_53 : decode cX9_meanValue 53 = .ok (.aload_n 0, 1) := by decide +kernel
theorem dX9_meanValue_54 : decode cX9_meanValue 54 = .ok (.getfield 91, 3) := by decide +kernel
theorem dX9_meanValue_57 : decode cX9_meanValue 57 = .ok (.iload 4, 2) := by decide +kernel
theorem dX9_meanValue_59 : decode cX9_meanValue 59 = .ok (.iaload, 1) := by decide +kernel
theorem dX9_meanValue_60 : decode cX9_meanValue 60 = .ok (.i2l, 1) := by decide +kernel
theorem dX9_meanValue_61 : decode cX9_meanValue 61 = .ok (.goto 4, 3) := by decide +kernel
theorem dX9_meanValue_64 : decode cX9_meanValue 64 = .ok (.lconst 0, 1) := by decide +kernel
theorem dX9_meanValue_65 : decode cX9_meanValue 65 = .ok (.ladd, 1) := by decide +kernel
theorem dX9_meanValue_66 : decode cX9_meanValue 66 = .ok (.lstore_n 2, 1) := by decide +kernel
theorem dX9_meanValue_67 : decode cX9_meanValue 67 = .ok (.iinc 4 1, 3) := by decide +kernel
theorem dX9_meanValue_70 : decode cX9_meanValue 70 = .ok (.goto (-53), 3) := by decide +kernel
theorem dX9_meanValue_73 : decode cX9_meanValue 73 = .ok (.aload_n 0, 1) := by decide +kernel
theorem dX9_meanValue_74 : decode cX9_meanValue 74 = .ok (.iload_n 1, 1) := by decide +kernel
theorem dX9_meanValue_75 : decode cX9_meanValue 75 = .ok (.ifCond .ne 7, 3) := by decide +kernel
theorem dX9_meanValue_78 : decode cX9_meanValue 78 = .ok (.iconst 2, 1) := by decide +kernel
theorem dX9_meanValue_79 : decode cX9_meanValue 79 = .ok (.goto 4, 3) := by decide +kernel
theorem dX9_meanValue_82 : decode cX9_meanValue 82 = .ok (.iconst 0, 1) := by decide +kernel
theorem dX9_meanValue_83 : decode cX9_meanValue 83 = .ok (.putfield 97, 3) := by decide +kernel
theorem dX9_meanValue_86 : decode cX9_meanValue 86 = .ok (.iload_n 1, 1) := by decide +kernel
theorem dX9_meanValue_87 : decode cX9_meanValue 87 = .ok (.ifCond .ne 7, 3) := by decide +kernel
theorem dX9_meanValue_90 : decode cX9_meanValue 90 = .ok (.dconst 0, 1) := by decide +kernel
theorem dX9_meanValue_91 : decode cX9_meanValue 91 = .ok (.goto 8, 3) := by decide +kernel
theorem dX9_meanValue_94 : decode cX9_meanValue 94 = .ok (.lload_n 2, 1) := by decide +kernel
theorem dX9_meanValue_95 : decode cX9_meanValue 95 = .ok (.l2d, 1) := by decide +kernel
theorem dX9_meanValue_96 : decode cX9_meanValue 96 = .ok (.iload_n 1, 1) := by decide +kernel
theorem dX9_meanValue_97 : decode cX9_meanValue 97 = .ok (.i2d, 1) := by decide +kernel
theorem dX9_meanValue_98 : decode cX9_meanValue 98 = .ok (.ddiv, 1) := by decide +kernel
theorem dX9_meanValue_99 : decode cX9_meanValue 99 = .ok (.dreturn, 1) := by decide +kernel
theorem dX9_isSound_0 : decode cX9_isSound 0 = .ok (.iconst 1, 1) := by decide +kernel
theorem dX9_isSound_1 : decode cX9_isSound 1 = .ok (.ireturn, 1) := by decide +kernel
theorem dL_constant_0 : decode cL_constant 0 = .ok (.aload_n 1, 1) := by decide +kernel
theorem dL_constant_1 : decode cL_constant 1 = .ok (.iconst 0, 1) := by decide +kernel
theorem dL_constant_2 : decode cL_constant 2 = .ok (.aload_n 0, 1) := by decide +kernel
theorem dL_constant_3 : decode cL_constant 3 = .ok (.invokevirtual 7, 3) := by decide +kernel
theorem dL_constant_6 : decode cL_constant 6 = .ok (.i2l, 1) := by decide +kernel
theorem dL_constant_7 : decode cL_constant 7 = .ok (.lastore, 1) := by decide +kernel
theorem dL_constant_8 : decode cL_constant 8 = .ok (.goto 6, 3) := by decide +kernel
theorem dL_constant_11 : decode cL_constant 11 = .ok (.astore_n 2, 1) := by decide +kernel
theorem dL_constant_12 : decode cL_constant 12 = .ok (.iconst 1, 1) := by decide +kernel
theorem dL_constant_13 : decode cL_constant 13 = .ok (.ireturn, 1) := by decide +kernel
theorem dL_constant_14 : decode cL_constant 14 = .ok (.iconst 0, 1) := by decide +kernel
theorem dL_constant_15 : decode cL_constant 15 = .ok (.ireturn, 1) := by decide +kernel
theorem dL_array_0 : decode cL_array 0 = .ok (.aload_n 1, 1) := by decide +kernel
theorem dL_array_1 : decode cL_array 1 = .ok (.iconst 0, 1) := by decide +kernel
theorem dL_array_2 : decode cL_array 2 = .ok (.aload_n 0, 1) := by decide +kernel
theorem dL_array_3 : decode cL_array 3 = .ok (.invokevirtual 15, 3) := by decide +kernel
theorem dL_array_6 : decode cL_array 6 = .ok (.i2l, 1) := by decide +kernel
theorem dL_array_7 : decode cL_array 7 = .ok (.lastore, 1) := by decide +kernel
theorem dL_array_8 : decode cL_array 8 = .ok (.goto 6, 3) := by decide +kernel
theorem dL_array_11 : decode cL_array 11 = .ok (.astore_n 2, 1) := by decide +kernel
theorem dL_array_12 : decode cL_array 12 = .ok (.iconst 1, 1) := by decide +kernel
theorem dL_array_13 : decode cL_array 13 = .ok (.ireturn, 1) := by decide +kernel
theorem dL_array_14 : decode cL_array 14 = .ok (.iconst 0, 1) := by decide +kernel
theorem dL_array_15 : decode cL_array 15 = .ok (.ireturn, 1) := by decide +kernel
theorem dL_apply_0 : decode cL_apply 0 = .ok (.aload 4, 2) := by decide +kernel
theorem dL_apply_2 : decode cL_apply 2 = .ok (.iconst 0, 1) := by decide +kernel
theorem dL_apply_3 : decode cL_apply 3 = .ok (.aload_n 0, 1) := by decide +kernel
theorem dL_apply_4 : decode cL_apply 4 = .ok (.iload_n 1, 1) := by decide +kernel
theorem dL_apply_5 : decode cL_apply 5 = .ok (.iload_n 2, 1) := by decide +kernel
theorem dL_apply_6 : decode cL_apply 6 = .ok (.iload_n 3, 1) := by decide +kernel
theorem dL_apply_7 : decode cL_apply 7 = .ok (.invokevirtual 18, 3) := by decide +kernel
theorem dL_apply_10 : decode cL_apply 10 = .ok (.i2l, 1) := by decide +kernel
theorem dL_apply_11 : decode cL_apply 11 = .ok (.lastore, 1) := by decide +kernel
theorem dL_apply_12 : decode cL_apply 12 = .ok (.goto 15, 3) := by decide +kernel
theorem dL_apply_15 : decode cL_apply 15 = .ok (.astore 5, 2) := by decide +kernel
theorem dL_apply_17 : decode cL_apply 17 = .ok (.iconst 1, 1) := by decide +kernel
theorem dL_apply_18 : decode cL_apply 18 = .ok (.ireturn, 1) := by decide +kernel
theorem dL_apply_19 : decode cL_apply 19 = .ok (.astore 5, 2) := by decide +kernel
theorem dL_apply_21 : decode cL_apply 21 = .ok (.iconst 2, 1) := by decide +kernel
theorem dL_apply_22 : decode cL_apply 22 = .ok (.ireturn, 1) := by decide +kernel
theorem dL_apply_23 : decode cL_apply 23 = .ok (.astore 5, 2) := by decide +kernel
theorem dL_apply_25 : decode cL_apply 25 = .ok (.iconst 3, 1) := by decide +kernel
theorem dL_apply_26 : decode cL_apply 26 = .ok (.ireturn, 1) := by decide +kernel
theorem dL_apply_27 : decode cL_apply 27 = .ok (.iconst 0, 1) := by decide +kernel
theorem dL_apply_28 : decode cL_apply 28 = .ok (.ireturn, 1) := by decide +kernel
theorem dL_read_0 : decode cL_read 0 = .ok (.aload_n 3, 1) := by decide +kernel
theorem dL_read_1 : decode cL_read 1 = .ok (.iconst 0, 1) := by decide +kernel
theorem dL_read_2 : decode cL_read 2 = .ok (.aload_n 0, 1) := by decide +kernel
theorem dL_read_3 : decode cL_read 3 = .ok (.iload_n 1, 1) := by decide +kernel
theorem dL_read_4 : decode cL_read 4 = .ok (.iload_n 2, 1) := by decide +kernel
theorem dL_read_5 : decode cL_read 5 = .ok (.invokevirtual 26, 3) := by decide +kernel
theorem dL_read_8 : decode cL_read 8 = .ok (.i2l, 1) := by decide +kernel
theorem dL_read_9 : decode cL_read 9 = .ok (.lastore, 1) := by decide +kernel
theorem dL_read_10 : decode cL_read 10 = .ok (.goto 11, 3) := by decide +kernel
theorem dL_read_13 : decode cL_read 13 = .ok (.astore 4, 2) := by decide +kernel
theorem dL_read_15 : decode cL_read 15 = .ok (.iconst 1, 1) := by decide +kernel
theorem dL_read_16 : decode cL_read 16 = .ok (.ireturn, 1) := by decide +kernel
theorem dL_read_17 : decode cL_read 17 = .ok (.astore 4, 2) := by decide +kernel
theorem dL_read_19 : decode cL_read 19 = .ok (.iconst 2, 1) := by decide +kernel
theorem dL_read_20 : decode cL_read 20 = .ok (.ireturn, 1) := by decide +kernel
theorem dL_read_21 : decode cL_read 21 = .ok (.iconst 0, 1) := by decide +kernel
theorem dL_read_22 : decode cL_read 22 = .ok (.ireturn, 1) := by decide +kernel
theorem dL_write_0 : decode cL_write 0 = .ok (.aload 4, 2) := by decide +kernel
theorem dL_write_2 : decode cL_write 2 = .ok (.iconst 0, 1) := by decide +kernel
theorem dL_write_3 : decode cL_write 3 = .ok (.aload_n 0, 1) := by decide +kernel
theorem dL_write_4 : decode cL_write 4 = .ok (.iload_n 1, 1) := by decide +kernel
theorem dL_write_5 : decode cL_write 5 = .ok (.iload_n 2, 1) := by decide +kernel
theorem dL_write_6 : decode cL_write 6 = .ok (.iload_n 3, 1) := by decide +kernel
theorem dL_write_7 : decode cL_write 7 = .ok (.invokevirtual 30, 3) := by decide +kernel
theorem dL_write_10 : decode cL_write 10 = .ok (.i2l, 1) := by decide +kernel
theorem dL_write_11 : decode cL_write 11 = .ok (.lastore, 1) := by decide +kernel
theorem dL_write_12 : decode cL_write 12 = .ok (.goto 11, 3) := by decide +kernel
theorem dL_write_15 : decode cL_write 15 = .ok (.astore 5, 2) := by decide +kernel
theorem dL_write_17 : decode cL_write 17 = .ok (.iconst 1, 1) := by decide +kernel
theorem dL_write_18 : decode cL_write 18 = .ok (.ireturn, 1) := by decide +kernel
theorem dL_write_19 : decode cL_write 19 = .ok (.astore 5, 2) := by decide +kernel
theorem dL_write_21 : decode cL_write 21 = .ok (.iconst 2, 1) := by decide +kernel
theorem dL_write_22 : decode cL_write 22 = .ok (.ireturn, 1) := by decide +kernel
theorem dL_write_23 : decode cL_write 23 = .ok (.iconst 0, 1) := by decide +kernel
theorem dL_write_24 : decode cL_write 24 = .ok (.ireturn, 1) := by decide +kernel
theorem dL_kindOf_0 : decode cL_kindOf 0 = .ok (.aload_n 2, 1) := by decide +kernel
theorem dL_kindOf_1 : decode cL_kindOf 1 = .ok (.iconst 0, 1) := by decide +kernel
theorem dL_kindOf_2 : decode cL_kindOf 2 = .ok (.aload_n 0, 1) := by decide +kernel
theorem dL_kindOf_3 : decode cL_kindOf 3 = .ok (.iload_n 1, 1) := by decide +kernel
theorem dL_kindOf_4 : decode cL_kindOf 4 = .ok (.invokevirtual 33, 3) := by decide +kernel
theorem dL_kindOf_7 : decode cL_kindOf 7 = .ok (.i2l, 1) := by decide +kernel
theorem dL_kindOf_8 : decode cL_kindOf 8 = .ok (.lastore, 1) := by decide +kernel
theorem dL_kindOf_9 : decode cL_kindOf 9 = .ok (.goto 6, 3) := by decide +kernel
theorem dL_kindOf_12 : decode cL_kindOf 12 = .ok (.astore_n 3, 1) := by decide +kernel
theorem dL_kindOf_13 : decode cL_kindOf 13 = .ok (.iconst 1, 1) := by decide +kernel
theorem dL_kindOf_14 : decode cL_kindOf 14 = .ok (.ireturn, 1) := by decide +kernel
theorem dL_kindOf_15 : decode cL_kindOf 15 = .ok (.iconst 0, 1) := by decide +kernel
theorem dL_kindOf_16 : decode cL_kindOf 16 = .ok (.ireturn, 1) := by decide +kernel
theorem dL_equal_0 : decode cL_equal 0 = .ok (.aload_n 3, 1) := by decide +kernel
theorem dL_equal_1 : decode cL_equal 1 = .ok (.iconst 0, 1) := by decide +kernel
theorem dL_equal_2 : decode cL_equal 2 = .ok (.aload_n 0, 1) := by decide +kernel
theorem dL_equal_3 : decode cL_equal 3 = .ok (.iload_n 1, 1) := by decide +kernel
theorem dL_equal_4 : decode cL_equal 4 = .ok (.iload_n 2, 1) := by decide +kernel
theorem dL_equal_5 : decode cL_equal 5 = .ok (.invokevirtual 37, 3) := by decide +kernel
theorem dL_equal_8 : decode cL_equal 8 = .ok (.i2l, 1) := by decide +kernel
theorem dL_equal_9 : decode cL_equal 9 = .ok (.lastore, 1) := by decide +kernel
theorem dL_equal_10 : decode cL_equal 10 = .ok (.goto 11, 3) := by decide +kernel
theorem dL_equal_13 : decode cL_equal 13 = .ok (.astore 4, 2) := by decide +kernel
theorem dL_equal_15 : decode cL_equal 15 = .ok (.iconst 1, 1) := by decide +kernel
theorem dL_equal_16 : decode cL_equal 16 = .ok (.ireturn, 1) := by decide +kernel
theorem dL_equal_17 : decode cL_equal 17 = .ok (.astore 4, 2) := by decide +kernel
theorem dL_equal_19 : decode cL_equal 19 = .ok (.iconst 2, 1) := by decide +kernel
theorem dL_equal_20 : decode cL_equal 20 = .ok (.ireturn, 1) := by decide +kernel
theorem dL_equal_21 : decode cL_equal 21 = .ok (.iconst 0, 1) := by decide +kernel
theorem dL_equal_22 : decode cL_equal 22 = .ok (.ireturn, 1) := by decide +kernel
theorem dL_atMost_0 : decode cL_atMost 0 = .ok (.aload 4, 2) := by decide +kernel
theorem dL_atMost_2 : decode cL_atMost 2 = .ok (.iconst 0, 1) := by decide +kernel
theorem dL_atMost_3 : decode cL_atMost 3 = .ok (.aload_n 0, 1) := by decide +kernel
theorem dL_atMost_4 : decode cL_atMost 4 = .ok (.iload_n 1, 1) := by decide +kernel
theorem dL_atMost_5 : decode cL_atMost 5 = .ok (.iload_n 2, 1) := by decide +kernel
theorem dL_atMost_6 : decode cL_atMost 6 = .ok (.iload_n 3, 1) := by decide +kernel
theorem dL_atMost_7 : decode cL_atMost 7 = .ok (.invokevirtual 40, 3) := by decide +kernel
theorem dL_atMost_10 : decode cL_atMost 10 = .ok (.i2l, 1) := by decide +kernel
theorem dL_atMost_11 : decode cL_atMost 11 = .ok (.lastore, 1) := by decide +kernel
theorem dL_atMost_12 : decode cL_atMost 12 = .ok (.goto 15, 3) := by decide +kernel
theorem dL_atMost_15 : decode cL_atMost 15 = .ok (.astore 5, 2) := by decide +kernel
theorem dL_atMost_17 : decode cL_atMost 17 = .ok (.iconst 1, 1) := by decide +kernel
theorem dL_atMost_18 : decode cL_atMost 18 = .ok (.ireturn, 1) := by decide +kernel
theorem dL_atMost_19 : decode cL_atMost 19 = .ok (.astore 5, 2) := by decide +kernel
theorem dL_atMost_21 : decode cL_atMost 21 = .ok (.iconst 2, 1) := by decide +kernel
theorem dL_atMost_22 : decode cL_atMost 22 = .ok (.ireturn, 1) := by decide +kernel
theorem dL_atMost_23 : decode cL_atMost 23 = .ok (.astore 5, 2) := by decide +kernel
theorem dL_atMost_25 : decode cL_atMost 25 = .ok (.iconst 3, 1) := by decide +kernel
theorem dL_atMost_26 : decode cL_atMost 26 = .ok (.ireturn, 1) := by decide +kernel
theorem dL_atMost_27 : decode cL_atMost 27 = .ok (.iconst 0, 1) := by decide +kernel
theorem dL_atMost_28 : decode cL_atMost 28 = .ok (.ireturn, 1) := by decide +kernel
theorem dL_clause_0 : decode cL_clause 0 = .ok (.aload 4, 2) := by decide +kernel
theorem dL_clause_2 : decode cL_clause 2 = .ok (.iconst 0, 1) := by decide +kernel
theorem dL_clause_3 : decode cL_clause 3 = .ok (.aload_n 0, 1) := by decide +kernel
theorem dL_clause_4 : decode cL_clause 4 = .ok (.iload_n 1, 1) := by decide +kernel
theorem dL_clause_5 : decode cL_clause 5 = .ok (.iload_n 2, 1) := by decide +kernel
theorem dL_clause_6 : decode cL_clause 6 = .ok (.iload_n 3, 1) := by decide +kernel
theorem dL_clause_7 : decode cL_clause 7 = .ok (.invokevirtual 43, 3) := by decide +kernel
theorem dL_clause_10 : decode cL_clause 10 = .ok (.i2l, 1) := by decide +kernel
theorem dL_clause_11 : decode cL_clause 11 = .ok (.lastore, 1) := by decide +kernel
theorem dL_clause_12 : decode cL_clause 12 = .ok (.goto 11, 3) := by decide +kernel
theorem dL_clause_15 : decode cL_clause 15 = .ok (.astore 5, 2) := by decide +kernel
theorem dL_clause_17 : decode cL_clause 17 = .ok (.iconst 1, 1) := by decide +kernel
theorem dL_clause_18 : decode cL_clause 18 = .ok (.ireturn, 1) := by decide +kernel
theorem dL_clause_19 : decode cL_clause 19 = .ok (.astore 5, 2) := by decide +kernel
theorem dL_clause_21 : decode cL_clause 21 = .ok (.iconst 2, 1) := by decide +kernel
theorem dL_clause_22 : decode cL_clause 22 = .ok (.ireturn, 1) := by decide +kernel
theorem dL_clause_23 : decode cL_clause 23 = .ok (.iconst 0, 1) := by decide +kernel
theorem dL_clause_24 : decode cL_clause 24 = .ok (.ireturn, 1) := by decide +kernel
theorem dL_rule_0 : decode cL_rule 0 = .ok (.aload_n 3, 1) := by decide +kernel
theorem dL_rule_1 : decode cL_rule 1 = .ok (.iconst 0, 1) := by decide +kernel
theorem dL_rule_2 : decode cL_rule 2 = .ok (.aload_n 0, 1) := by decide +kernel
theorem dL_rule_3 : decode cL_rule 3 = .ok (.iload_n 1, 1) := by decide +kernel
theorem dL_rule_4 : decode cL_rule 4 = .ok (.iload_n 2, 1) := by decide +kernel
theorem dL_rule_5 : decode cL_rule 5 = .ok (.invokevirtual 46, 3) := by decide +kernel
theorem dL_rule_8 : decode cL_rule 8 = .ok (.i2l, 1) := by decide +kernel
theorem dL_rule_9 : decode cL_rule 9 = .ok (.lastore, 1) := by decide +kernel
theorem dL_rule_10 : decode cL_rule 10 = .ok (.goto 11, 3) := by decide +kernel
theorem dL_rule_13 : decode cL_rule 13 = .ok (.astore 4, 2) := by decide +kernel
theorem dL_rule_15 : decode cL_rule 15 = .ok (.iconst 1, 1) := by decide +kernel
theorem dL_rule_16 : decode cL_rule 16 = .ok (.ireturn, 1) := by decide +kernel
theorem dL_rule_17 : decode cL_rule 17 = .ok (.astore 4, 2) := by decide +kernel
theorem dL_rule_19 : decode cL_rule 19 = .ok (.iconst 2, 1) := by decide +kernel
theorem dL_rule_20 : decode cL_rule 20 = .ok (.ireturn, 1) := by decide +kernel
theorem dL_rule_21 : decode cL_rule 21 = .ok (.iconst 0, 1) := by decide +kernel
theorem dL_rule_22 : decode cL_rule 22 = .ok (.ireturn, 1) := by decide +kernel
theorem dL_push_0 : decode cL_push 0 = .ok (.aload_n 1, 1) := by decide +kernel
theorem dL_push_1 : decode cL_push 1 = .ok (.iconst 0, 1) := by decide +kernel
theorem dL_push_2 : decode cL_push 2 = .ok (.aload_n 0, 1) := by decide +kernel
theorem dL_push_3 : decode cL_push 3 = .ok (.invokevirtual 50, 3) := by decide +kernel
theorem dL_push_6 : decode cL_push 6 = .ok (.i2l, 1) := by decide +kernel
theorem dL_push_7 : decode cL_push 7 = .ok (.lastore, 1) := by decide +kernel
theorem dL_push_8 : decode cL_push 8 = .ok (.goto 6, 3) := by decide +kernel
theorem dL_push_11 : decode cL_push 11 = .ok (.astore_n 2, 1) := by decide +kernel
theorem dL_push_12 : decode cL_push 12 = .ok (.iconst 1, 1) := by decide +kernel
theorem dL_push_13 : decode cL_push 13 = .ok (.ireturn, 1) := by decide +kernel
theorem dL_push_14 : decode cL_push 14 = .ok (.iconst 0, 1) := by decide +kernel
theorem dL_push_15 : decode cL_push 15 = .ok (.ireturn, 1) := by decide +kernel
theorem dL_pop_0 : decode cL_pop 0 = .ok (.aload_n 1, 1) := by decide +kernel
theorem dL_pop_1 : decode cL_pop 1 = .ok (.iconst 0, 1) := by decide +kernel
theorem dL_pop_2 : decode cL_pop 2 = .ok (.aload_n 0, 1) := by decide +kernel
theorem dL_pop_3 : decode cL_pop 3 = .ok (.invokevirtual 53, 3) := by decide +kernel
theorem dL_pop_6 : decode cL_pop 6 = .ok (.i2l, 1) := by decide +kernel
theorem dL_pop_7 : decode cL_pop 7 = .ok (.lastore, 1) := by decide +kernel
theorem dL_pop_8 : decode cL_pop 8 = .ok (.goto 6, 3) := by decide +kernel
theorem dL_pop_11 : decode cL_pop 11 = .ok (.astore_n 2, 1) := by decide +kernel
theorem dL_pop_12 : decode cL_pop 12 = .ok (.iconst 1, 1) := by decide +kernel
theorem dL_pop_13 : decode cL_pop 13 = .ok (.ireturn, 1) := by decide +kernel
theorem dL_pop_14 : decode cL_pop 14 = .ok (.iconst 0, 1) := by decide +kernel
theorem dL_pop_15 : decode cL_pop 15 = .ok (.ireturn, 1) := by decide +kernel
theorem dL_core_0 : decode cL_core 0 = .ok (.aload_n 1, 1) := by decide +kernel
theorem dL_core_1 : decode cL_core 1 = .ok (.iconst 0, 1) := by decide +kernel
theorem dL_core_2 : decode cL_core 2 = .ok (.aload_n 0, 1) := by decide +kernel
theorem dL_core_3 : decode cL_core 3 = .ok (.invokevirtual 56, 3) := by decide +kernel
theorem dL_core_6 : decode cL_core 6 = .ok (.i2l, 1) := by decide +kernel
theorem dL_core_7 : decode cL_core 7 = .ok (.lastore, 1) := by decide +kernel
theorem dL_core_8 : decode cL_core 8 = .ok (.goto 6, 3) := by decide +kernel
theorem dL_core_11 : decode cL_core 11 = .ok (.astore_n 2, 1) := by decide +kernel
theorem dL_core_12 : decode cL_core 12 = .ok (.iconst 1, 1) := by decide +kernel
theorem dL_core_13 : decode cL_core 13 = .ok (.ireturn, 1) := by decide +kernel
theorem dL_core_14 : decode cL_core 14 = .ok (.iconst 0, 1) := by decide +kernel
theorem dL_core_15 : decode cL_core 15 = .ok (.ireturn, 1) := by decide +kernel
theorem dL_coreAt_0 : decode cL_coreAt 0 = .ok (.aload_n 2, 1) := by decide +kernel
theorem dL_coreAt_1 : decode cL_coreAt 1 = .ok (.iconst 0, 1) := by decide +kernel
theorem dL_coreAt_2 : decode cL_coreAt 2 = .ok (.aload_n 0, 1) := by decide +kernel
theorem dL_coreAt_3 : decode cL_coreAt 3 = .ok (.iload_n 1, 1) := by decide +kernel
theorem dL_coreAt_4 : decode cL_coreAt 4 = .ok (.invokevirtual 59, 3) := by decide +kernel
theorem dL_coreAt_7 : decode cL_coreAt 7 = .ok (.i2l, 1) := by decide +kernel
theorem dL_coreAt_8 : decode cL_coreAt 8 = .ok (.lastore, 1) := by decide +kernel
theorem dL_coreAt_9 : decode cL_coreAt 9 = .ok (.goto 9, 3) := by decide +kernel
theorem dL_coreAt_12 : decode cL_coreAt 12 = .ok (.astore_n 3, 1) := by decide +kernel
theorem dL_coreAt_13 : decode cL_coreAt 13 = .ok (.iconst 1, 1) := by decide +kernel
theorem dL_coreAt_14 : decode cL_coreAt 14 = .ok (.ireturn, 1) := by decide +kernel
theorem dL_coreAt_15 : decode cL_coreAt 15 = .ok (.astore_n 3, 1) := by decide +kernel
theorem dL_coreAt_16 : decode cL_coreAt 16 = .ok (.iconst 2, 1) := by decide +kernel
theorem dL_coreAt_17 : decode cL_coreAt 17 = .ok (.ireturn, 1) := by decide +kernel
theorem dL_coreAt_18 : decode cL_coreAt 18 = .ok (.iconst 0, 1) := by decide +kernel
theorem dL_coreAt_19 : decode cL_coreAt 19 = .ok (.ireturn, 1) := by decide +kernel
theorem dL_follows_0 : decode cL_follows 0 = .ok (.aload_n 2, 1) := by decide +kernel
theorem dL_follows_1 : decode cL_follows 1 = .ok (.iconst 0, 1) := by decide +kernel
theorem dL_follows_2 : decode cL_follows 2 = .ok (.aload_n 0, 1) := by decide +kernel
theorem dL_follows_3 : decode cL_follows 3 = .ok (.iload_n 1, 1) := by decide +kernel
theorem dL_follows_4 : decode cL_follows 4 = .ok (.invokevirtual 65, 3) := by decide +kernel
theorem dL_follows_7 : decode cL_follows 7 = .ok (.ifCond .eq 7, 3) := by decide +kernel
theorem dL_follows_10 : decode cL_follows 10 = .ok (.lconst 1, 1) := by decide +kernel
theorem dL_follows_11 : decode cL_follows 11 = .ok (.goto 4, 3) := by decide +kernel
theorem dL_follows_14 : decode cL_follows 14 = .ok (.lconst 0, 1) := by decide +kernel
theorem dL_follows_15 : decode cL_follows 15 = .ok (.lastore, 1) := by decide +kernel
theorem dL_follows_16 : decode cL_follows 16 = .ok (.goto 6, 3) := by decide +kernel
theorem dL_follows_19 : decode cL_follows 19 = .ok (.astore_n 3, 1) := by decide +kernel
theorem dL_follows_20 : decode cL_follows 20 = .ok (.iconst 1, 1) := by decide +kernel
theorem dL_follows_21 : decode cL_follows 21 = .ok (.ireturn, 1) := by decide +kernel
theorem dL_follows_22 : decode cL_follows 22 = .ok (.iconst 0, 1) := by decide +kernel
theorem dL_follows_23 : decode cL_follows 23 = .ok (.ireturn, 1) := by decide +kernel
theorem dL_reasons_0 : decode cL_reasons 0 = .ok (.aload_n 2, 1) := by decide +kernel
theorem dL_reasons_1 : decode cL_reasons 1 = .ok (.iconst 0, 1) := by decide +kernel
theorem dL_reasons_2 : decode cL_reasons 2 = .ok (.aload_n 0, 1) := by decide +kernel
theorem dL_reasons_3 : decode cL_reasons 3 = .ok (.iload_n 1, 1) := by decide +kernel
theorem dL_reasons_4 : decode cL_reasons 4 = .ok (.invokevirtual 69, 3) := by decide +kernel
theorem dL_reasons_7 : decode cL_reasons 7 = .ok (.i2l, 1) := by decide +kernel
theorem dL_reasons_8 : decode cL_reasons 8 = .ok (.lastore, 1) := by decide +kernel
theorem dL_reasons_9 : decode cL_reasons 9 = .ok (.goto 9, 3) := by decide +kernel
theorem dL_reasons_12 : decode cL_reasons 12 = .ok (.astore_n 3, 1) := by decide +kernel
theorem dL_reasons_13 : decode cL_reasons 13 = .ok (.iconst 1, 1) := by decide +kernel
theorem dL_reasons_14 : decode cL_reasons 14 = .ok (.ireturn, 1) := by decide +kernel
theorem dL_reasons_15 : decode cL_reasons 15 = .ok (.astore_n 3, 1) := by decide +kernel
theorem dL_reasons_16 : decode cL_reasons 16 = .ok (.iconst 2, 1) := by decide +kernel
theorem dL_reasons_17 : decode cL_reasons 17 = .ok (.ireturn, 1) := by decide +kernel
theorem dL_reasons_18 : decode cL_reasons 18 = .ok (.iconst 0, 1) := by decide +kernel
theorem dL_reasons_19 : decode cL_reasons 19 = .ok (.ireturn, 1) := by decide +kernel
theorem dL_reasonAt_0 : decode cL_reasonAt 0 = .ok (.aload_n 3, 1) := by decide +kernel
theorem dL_reasonAt_1 : decode cL_reasonAt 1 = .ok (.iconst 0, 1) := by decide +kernel
theorem dL_reasonAt_2 : decode cL_reasonAt 2 = .ok (.aload_n 0, 1) := by decide +kernel
theorem dL_reasonAt_3 : decode cL_reasonAt 3 = .ok (.iload_n 1, 1) := by decide +kernel
theorem dL_reasonAt_4 : decode cL_reasonAt 4 = .ok (.iload_n 2, 1) := by decide +kernel
theorem dL_reasonAt_5 : decode cL_reasonAt 5 = .ok (.invokevirtual 72, 3) := by decide +kernel
theorem dL_reasonAt_8 : decode cL_reasonAt 8 = .ok (.i2l, 1) := by decide +kernel
theorem dL_reasonAt_9 : decode cL_reasonAt 9 = .ok (.lastore, 1) := by decide +kernel
theorem dL_reasonAt_10 : decode cL_reasonAt 10 = .ok (.goto 15, 3) := by decide +kernel
theorem dL_reasonAt_13 : decode cL_reasonAt 13 = .ok (.astore 4, 2) := by decide +kernel
theorem dL_reasonAt_15 : decode cL_reasonAt 15 = .ok (.iconst 1, 1) := by decide +kernel
theorem dL_reasonAt_16 : decode cL_reasonAt 16 = .ok (.ireturn, 1) := by decide +kernel
theorem dL_reasonAt_17 : decode cL_reasonAt 17 = .ok (.astore 4, 2) := by decide +kernel
theorem dL_reasonAt_19 : decode cL_reasonAt 19 = .ok (.iconst 2, 1) := by decide +kernel
theorem dL_reasonAt_20 : decode cL_reasonAt 20 = .ok (.ireturn, 1) := by decide +kernel
theorem dL_reasonAt_21 : decode cL_reasonAt 21 = .ok (.astore 4, 2) := by decide +kernel
theorem dL_reasonAt_23 : decode cL_reasonAt 23 = .ok (.iconst 3, 1) := by decide +kernel
theorem dL_reasonAt_24 : decode cL_reasonAt 24 = .ok (.ireturn, 1) := by decide +kernel
theorem dL_reasonAt_25 : decode cL_reasonAt 25 = .ok (.iconst 0, 1) := by decide +kernel
theorem dL_reasonAt_26 : decode cL_reasonAt 26 = .ok (.ireturn, 1) := by decide +kernel
theorem dL_bound_0 : decode cL_bound 0 = .ok (.aload_n 3, 1) := by decide +kernel
theorem dL_bound_1 : decode cL_bound 1 = .ok (.iconst 0, 1) := by decide +kernel
theorem dL_bound_2 : decode cL_bound 2 = .ok (.aload_n 0, 1) := by decide +kernel
theorem dL_bound_3 : decode cL_bound 3 = .ok (.iload_n 1, 1) := by decide +kernel
theorem dL_bound_4 : decode cL_bound 4 = .ok (.iload_n 2, 1) := by decide +kernel
theorem dL_bound_5 : decode cL_bound 5 = .ok (.invokevirtual 75, 3) := by decide +kernel
theorem dL_bound_8 : decode cL_bound 8 = .ok (.i2l, 1) := by decide +kernel
theorem dL_bound_9 : decode cL_bound 9 = .ok (.lastore, 1) := by decide +kernel
theorem dL_bound_10 : decode cL_bound 10 = .ok (.goto 15, 3) := by decide +kernel
theorem dL_bound_13 : decode cL_bound 13 = .ok (.astore 4, 2) := by decide +kernel
theorem dL_bound_15 : decode cL_bound 15 = .ok (.iconst 1, 1) := by decide +kernel
theorem dL_bound_16 : decode cL_bound 16 = .ok (.ireturn, 1) := by decide +kernel
theorem dL_bound_17 : decode cL_bound 17 = .ok (.astore 4, 2) := by decide +kernel
theorem dL_bound_19 : decode cL_bound 19 = .ok (.iconst 2, 1) := by decide +kernel
theorem dL_bound_20 : decode cL_bound 20 = .ok (.ireturn, 1) := by decide +kernel
theorem dL_bound_21 : decode cL_bound 21 = .ok (.astore 4, 2) := by decide +kernel
theorem dL_bound_23 : decode cL_bound 23 = .ok (.iconst 3, 1) := by decide +kernel
theorem dL_bound_24 : decode cL_bound 24 = .ok (.ireturn, 1) := by decide +kernel
theorem dL_bound_25 : decode cL_bound 25 = .ok (.iconst 0, 1) := by decide +kernel
theorem dL_bound_26 : decode cL_bound 26 = .ok (.ireturn, 1) := by decide +kernel
theorem dL_classOf_0 : decode cL_classOf 0 = .ok (.aload_n 2, 1) := by decide +kernel
theorem dL_classOf_1 : decode cL_classOf 1 = .ok (.iconst 0, 1) := by decide +kernel
theorem dL_classOf_2 : decode cL_classOf 2 = .ok (.aload_n 0, 1) := by decide +kernel
theorem dL_classOf_3 : decode cL_classOf 3 = .ok (.iload_n 1, 1) := by decide +kernel
theorem dL_classOf_4 : decode cL_classOf 4 = .ok (.invokevirtual 80, 3) := by decide +kernel
theorem dL_classOf_7 : decode cL_classOf 7 = .ok (.i2l, 1) := by decide +kernel
theorem dL_classOf_8 : decode cL_classOf 8 = .ok (.lastore, 1) := by decide +kernel
theorem dL_classOf_9 : decode cL_classOf 9 = .ok (.goto 9, 3) := by decide +kernel
theorem dL_classOf_12 : decode cL_classOf 12 = .ok (.astore_n 3, 1) := by decide +kernel
theorem dL_classOf_13 : decode cL_classOf 13 = .ok (.iconst 1, 1) := by decide +kernel
theorem dL_classOf_14 : decode cL_classOf 14 = .ok (.ireturn, 1) := by decide +kernel
theorem dL_classOf_15 : decode cL_classOf 15 = .ok (.astore_n 3, 1) := by decide +kernel
theorem dL_classOf_16 : decode cL_classOf 16 = .ok (.iconst 2, 1) := by decide +kernel
theorem dL_classOf_17 : decode cL_classOf 17 = .ok (.ireturn, 1) := by decide +kernel
theorem dL_classOf_18 : decode cL_classOf 18 = .ok (.iconst 0, 1) := by decide +kernel
theorem dL_classOf_19 : decode cL_classOf 19 = .ok (.ireturn, 1) := by decide +kernel
theorem dL_classes_0 : decode cL_classes 0 = .ok (.aload_n 1, 1) := by decide +kernel
theorem dL_classes_1 : decode cL_classes 1 = .ok (.iconst 0, 1) := by decide +kernel
theorem dL_classes_2 : decode cL_classes 2 = .ok (.aload_n 0, 1) := by decide +kernel
theorem dL_classes_3 : decode cL_classes 3 = .ok (.invokevirtual 83, 3) := by decide +kernel
theorem dL_classes_6 : decode cL_classes 6 = .ok (.i2l, 1) := by decide +kernel
theorem dL_classes_7 : decode cL_classes 7 = .ok (.lastore, 1) := by decide +kernel
theorem dL_classes_8 : decode cL_classes 8 = .ok (.goto 6, 3) := by decide +kernel
theorem dL_classes_11 : decode cL_classes 11 = .ok (.astore_n 2, 1) := by decide +kernel
theorem dL_classes_12 : decode cL_classes 12 = .ok (.iconst 1, 1) := by decide +kernel
theorem dL_classes_13 : decode cL_classes 13 = .ok (.ireturn, 1) := by decide +kernel
theorem dL_classes_14 : decode cL_classes 14 = .ok (.iconst 0, 1) := by decide +kernel
theorem dL_classes_15 : decode cL_classes 15 = .ok (.ireturn, 1) := by decide +kernel
theorem dL_valueOf_0 : decode cL_valueOf 0 = .ok (.aload_n 2, 1) := by decide +kernel
theorem dL_valueOf_1 : decode cL_valueOf 1 = .ok (.iconst 0, 1) := by decide +kernel
theorem dL_valueOf_2 : decode cL_valueOf 2 = .ok (.aload_n 0, 1) := by decide +kernel
theorem dL_valueOf_3 : decode cL_valueOf 3 = .ok (.iload_n 1, 1) := by decide +kernel
theorem dL_valueOf_4 : decode cL_valueOf 4 = .ok (.invokevirtual 86, 3) := by decide +kernel
theorem dL_valueOf_7 : decode cL_valueOf 7 = .ok (.i2l, 1) := by decide +kernel
theorem dL_valueOf_8 : decode cL_valueOf 8 = .ok (.lastore, 1) := by decide +kernel
theorem dL_valueOf_9 : decode cL_valueOf 9 = .ok (.goto 9, 3) := by decide +kernel
theorem dL_valueOf_12 : decode cL_valueOf 12 = .ok (.astore_n 3, 1) := by decide +kernel
theorem dL_valueOf_13 : decode cL_valueOf 13 = .ok (.iconst 1, 1) := by decide +kernel
theorem dL_valueOf_14 : decode cL_valueOf 14 = .ok (.ireturn, 1) := by decide +kernel
theorem dL_valueOf_15 : decode cL_valueOf 15 = .ok (.astore_n 3, 1) := by decide +kernel
theorem dL_valueOf_16 : decode cL_valueOf 16 = .ok (.iconst 2, 1) := by decide +kernel
theorem dL_valueOf_17 : decode cL_valueOf 17 = .ok (.ireturn, 1) := by decide +kernel
theorem dL_valueOf_18 : decode cL_valueOf 18 = .ok (.iconst 0, 1) := by decide +kernel
theorem dL_valueOf_19 : decode cL_valueOf 19 = .ok (.ireturn, 1) := by decide +kernel
theorem dL_functionAt_0 : decode cL_functionAt 0 = .ok (.aload 4, 2) := by decide +kernel
theorem dL_functionAt_2 : decode cL_functionAt 2 = .ok (.iconst 0, 1) := by decide +kernel
theorem dL_functionAt_3 : decode cL_functionAt 3 = .ok (.aload_n 0, 1) := by decide +kernel
theorem dL_functionAt_4 : decode cL_functionAt 4 = .ok (.iload_n 1, 1) := by decide +kernel
theorem dL_functionAt_5 : decode cL_functionAt 5 = .ok (.iload_n 2, 1) := by decide +kernel
theorem dL_functionAt_6 : decode cL_functionAt 6 = .ok (.iload_n 3, 1) := by decide +kernel
theorem dL_functionAt_7 : decode cL_functionAt 7 = .ok (.invokevirtual 89, 3) := by decide +kernel
theorem dL_functionAt_10 : decode cL_functionAt 10 = .ok (.i2l, 1) := by decide +kernel
theorem dL_functionAt_11 : decode cL_functionAt 11 = .ok (.lastore, 1) := by decide +kernel
theorem dL_functionAt_12 : decode cL_functionAt 12 = .ok (.goto 11, 3) := by decide +kernel
theorem dL_functionAt_15 : decode cL_functionAt 15 = .ok (.astore 5, 2) := by decide +kernel
theorem dL_functionAt_17 : decode cL_functionAt 17 = .ok (.iconst 1, 1) := by decide +kernel
theorem dL_functionAt_18 : decode cL_functionAt 18 = .ok (.ireturn, 1) := by decide +kernel
theorem dL_functionAt_19 : decode cL_functionAt 19 = .ok (.astore 5, 2) := by decide +kernel
theorem dL_functionAt_21 : decode cL_functionAt 21 = .ok (.iconst 2, 1) := by decide +kernel
theorem dL_functionAt_22 : decode cL_functionAt 22 = .ok (.ireturn, 1) := by decide +kernel
theorem dL_functionAt_23 : decode cL_functionAt 23 = .ok (.iconst 0, 1) := by decide +kernel
theorem dL_functionAt_24 : decode cL_functionAt 24 = .ok (.ireturn, 1) := by decide +kernel
theorem dL_entry_0 : decode cL_entry 0 = .ok (.aload_n 3, 1) := by decide +kernel
theorem dL_entry_1 : decode cL_entry 1 = .ok (.iconst 0, 1) := by decide +kernel
theorem dL_entry_2 : decode cL_entry 2 = .ok (.aload_n 0, 1) := by decide +kernel
theorem dL_entry_3 : decode cL_entry 3 = .ok (.iload_n 1, 1) := by decide +kernel
theorem dL_entry_4 : decode cL_entry 4 = .ok (.iload_n 2, 1) := by decide +kernel
theorem dL_entry_5 : decode cL_entry 5 = .ok (.invokevirtual 92, 3) := by decide +kernel
theorem dL_entry_8 : decode cL_entry 8 = .ok (.i2l, 1) := by decide +kernel
theorem dL_entry_9 : decode cL_entry 9 = .ok (.lastore, 1) := by decide +kernel
theorem dL_entry_10 : decode cL_entry 10 = .ok (.goto 11, 3) := by decide +kernel
theorem dL_entry_13 : decode cL_entry 13 = .ok (.astore 4, 2) := by decide +kernel
theorem dL_entry_15 : decode cL_entry 15 = .ok (.iconst 1, 1) := by decide +kernel
theorem dL_entry_16 : decode cL_entry 16 = .ok (.ireturn, 1) := by decide +kernel
theorem dL_entry_17 : decode cL_entry 17 = .ok (.astore 4, 2) := by decide +kernel
theorem dL_entry_19 : decode cL_entry 19 = .ok (.iconst 2, 1) := by decide +kernel
theorem dL_entry_20 : decode cL_entry 20 = .ok (.ireturn, 1) := by decide +kernel
theorem dL_entry_21 : decode cL_entry 21 = .ok (.iconst 0, 1) := by decide +kernel
theorem dL_entry_22 : decode cL_entry 22 = .ok (.ireturn, 1) := by decide +kernel
theorem dL_isTrue_0 : decode cL_isTrue 0 = .ok (.aload_n 2, 1) := by decide +kernel
theorem dL_isTrue_1 : decode cL_isTrue 1 = .ok (.iconst 0, 1) := by decide +kernel
theorem dL_isTrue_2 : decode cL_isTrue 2 = .ok (.aload_n 0, 1) := by decide +kernel
theorem dL_isTrue_3 : decode cL_isTrue 3 = .ok (.iload_n 1, 1) := by decide +kernel
theorem dL_isTrue_4 : decode cL_isTrue 4 = .ok (.invokevirtual 95, 3) := by decide +kernel
theorem dL_isTrue_7 : decode cL_isTrue 7 = .ok (.ifCond .eq 7, 3) := by decide +kernel
theorem dL_isTrue_10 : decode cL_isTrue 10 = .ok (.lconst 1, 1) := by decide +kernel
theorem dL_isTrue_11 : decode cL_isTrue 11 = .ok (.goto 4, 3) := by decide +kernel
theorem dL_isTrue_14 : decode cL_isTrue 14 = .ok (.lconst 0, 1) := by decide +kernel
theorem dL_isTrue_15 : decode cL_isTrue 15 = .ok (.lastore, 1) := by decide +kernel
theorem dL_isTrue_16 : decode cL_isTrue 16 = .ok (.goto 9, 3) := by decide +kernel
theorem dL_isTrue_19 : decode cL_isTrue 19 = .ok (.astore_n 3, 1) := by decide +kernel
theorem dL_isTrue_20 : decode cL_isTrue 20 = .ok (.iconst 1, 1) := by decide +kernel
theorem dL_isTrue_21 : decode cL_isTrue 21 = .ok (.ireturn, 1) := by decide +kernel
theorem dL_isTrue_22 : decode cL_isTrue 22 = .ok (.astore_n 3, 1) := by decide +kernel
theorem dL_isTrue_23 : decode cL_isTrue 23 = .ok (.iconst 2, 1) := by decide +kernel
theorem dL_isTrue_24 : decode cL_isTrue 24 = .ok (.ireturn, 1) := by decide +kernel
theorem dL_isTrue_25 : decode cL_isTrue 25 = .ok (.iconst 0, 1) := by decide +kernel
theorem dL_isTrue_26 : decode cL_isTrue 26 = .ok (.ireturn, 1) := by decide +kernel
theorem dL_trueLiterals_0 : decode cL_trueLiterals 0 = .ok (.aload_n 1, 1) := by decide +kernel
theorem dL_trueLiterals_1 : decode cL_trueLiterals 1 = .ok (.iconst 0, 1) := by decide +kernel
theorem dL_trueLiterals_2 : decode cL_trueLiterals 2 = .ok (.aload_n 0, 1) := by decide +kernel
theorem dL_trueLiterals_3 : decode cL_trueLiterals 3 = .ok (.invokevirtual 98, 3) := by decide +kernel
theorem dL_trueLiterals_6 : decode cL_trueLiterals 6 = .ok (.lastore, 1) := by decide +kernel
theorem dL_trueLiterals_7 : decode cL_trueLiterals 7 = .ok (.goto 6, 3) := by decide +kernel
theorem dL_trueLiterals_10 : decode cL_trueLiterals 10 = .ok (.astore_n 2, 1) := by decide +kernel
theorem dL_trueLiterals_11 : decode cL_trueLiterals 11 = .ok (.iconst 1, 1) := by decide +kernel
theorem dL_trueLiterals_12 : decode cL_trueLiterals 12 = .ok (.ireturn, 1) := by decide +kernel
theorem dL_trueLiterals_13 : decode cL_trueLiterals 13 = .ok (.iconst 0, 1) := by decide +kernel
theorem dL_trueLiterals_14 : decode cL_trueLiterals 14 = .ok (.ireturn, 1) := by decide +kernel
theorem dL_coreShare_0 : decode cL_coreShare 0 = .ok (.aload_n 1, 1) := by decide +kernel
theorem dL_coreShare_1 : decode cL_coreShare 1 = .ok (.iconst 0, 1) := by decide +kernel
theorem dL_coreShare_2 : decode cL_coreShare 2 = .ok (.aload_n 0, 1) := by decide +kernel
theorem dL_coreShare_3 : decode cL_coreShare 3 = .ok (.invokevirtual 102, 3) := by decide +kernel
theorem dL_coreShare_6 : decode cL_coreShare 6 = .ok (.f2d, 1) := by decide +kernel
theorem dL_coreShare_7 : decode cL_coreShare 7 = .ok (.dastore, 1) := by decide +kernel
theorem dL_coreShare_8 : decode cL_coreShare 8 = .ok (.goto 6, 3) := by decide +kernel
theorem dL_coreShare_11 : decode cL_coreShare 11 = .ok (.astore_n 2, 1) := by decide +kernel
theorem dL_coreShare_12 : decode cL_coreShare 12 = .ok (.iconst 1, 1) := by decide +kernel
theorem dL_coreShare_13 : decode cL_coreShare 13 = .ok (.ireturn, 1) := by decide +kernel
theorem dL_coreShare_14 : decode cL_coreShare 14 = .ok (.iconst 0, 1) := by decide +kernel
theorem dL_coreShare_15 : decode cL_coreShare 15 = .ok (.ireturn, 1) := by decide +kernel
theorem dL_meanValue_0 : decode cL_meanValue 0 = .ok (.aload_n 1, 1) := by decide +kernel
theorem dL_meanValue_1 : decode cL_meanValue 1 = .ok (.iconst 0, 1) := by decide +kernel
theorem dL_meanValue_2 : decode cL_meanValue 2 = .ok (.aload_n 0, 1) := by decide +kernel
theorem dL_meanValue_3 : decode cL_meanValue 3 = .ok (.invokevirtual 106, 3) := by decide +kernel
theorem dL_meanValue_6 : decode cL_meanValue 6 = .ok (.dastore, 1) := by decide +kernel
theorem dL_meanValue_7 : decode cL_meanValue 7 = .ok (.goto 9, 3) := by decide +kernel
theorem dL_meanValue_10 : decode cL_meanValue 10 = .ok (.astore_n 2, 1) := by decide +kernel
theorem dL_meanValue_11 : decode cL_meanValue 11 = .ok (.iconst 1, 1) := by decide +kernel
theorem dL_meanValue_12 : decode cL_meanValue 12 = .ok (.ireturn, 1) := by decide +kernel
theorem dL_meanValue_13 : decode cL_meanValue 13 = .ok (.astore_n 2, 1) := by decide +kernel
theorem dL_meanValue_14 : decode cL_meanValue 14 = .ok (.iconst 2, 1) := by decide +kernel
theorem dL_meanValue_15 : decode cL_meanValue 15 = .ok (.ireturn, 1) := by decide +kernel
theorem dL_meanValue_16 : decode cL_meanValue 16 = .ok (.iconst 0, 1) := by decide +kernel
theorem dL_meanValue_17 : decode cL_meanValue 17 = .ok (.ireturn, 1) := by decide +kernel
theorem dL_law_0 : decode cL_law 0 = .ok (.new 8, 3) := by decide +kernel
theorem dL_law_3 : decode cL_law 3 = .ok (.dup, 1) := by decide +kernel
theorem dL_law_4 : decode cL_law 4 = .ok (.invokespecial 112, 3) := by decide +kernel
theorem dL_law_7 : decode cL_law 7 = .ok (.astore_n 1, 1) := by decide +kernel
theorem dL_law_8 : decode cL_law 8 = .ok (.new 113, 3) := by decide +kernel
theorem dL_law_11 : decode cL_law 11 = .ok (.dup, 1) := by decide +kernel
theorem dL_law_12 : decode cL_law 12 = .ok (.invokespecial 115, 3) := by decide +kernel
theorem dL_law_15 : decode cL_law 15 = .ok (.astore_n 2, 1) := by decide +kernel
theorem dL_law_16 : decode cL_law 16 = .ok (.iconst 1, 1) := by decide +kernel
theorem dL_law_17 : decode cL_law 17 = .ok (.newarray .long, 2) := by decide +kernel
theorem dL_law_19 : decode cL_law 19 = .ok (.astore_n 3, 1) := by decide +kernel
theorem dL_law_20 : decode cL_law 20 = .ok (.iconst 1, 1) := by decide +kernel
theorem dL_law_21 : decode cL_law 21 = .ok (.newarray .double, 2) := by decide +kernel
theorem dL_law_23 : decode cL_law 23 = .ok (.astore 4, 2) := by decide +kernel
theorem dL_law_25 : decode cL_law 25 = .ok (.iconst 0, 1) := by decide +kernel
theorem dL_law_26 : decode cL_law 26 = .ok (.istore 5, 2) := by decide +kernel
theorem dL_law_28 : decode cL_law 28 = .ok (.iload 5, 2) := by decide +kernel
theorem dL_law_30 : decode cL_law 30 = .ok (.aload_n 0, 1) := by decide +kernel
theorem dL_law_31 : decode cL_law 31 = .ok (.arraylength, 1) := by decide +kernel
theorem dL_law_32 : decode cL_law 32 = .ok (.iconst 4, 1) := by decide +kernel
theorem dL_law_33 : decode cL_law 33 = .ok (.isub, 1) := by decide +kernel
theorem dL_law_34 : decode cL_law 34 = .ok (.if_icmp .gt 1879, 3) := by decide +kernel
theorem dL_law_37 : decode cL_law 37 = .ok (.aload_n 0, 1) := by decide +kernel
theorem dL_law_38 : decode cL_law 38 = .ok (.iload 5, 2) := by decide +kernel
theorem dL_law_40 : decode cL_law 40 = .ok (.iaload, 1) := by decide +kernel
theorem dL_law_41 : decode cL_law 41 = .ok (.bipush 31, 2) := by decide +kernel
theorem dL_law_43 : decode cL_law 43 = .ok (.iand, 1) := by decide +kernel
theorem dL_law_44 : decode cL_law 44 = .ok (.tableswitch 1863 0 31 #[144, 188, 232, 312, 380, 460, 473, 529, 597, 677, 690, 770, 783, 853, 897, 941, 954, 998, 1054, 1117, 1173, 1241, 1309, 1365, 1409, 1465, 1545, 1613, 1676, 1719, 1785, 1850], 144) := by decide +kernel
theorem dL_law_188 : decode cL_law 188 = .ok (.aload_n 1, 1) := by decide +kernel
theorem dL_law_189 : decode cL_law 189 = .ok (.aload_n 3, 1) := by decide +kernel
theorem dL_law_190 : decode cL_law 190 = .ok (.invokestatic 116, 3) := by decide +kernel
theorem dL_law_193 : decode cL_law 193 = .ok (.istore 6, 2) := by decide +kernel
theorem dL_law_195 : decode cL_law 195 = .ok (.aload_n 2, 1) := by decide +kernel
theorem dL_law_196 : decode cL_law 196 = .ok (.invokevirtual 121, 3) := by decide +kernel
theorem dL_law_199 : decode cL_law 199 = .ok (.istore 7, 2) := by decide +kernel
theorem dL_law_201 : decode cL_law 201 = .ok (.aload_n 2, 1) := by decide +kernel
theorem dL_law_202 : decode cL_law 202 = .ok (.invokevirtual 122, 3) := by decide +kernel
theorem dL_law_205 : decode cL_law 205 = .ok (.iload 6, 2) := by decide +kernel
theorem dL_law_207 : decode cL_law 207 = .ok (.if_icmp .eq 5, 3) := by decide +kernel
theorem dL_law_210 : decode cL_law 210 = .ok (.iconst 0, 1) := by decide +kernel
theorem dL_law_211 : decode cL_law 211 = .ok (.ireturn, 1) := by decide +kernel
theorem dL_law_212 : decode cL_law 212 = .ok (.iload 6, 2) := by decide +kernel
theorem dL_law_214 : decode cL_law 214 = .ok (.ifCond .ne 15, 3) := by decide +kernel
theorem dL_law_217 : decode cL_law 217 = .ok (.aload_n 3, 1) := by decide +kernel
theorem dL_law_218 : decode cL_law 218 = .ok (.iconst 0, 1) := by decide +kernel
theorem dL_law_219 : decode cL_law 219 = .ok (.laload, 1) := by decide +kernel
theorem dL_law_220 : decode cL_law 220 = .ok (.iload 7, 2) := by decide +kernel
theorem dL_law_222 : decode cL_law 222 = .ok (.i2l, 1) := by decide +kernel
theorem dL_law_223 : decode cL_law 223 = .ok (.lcmp, 1) := by decide +kernel
theorem dL_law_224 : decode cL_law 224 = .ok (.ifCond .eq 5, 3) := by decide +kernel
theorem dL_law_227 : decode cL_law 227 = .ok (.iconst 0, 1) := by decide +kernel
theorem dL_law_228 : decode cL_law 228 = .ok (.ireturn, 1) := by decide +kernel
theorem dL_law_229 : decode cL_law 229 = .ok (.goto 1678, 3) := by decide +kernel
theorem dL_law_232 : decode cL_law 232 = .ok (.aload_n 1, 1) := by decide +kernel
theorem dL_law_233 : decode cL_law 233 = .ok (.aload_n 3, 1) := by decide +kernel
theorem dL_law_234 : decode cL_law 234 = .ok (.invokestatic 125, 3) := by decide +kernel
theorem dL_law_237 : decode cL_law 237 = .ok (.istore 6, 2) := by decide +kernel
theorem dL_law_239 : decode cL_law 239 = .ok (.aload_n 2, 1) := by decide +kernel
theorem dL_law_240 : decode cL_law 240 = .ok (.invokevirtual 127, 3) := by decide +kernel
theorem dL_law_243 : decode cL_law 243 = .ok (.istore 7, 2) := by decide +kernel
theorem dL_law_245 : decode cL_law 245 = .ok (.aload_n 2, 1) := by decide +kernel
theorem dL_law_246 : decode cL_law 246 = .ok (.invokevirtual 122, 3) := by decide +kernel
theorem dL_law_249 : decode cL_law 249 = .ok (.iload 6, 2) := by decide +kernel
theorem dL_law_251 : decode cL_law 251 = .ok (.if_icmp .eq 5, 3) := by decide +kernel
theorem dL_law_254 : decode cL_law 254 = .ok (.iconst 0, 1) := by decide +kernel
theorem dL_law_255 : decode cL_law 255 = .ok (.ireturn, 1) := by decide +kernel
theorem dL_law_256 : decode cL_law 256 = .ok (.iload 6, 2) := by decide +kernel
theorem dL_law_258 : decode cL_law 258 = .ok (.ifCond .ne 15, 3) := by decide +kernel
theorem dL_law_261 : decode cL_law 261 = .ok (.aload_n 3, 1) := by decide +kernel
theorem dL_law_262 : decode cL_law 262 = .ok (.iconst 0, 1) := by decide +kernel
theorem dL_law_263 : decode cL_law 263 = .ok (.laload, 1) := by decide +kernel
theorem dL_law_264 : decode cL_law 264 = .ok (.iload 7, 2) := by decide +kernel
theorem dL_law_266 : decode cL_law 266 = .ok (.i2l, 1) := by decide +kernel
theorem dL_law_267 : decode cL_law 267 = .ok (.lcmp, 1) := by decide +kernel
theorem dL_law_268 : decode cL_law 268 = .ok (.ifCond .eq 5, 3) := by decide +kernel
theorem dL_law_271 : decode cL_law 271 = .ok (.iconst 0, 1) := by decide +kernel
theorem dL_law_272 : decode cL_law 272 = .ok (.ireturn, 1) := by decide +kernel
theorem dL_law_273 : decode cL_law 273 = .ok (.goto 1634, 3) := by decide +kernel
theorem dL_law_276 : decode cL_law 276 = .ok (.aload_n 1, 1) := by decide +kernel
theorem dL_law_277 : decode cL_law 277 = .ok (.aload_n 0, 1) := by decide +kernel
theorem dL_law_278 : decode cL_law 278 = .ok (.iload 5, 2) := by decide +kernel
theorem dL_law_280 : decode cL_law 280 = .ok (.iconst 1, 1) := by decide +kernel
theorem dL_law_281 : decode cL_law 281 = .ok (.iadd, 1) := by decide +kernel
theorem dL_law_282 : decode cL_law 282 = .ok (.iaload, 1) := by decide +kernel
theorem dL_law_283 : decode cL_law 283 = .ok (.aload_n 0, 1) := by decide +kernel
theorem dL_law_284 : decode cL_law 284 = .ok (.iload 5, 2) := by decide +kernel
theorem dL_law_286 : decode cL_law 286 = .ok (.iconst 2, 1) := by decide +kernel
theorem dL_law_287 : decode cL_law 287 = .ok (.iadd, 1) := by decide +kernel
theorem dL_law_288 : decode cL_law 288 = .ok (.iaload, 1) := by decide +kernel
theorem dL_law_289 : decode cL_law 289 = .ok (.aload_n 0, 1) := by decide +kernel
theorem dL_law_290 : decode cL_law 290 = .ok (.iload 5, 2) := by decide +kernel
theorem dL_law_292 : decode cL_law 292 = .ok (.iconst 3, 1) := by decide +kernel
theorem dL_law_293 : decode cL_law 293 = .ok (.iadd, 1) := by decide +kernel
theorem dL_law_294 : decode cL_law 294 = .ok (.iaload, 1) := by decide +kernel
theorem dL_law_295 : decode cL_law 295 = .ok (.aload_n 3, 1) := by decide +kernel
theorem dL_law_296 : decode cL_law 296 = .ok (.invokestatic 128, 3) := by decide +kernel
theorem dL_law_299 : decode cL_law 299 = .ok (.istore 6, 2) := by decide +kernel
theorem dL_law_301 : decode cL_law 301 = .ok (.aload_n 2, 1) := by decide +kernel
theorem dL_law_302 : decode cL_law 302 = .ok (.aload_n 0, 1) := by decide +kernel
theorem dL_law_303 : decode cL_law 303 = .ok (.iload 5, 2) := by decide +kernel
theorem dL_law_305 : decode cL_law 305 = .ok (.iconst 1, 1) := by decide +kernel
theorem dL_law_306 : decode cL_law 306 = .ok (.iadd, 1) := by decide +kernel
theorem dL_law_307 : decode cL_law 307 = .ok (.iaload, 1) := by decide +kernel
theorem dL_law_308 : decode cL_law 308 = .ok (.aload_n 0, 1) := by decide +kernel
theorem dL_law_309 : decode cL_law 309 = .ok (.iload 5, 2) := by decide +kernel
theorem dL_law_311 : decode cL_law 311 = .ok (.iconst 2, 1) := by decide +kernel
theorem dL_law_312 : decode cL_law 312 = .ok (.iadd, 1) := by decide +kernel
theorem dL_law_313 : decode cL_law 313 = .ok (.iaload, 1) := by decide +kernel
theorem dL_law_314 : decode cL_law 314 = .ok (.aload_n 0, 1) := by decide +kernel
theorem dL_law_315 : decode cL_law 315 = .ok (.iload 5, 2) := by decide +kernel
theorem dL_law_317 : decode cL_law 317 = .ok (.iconst 3, 1) := by decide +kernel
theorem dL_law_318 : decode cL_law 318 = .ok (.iadd, 1) := by decide +kernel
theorem dL_law_319 : decode cL_law 319 = .ok (.iaload, 1) := by decide +kernel
theorem dL_law_320 : decode cL_law 320 = .ok (.invokevirtual 131, 3) := by decide +kernel
theorem dL_law_323 : decode cL_law 323 = .ok (.istore 7, 2) := by decide +kernel
theorem dL_law_325 : decode cL_law 325 = .ok (.aload_n 2, 1) := by decide +kernel
theorem dL_law_326 : decode cL_law 326 = .ok (.invokevirtual 122, 3) := by decide +kernel
theorem dL_law_329 : decode cL_law 329 = .ok (.iload 6, 2) := by decide +kernel
theorem dL_law_331 : decode cL_law 331 = .ok (.if_icmp .eq 5, 3) := by decide +kernel
theorem dL_law_334 : decode cL_law 334 = .ok (.iconst 0, 1) := by decide +kernel
theorem dL_law_335 : decode cL_law 335 = .ok (.ireturn, 1) := by decide +kernel
theorem dL_law_336 : decode cL_law 336 = .ok (.iload 6, 2) := by decide +kernel
theorem dL_law_338 : decode cL_law 338 = .ok (.ifCond .ne 15, 3) := by decide +kernel
theorem dL_law_341 : decode cL_law 341 = .ok (.aload_n 3, 1) := by decide +kernel
theorem dL_law_342 : decode cL_law 342 = .ok (.iconst 0, 1) := by decide +kernel
theorem dL_law_343 : decode cL_law 343 = .ok (.laload, 1) := by decide +kernel
theorem dL_law_344 : decode cL_law 344 = .ok (.iload 7, 2) := by decide +kernel
theorem dL_law_346 : decode cL_law 346 = .ok (.i2l, 1) := by decide +kernel
theorem dL_law_347 : decode cL_law 347 = .ok (.lcmp, 1) := by decide +kernel
theorem dL_law_348 : decode cL_law 348 = .ok (.ifCond .eq 5, 3) := by decide +kernel
theorem dL_law_351 : decode cL_law 351 = .ok (.iconst 0, 1) := by decide +kernel
theorem dL_law_352 : decode cL_law 352 = .ok (.ireturn, 1) := by decide +kernel
theorem dL_law_353 : decode cL_law 353 = .ok (.goto 1554, 3) := by decide +kernel
theorem dL_law_356 : decode cL_law 356 = .ok (.aload_n 1, 1) := by decide +kernel
theorem dL_law_357 : decode cL_law 357 = .ok (.aload_n 0, 1) := by decide +kernel
theorem dL_law_358 : decode cL_law 358 = .ok (.iload 5, 2) := by decide +kernel
theorem dL_law_360 : decode cL_law 360 = .ok (.iconst 1, 1) := by decide +kernel
theorem dL_law_361 : decode cL_law 361 = .ok (.iadd, 1) := by decide +kernel
theorem dL_law_362 : decode cL_law 362 = .ok (.iaload, 1) := by decide +kernel
theorem dL_law_363 : decode cL_law 363 = .ok (.aload_n 0, 1) := by decide +kernel
theorem dL_law_364 : decode cL_law 364 = .ok (.iload 5, 2) := by decide +kernel
theorem dL_law_366 : decode cL_law 366 = .ok (.iconst 2, 1) := by decide +kernel
theorem dL_law_367 : decode cL_law 367 = .ok (.iadd, 1) := by decide +kernel
theorem dL_law_368 : decode cL_law 368 = .ok (.iaload, 1) := by decide +kernel
theorem dL_law_369 : decode cL_law 369 = .ok (.aload_n 3, 1) := by decide +kernel
theorem dL_law_370 : decode cL_law 370 = .ok (.invokestatic 132, 3) := by decide +kernel
theorem dL_law_373 : decode cL_law 373 = .ok (.istore 6, 2) := by decide +kernel
theorem dL_law_375 : decode cL_law 375 = .ok (.aload_n 2, 1) := by decide +kernel
theorem dL_law_376 : decode cL_law 376 = .ok (.aload_n 0, 1) := by decide +kernel
theorem dL_law_377 : decode cL_law 377 = .ok (.iload 5, 2) := by decide +kernel
theorem dL_law_379 : decode cL_law 379 = .ok (.iconst 1, 1) := by decide +kernel
theorem dL_law_380 : decode cL_law 380 = .ok (.iadd, 1) := by decide +kernel
theorem dL_law_381 : decode cL_law 381 = .ok (.iaload, 1) := by decide +kernel
theorem dL_law_382 : decode cL_law 382 = .ok (.aload_n 0, 1) := by decide +kernel
theorem dL_law_383 : decode cL_law 383 = .ok (.iload 5, 2) := by decide +kernel
theorem dL_law_385 : decode cL_law 385 = .ok (.iconst 2, 1) := by decide +kernel
theorem dL_law_386 : decode cL_law 386 = .ok (.iadd, 1) := by decide +kernel
theorem dL_law_387 : decode cL_law 387 = .ok (.iaload, 1) := by decide +kernel
theorem dL_law_388 : decode cL_law 388 = .ok (.invokevirtual 135, 3) := by decide +kernel
theorem dL_law_391 : decode cL_law 391 = .ok (.istore 7, 2) := by decide +kernel
theorem dL_law_393 : decode cL_law 393 = .ok (.aload_n 2, 1) := by decide +kernel
theorem dL_law_394 : decode cL_law 394 = .ok (.invokevirtual 122, 3) := by decide +kernel
theorem dL_law_397 : decode cL_law 397 = .ok (.iload 6, 2) := by decide +kernel
theorem dL_law_399 : decode cL_law 399 = .ok (.if_icmp .eq 5, 3) := by decide +kernel
theorem dL_law_402 : decode cL_law 402 = .ok (.iconst 0, 1) := by decide +kernel
theorem dL_law_403 : decode cL_law 403 = .ok (.ireturn, 1) := by decide +kernel
theorem dL_law_404 : decode cL_law 404 = .ok (.iload 6, 2) := by decide +kernel
theorem dL_law_406 : decode cL_law 406 = .ok (.ifCond .ne 15, 3) := by decide +kernel
theorem dL_law_409 : decode cL_law 409 = .ok (.aload_n 3, 1) := by decide +kernel
theorem dL_law_410 : decode cL_law 410 = .ok (.iconst 0, 1) := by decide +kernel
theorem dL_law_411 : decode cL_law 411 = .ok (.laload, 1) := by decide +kernel
theorem dL_law_412 : decode cL_law 412 = .ok (.iload 7, 2) := by decide +kernel
theorem dL_law_414 : decode cL_law 414 = .ok (.i2l, 1) := by decide +kernel
theorem dL_law_415 : decode cL_law 415 = .ok (.lcmp, 1) := by decide +kernel
theorem dL_law_416 : decode cL_law 416 = .ok (.ifCond .eq 5, 3) := by decide +kernel
theorem dL_law_419 : decode cL_law 419 = .ok (.iconst 0, 1) := by decide +kernel
theorem dL_law_420 : decode cL_law 420 = .ok (.ireturn, 1) := by decide +kernel
theorem dL_law_421 : decode cL_law 421 = .ok (.goto 1486, 3) := by decide +kernel
theorem dL_law_424 : decode cL_law 424 = .ok (.aload_n 1, 1) := by decide +kernel
theorem dL_law_425 : decode cL_law 425 = .ok (.aload_n 0, 1) := by decide +kernel
theorem dL_law_426 : decode cL_law 426 = .ok (.iload 5, 2) := by decide +kernel
theorem dL_law_428 : decode cL_law 428 = .ok (.iconst 1, 1) := by decide +kernel
theorem dL_law_429 : decode cL_law 429 = .ok (.iadd, 1) := by decide +kernel
theorem dL_law_430 : decode cL_law 430 = .ok (.iaload, 1) := by decide +kernel
theorem dL_law_431 : decode cL_law 431 = .ok (.aload_n 0, 1) := by decide +kernel
theorem dL_law_432 : decode cL_law 432 = .ok (.iload 5, 2) := by decide +kernel
theorem dL_law_434 : decode cL_law 434 = .ok (.iconst 2, 1) := by decide +kernel
theorem dL_law_435 : decode cL_law 435 = .ok (.iadd, 1) := by decide +kernel
theorem dL_law_436 : decode cL_law 436 = .ok (.iaload, 1) := by decide +kernel
theorem dL_law_437 : decode cL_law 437 = .ok (.aload_n 0, 1) := by decide +kernel
theorem dL_law_438 : decode cL_law 438 = .ok (.iload 5, 2) := by decide +kernel
theorem dL_law_440 : decode cL_law 440 = .ok (.iconst 3, 1) := by decide +kernel
theorem dL_law_441 : decode cL_law 441 = .ok (.iadd, 1) := by decide +kernel
theorem dL_law_442 : decode cL_law 442 = .ok (.iaload, 1) := by decide +kernel
theorem dL_law_443 : decode cL_law 443 = .ok (.aload_n 3, 1) := by decide +kernel
theorem dL_law_444 : decode cL_law 444 = .ok (.invokestatic 136, 3) := by decide +kernel
theorem dL_law_447 : decode cL_law 447 = .ok (.istore 6, 2) := by decide +kernel
theorem dL_law_449 : decode cL_law 449 = .ok (.aload_n 2, 1) := by decide +kernel
theorem dL_law_450 : decode cL_law 450 = .ok (.aload_n 0, 1) := by decide +kernel
theorem dL_law_451 : decode cL_law 451 = .ok (.iload 5, 2) := by decide +kernel
theorem dL_law_453 : decode cL_law 453 = .ok (.iconst 1, 1) := by decide +kernel
theorem dL_law_454 : decode cL_law 454 = .ok (.iadd, 1) := by decide +kernel
theorem dL_law_455 : decode cL_law 455 = .ok (.iaload, 1) := by decide +kernel
theorem dL_law_456 : decode cL_law 456 = .ok (.aload_n 0, 1) := by decide +kernel
theorem dL_law_457 : decode cL_law 457 = .ok (.iload 5, 2) := by decide +kernel
theorem dL_law_459 : decode cL_law 459 = .ok (.iconst 2, 1) := by decide +kernel
theorem dL_law_460 : decode cL_law 460 = .ok (.iadd, 1) := by decide +kernel
theorem dL_law_461 : decode cL_law 461 = .ok (.iaload, 1) := by decide +kernel
theorem dL_law_462 : decode cL_law 462 = .ok (.aload_n 0, 1) := by decide +kernel
theorem dL_law_463 : decode cL_law 463 = .ok (.iload 5, 2) := by decide +kernel
theorem dL_law_465 : decode cL_law 465 = .ok (.iconst 3, 1) := by decide +kernel
theorem dL_law_466 : decode cL_law 466 = .ok (.iadd, 1) := by decide +kernel
theorem dL_law_467 : decode cL_law 467 = .ok (.iaload, 1) := by decide +kernel
theorem dL_law_468 : decode cL_law 468 = .ok (.invokevirtual 138, 3) := by decide +kernel
theorem dL_law_471 : decode cL_law 471 = .ok (.istore 7, 2) := by decide +kernel
theorem dL_law_473 : decode cL_law 473 = .ok (.aload_n 2, 1) := by decide +kernel
theorem dL_law_474 : decode cL_law 474 = .ok (.invokevirtual 122, 3) := by decide +kernel
theorem dL_law_477 : decode cL_law 477 = .ok (.iload 6, 2) := by decide +kernel
theorem dL_law_479 : decode cL_law 479 = .ok (.if_icmp .eq 5, 3) := by decide +kernel
theorem dL_law_482 : decode cL_law 482 = .ok (.iconst 0, 1) := by decide +kernel
theorem dL_law_483 : decode cL_law 483 = .ok (.ireturn, 1) := by decide +kernel
theorem dL_law_484 : decode cL_law 484 = .ok (.iload 6, 2) := by decide +kernel
theorem dL_law_486 : decode cL_law 486 = .ok (.ifCond .ne 15, 3) := by decide +kernel
theorem dL_law_489 : decode cL_law 489 = .ok (.aload_n 3, 1) := by decide +kernel
theorem dL_law_490 : decode cL_law 490 = .ok (.iconst 0, 1) := by decide +kernel
theorem dL_law_491 : decode cL_law 491 = .ok (.laload, 1) := by decide +kernel
theorem dL_law_492 : decode cL_law 492 = .ok (.iload 7, 2) := by decide +kernel
theorem dL_law_494 : decode cL_law 494 = .ok (.i2l, 1) := by decide +kernel
theorem dL_law_495 : decode cL_law 495 = .ok (.lcmp, 1) := by decide +kernel
theorem dL_law_496 : decode cL_law 496 = .ok (.ifCond .eq 5, 3) := by decide +kernel
theorem dL_law_499 : decode cL_law 499 = .ok (.iconst 0, 1) := by decide +kernel
theorem dL_law_500 : decode cL_law 500 = .ok (.ireturn, 1) := by decide +kernel
theorem dL_law_501 : decode cL_law 501 = .ok (.goto 1406, 3) := by decide +kernel
theorem dL_law_504 : decode cL_law 504 = .ok (.aload_n 1, 1) := by decide +kernel
theorem dL_law_505 : decode cL_law 505 = .ok (.invokevirtual 139, 3) := by decide +kernel
theorem dL_law_508 : decode cL_law 508 = .ok (.aload_n 2, 1) := by decide +kernel
theorem dL_law_509 : decode cL_law 509 = .ok (.invokevirtual 142, 3) := by decide +kernel
theorem dL_law_512 : decode cL_law 512 = .ok (.if_icmp .eq 1395, 3) := by decide +kernel
theorem dL_law_515 : decode cL_law 515 = .ok (.iconst 0, 1) := by decide +kernel
theorem dL_law_516 : decode cL_law 516 = .ok (.ireturn, 1) := by decide +kernel
theorem dL_law_517 : decode cL_law 517 = .ok (.aload_n 1, 1) := by decide +kernel
theorem dL_law_518 : decode cL_law 518 = .ok (.aload_n 0, 1) := by decide +kernel
theorem dL_law_519 : decode cL_law 519 = .ok (.iload 5, 2) := by decide +kernel
theorem dL_law_521 : decode cL_law 521 = .ok (.iconst 1, 1) := by decide +kernel
theorem dL_law_522 : decode cL_law 522 = .ok (.iadd, 1) := by decide +kernel
theorem dL_law_523 : decode cL_law 523 = .ok (.iaload, 1) := by decide +kernel
theorem dL_law_524 : decode cL_law 524 = .ok (.aload_n 3, 1) := by decide +kernel
theorem dL_law_525 : decode cL_law 525 = .ok (.invokestatic 143, 3) := by decide +kernel
theorem dL_law_528 : decode cL_law 528 = .ok (.istore 6, 2) := by decide +kernel
theorem dL_law_530 : decode cL_law 530 = .ok (.aload_n 2, 1) := by decide +kernel
theorem dL_law_531 : decode cL_law 531 = .ok (.aload_n 0, 1) := by decide +kernel
theorem dL_law_532 : decode cL_law 532 = .ok (.iload 5, 2) := by decide +kernel
theorem dL_law_534 : decode cL_law 534 = .ok (.iconst 1, 1) := by decide +kernel
theorem dL_law_535 : decode cL_law 535 = .ok (.iadd, 1) := by decide +kernel
theorem dL_law_536 : decode cL_law 536 = .ok (.iaload, 1) := by decide +kernel
theorem dL_law_537 : decode cL_law 537 = .ok (.invokevirtual 146, 3) := by decide +kernel
theorem dL_law_540 : decode cL_law 540 = .ok (.istore 7, 2) := by decide +kernel
theorem dL_law_542 : decode cL_law 542 = .ok (.aload_n 2, 1) := by decide +kernel
theorem dL_law_543 : decode cL_law 543 = .ok (.invokevirtual 122, 3) := by decide +kernel
theorem dL_law_546 : decode cL_law 546 = .ok (.iload 6, 2) := by decide +kernel
theorem dL_law_548 : decode cL_law 548 = .ok (.if_icmp .eq 5, 3) := by decide +kernel
theorem dL_law_551 : decode cL_law 551 = .ok (.iconst 0, 1) := by decide +kernel
theorem dL_law_552 : decode cL_law 552 = .ok (.ireturn, 1) := by decide +kernel
theorem dL_law_553 : decode cL_law 553 = .ok (.iload 6, 2) := by decide +kernel
theorem dL_law_555 : decode cL_law 555 = .ok (.ifCond .ne 15, 3) := by decide +kernel
theorem dL_law_558 : decode cL_law 558 = .ok (.aload_n 3, 1) := by decide +kernel
theorem dL_law_559 : decode cL_law 559 = .ok (.iconst 0, 1) := by decide +kernel
theorem dL_law_560 : decode cL_law 560 = .ok (.laload, 1) := by decide +kernel
theorem dL_law_561 : decode cL_law 561 = .ok (.iload 7, 2) := by decide +kernel
theorem dL_law_563 : decode cL_law 563 = .ok (.i2l, 1) := by decide +kernel
theorem dL_law_564 : decode cL_law 564 = .ok (.lcmp, 1) := by decide +kernel
theorem dL_law_565 : decode cL_law 565 = .ok (.ifCond .eq 5, 3) := by decide +kernel
theorem dL_law_568 : decode cL_law 568 = .ok (.iconst 0, 1) := by decide +kernel
theorem dL_law_569 : decode cL_law 569 = .ok (.ireturn, 1) := by decide +kernel
theorem dL_law_570 : decode cL_law 570 = .ok (.goto 1337, 3) := by decide +kernel
theorem dL_law_573 : decode cL_law 573 = .ok (.aload_n 1, 1) := by decide +kernel
theorem dL_law_574 : decode cL_law 574 = .ok (.aload_n 0, 1) := by decide +kernel
theorem dL_law_575 : decode cL_law 575 = .ok (.iload 5, 2) := by decide +kernel
theorem dL_law_577 : decode cL_law 577 = .ok (.iconst 1, 1) := by decide +kernel
theorem dL_law_578 : decode cL_law 578 = .ok (.iadd, 1) := by decide +kernel
theorem dL_law_579 : decode cL_law 579 = .ok (.iaload, 1) := by decide +kernel
theorem dL_law_580 : decode cL_law 580 = .ok (.aload_n 0, 1) := by decide +kernel
theorem dL_law_581 : decode cL_law 581 = .ok (.iload 5, 2) := by decide +kernel
theorem dL_law_583 : decode cL_law 583 = .ok (.iconst 2, 1) := by decide +kernel
theorem dL_law_584 : decode cL_law 584 = .ok (.iadd, 1) := by decide +kernel
theorem dL_law_585 : decode cL_law 585 = .ok (.iaload, 1) := by decide +kernel
theorem dL_law_586 : decode cL_law 586 = .ok (.aload_n 3, 1) := by decide +kernel
theorem dL_law_587 : decode cL_law 587 = .ok (.invokestatic 147, 3) := by decide +kernel
theorem dL_law_590 : decode cL_law 590 = .ok (.istore 6, 2) := by decide +kernel
theorem dL_law_592 : decode cL_law 592 = .ok (.aload_n 2, 1) := by decide +kernel
theorem dL_law_593 : decode cL_law 593 = .ok (.aload_n 0, 1) := by decide +kernel
theorem dL_law_594 : decode cL_law 594 = .ok (.iload 5, 2) := by decide +kernel
theorem dL_law_596 : decode cL_law 596 = .ok (.iconst 1, 1) := by decide +kernel
theorem dL_law_597 : decode cL_law 597 = .ok (.iadd, 1) := by decide +kernel
theorem dL_law_598 : decode cL_law 598 = .ok (.iaload, 1) := by decide +kernel
theorem dL_law_599 : decode cL_law 599 = .ok (.aload_n 0, 1) := by decide +kernel
theorem dL_law_600 : decode cL_law 600 = .ok (.iload 5, 2) := by decide +kernel
theorem dL_law_602 : decode cL_law 602 = .ok (.iconst 2, 1) := by decide +kernel
theorem dL_law_603 : decode cL_law 603 = .ok (.iadd, 1) := by decide +kernel
theorem dL_law_604 : decode cL_law 604 = .ok (.iaload, 1) := by decide +kernel
theorem dL_law_605 : decode cL_law 605 = .ok (.invokevirtual 149, 3) := by decide +kernel
theorem dL_law_608 : decode cL_law 608 = .ok (.istore 7, 2) := by decide +kernel
theorem dL_law_610 : decode cL_law 610 = .ok (.aload_n 2, 1) := by decide +kernel
theorem dL_law_611 : decode cL_law 611 = .ok (.invokevirtual 122, 3) := by decide +kernel
theorem dL_law_614 : decode cL_law 614 = .ok (.iload 6, 2) := by decide +kernel
theorem dL_law_616 : decode cL_law 616 = .ok (.if_icmp .eq 5, 3) := by decide +kernel
theorem dL_law_619 : decode cL_law 619 = .ok (.iconst 0, 1) := by decide +kernel
theorem dL_law_620 : decode cL_law 620 = .ok (.ireturn, 1) := by decide +kernel
theorem dL_law_621 : decode cL_law 621 = .ok (.iload 6, 2) := by decide +kernel
theorem dL_law_623 : decode cL_law 623 = .ok (.ifCond .ne 15, 3) := by decide +kernel
theorem dL_law_626 : decode cL_law 626 = .ok (.aload_n 3, 1) := by decide +kernel
theorem dL_law_627 : decode cL_law 627 = .ok (.iconst 0, 1) := by decide +kernel
theorem dL_law_628 : decode cL_law 628 = .ok (.laload, 1) := by decide +kernel
theorem dL_law_629 : decode cL_law 629 = .ok (.iload 7, 2) := by decide +kernel
theorem dL_law_631 : decode cL_law 631 = .ok (.i2l, 1) := by decide +kernel
theorem dL_law_632 : decode cL_law 632 = .ok (.lcmp, 1) := by decide +kernel
theorem dL_law_633 : decode cL_law 633 = .ok (.ifCond .eq 5, 3) := by decide +kernel
theorem dL_law_636 : decode cL_law 636 = .ok (.iconst 0, 1) := by decide +kernel
theorem dL_law_637 : decode cL_law 637 = .ok (.ireturn, 1) := by decide +kernel
theorem dL_law_638 : decode cL_law 638 = .ok (.goto 1269, 3) := by decide +kernel
theorem dL_law_641 : decode cL_law 641 = .ok (.aload_n 1, 1) := by decide +kernel
theorem dL_law_642 : decode cL_law 642 = .ok (.aload_n 0, 1) := by decide +kernel
theorem dL_law_643 : decode cL_law 643 = .ok (.iload 5, 2) := by decide +kernel
theorem dL_law_645 : decode cL_law 645 = .ok (.iconst 1, 1) := by decide +kernel
theorem dL_law_646 : decode cL_law 646 = .ok (.iadd, 1) := by decide +kernel
theorem dL_law_647 : decode cL_law 647 = .ok (.iaload, 1) := by decide +kernel
theorem dL_law_648 : decode cL_law 648 = .ok (.aload_n 0, 1) := by decide +kernel
theorem dL_law_649 : decode cL_law 649 = .ok (.iload 5, 2) := by decide +kernel
theorem dL_law_651 : decode cL_law 651 = .ok (.iconst 2, 1) := by decide +kernel
theorem dL_law_652 : decode cL_law 652 = .ok (.iadd, 1) := by decide +kernel
theorem dL_law_653 : decode cL_law 653 = .ok (.iaload, 1) := by decide +kernel
theorem dL_law_654 : decode cL_law 654 = .ok (.aload_n 0, 1) := by decide +kernel
theorem dL_law_655 : decode cL_law 655 = .ok (.iload 5, 2) := by decide +kernel
theorem dL_law_657 : decode cL_law 657 = .ok (.iconst 3, 1) := by decide +kernel
theorem dL_law_658 : decode cL_law 658 = .ok (.iadd, 1) := by decide +kernel
theorem dL_law_659 : decode cL_law 659 = .ok (.iaload, 1) := by decide +kernel
theorem dL_law_660 : decode cL_law 660 = .ok (.aload_n 3, 1) := by decide +kernel
theorem dL_law_661 : decode cL_law 661 = .ok (.invokestatic 150, 3) := by decide +kernel
theorem dL_law_664 : decode cL_law 664 = .ok (.istore 6, 2) := by decide +kernel
theorem dL_law_666 : decode cL_law 666 = .ok (.aload_n 2, 1) := by decide +kernel
theorem dL_law_667 : decode cL_law 667 = .ok (.aload_n 0, 1) := by decide +kernel
theorem dL_law_668 : decode cL_law 668 = .ok (.iload 5, 2) := by decide +kernel
theorem dL_law_670 : decode cL_law 670 = .ok (.iconst 1, 1) := by decide +kernel
theorem dL_law_671 : decode cL_law 671 = .ok (.iadd, 1) := by decide +kernel
theorem dL_law_672 : decode cL_law 672 = .ok (.iaload, 1) := by decide +kernel
theorem dL_law_673 : decode cL_law 673 = .ok (.aload_n 0, 1) := by decide +kernel
theorem dL_law_674 : decode cL_law 674 = .ok (.iload 5, 2) := by decide +kernel
theorem dL_law_676 : decode cL_law 676 = .ok (.iconst 2, 1) := by decide +kernel
theorem dL_law_677 : decode cL_law 677 = .ok (.iadd, 1) := by decide +kernel
theorem dL_law_678 : decode cL_law 678 = .ok (.iaload, 1) := by decide +kernel
theorem dL_law_679 : decode cL_law 679 = .ok (.aload_n 0, 1) := by decide +kernel
theorem dL_law_680 : decode cL_law 680 = .ok (.iload 5, 2) := by decide +kernel
theorem dL_law_682 : decode cL_law 682 = .ok (.iconst 3, 1) := by decide +kernel
theorem dL_law_683 : decode cL_law 683 = .ok (.iadd, 1) := by decide +kernel
theorem dL_law_684 : decode cL_law 684 = .ok (.iaload, 1) := by decide +kernel
theorem dL_law_685 : decode cL_law 685 = .ok (.invokevirtual 152, 3) := by decide +kernel
theorem dL_law_688 : decode cL_law 688 = .ok (.istore 7, 2) := by decide +kernel
theorem dL_law_690 : decode cL_law 690 = .ok (.aload_n 2, 1) := by decide +kernel
theorem dL_law_691 : decode cL_law 691 = .ok (.invokevirtual 122, 3) := by decide +kernel
theorem dL_law_694 : decode cL_law 694 = .ok (.iload 6, 2) := by decide +kernel
theorem dL_law_696 : decode cL_law 696 = .ok (.if_icmp .eq 5, 3) := by decide +kernel
theorem dL_law_699 : decode cL_law 699 = .ok (.iconst 0, 1) := by decide +kernel
theorem dL_law_700 : decode cL_law 700 = .ok (.ireturn, 1) := by decide +kernel
theorem dL_law_701 : decode cL_law 701 = .ok (.iload 6, 2) := by decide +kernel
theorem dL_law_703 : decode cL_law 703 = .ok (.ifCond .ne 15, 3) := by decide +kernel
theorem dL_law_706 : decode cL_law 706 = .ok (.aload_n 3, 1) := by decide +kernel
theorem dL_law_707 : decode cL_law 707 = .ok (.iconst 0, 1) := by decide +kernel
theorem dL_law_708 : decode cL_law 708 = .ok (.laload, 1) := by decide +kernel
theorem dL_law_709 : decode cL_law 709 = .ok (.iload 7, 2) := by decide +kernel
theorem dL_law_711 : decode cL_law 711 = .ok (.i2l, 1) := by decide +kernel
theorem dL_law_712 : decode cL_law 712 = .ok (.lcmp, 1) := by decide +kernel
theorem dL_law_713 : decode cL_law 713 = .ok (.ifCond .eq 5, 3) := by decide +kernel
theorem dL_law_716 : decode cL_law 716 = .ok (.iconst 0, 1) := by decide +kernel
theorem dL_law_717 : decode cL_law 717 = .ok (.ireturn, 1) := by decide +kernel
theorem dL_law_718 : decode cL_law 718 = .ok (.goto 1189, 3) := by decide +kernel
theorem dL_law_721 : decode cL_law 721 = .ok (.aload_n 1, 1) := by decide +kernel
theorem dL_law_722 : decode cL_law 722 = .ok (.invokevirtual 153, 3) := by decide +kernel
theorem dL_law_725 : decode cL_law 725 = .ok (.aload_n 2, 1) := by decide +kernel
theorem dL_law_726 : decode cL_law 726 = .ok (.invokevirtual 156, 3) := by decide +kernel
theorem dL_law_729 : decode cL_law 729 = .ok (.if_icmp .eq 1178, 3) := by decide +kernel
theorem dL_law_732 : decode cL_law 732 = .ok (.iconst 0, 1) := by decide +kernel
theorem dL_law_733 : decode cL_law 733 = .ok (.ireturn, 1) := by decide +kernel
theorem dL_law_734 : decode cL_law 734 = .ok (.aload_n 1, 1) := by decide +kernel
theorem dL_law_735 : decode cL_law 735 = .ok (.aload_n 0, 1) := by decide +kernel
theorem dL_law_736 : decode cL_law 736 = .ok (.iload 5, 2) := by decide +kernel
theorem dL_law_738 : decode cL_law 738 = .ok (.iconst 1, 1) := by decide +kernel
theorem dL_law_739 : decode cL_law 739 = .ok (.iadd, 1) := by decide +kernel
theorem dL_law_740 : decode cL_law 740 = .ok (.iaload, 1) := by decide +kernel
theorem dL_law_741 : decode cL_law 741 = .ok (.aload_n 0, 1) := by decide +kernel
theorem dL_law_742 : decode cL_law 742 = .ok (.iload 5, 2) := by decide +kernel
theorem dL_law_744 : decode cL_law 744 = .ok (.iconst 2, 1) := by decide +kernel
theorem dL_law_745 : decode cL_law 745 = .ok (.iadd, 1) := by decide +kernel
theorem dL_law_746 : decode cL_law 746 = .ok (.iaload, 1) := by decide +kernel
theorem dL_law_747 : decode cL_law 747 = .ok (.aload_n 0, 1) := by decide +kernel
theorem dL_law_748 : decode cL_law 748 = .ok (.iload 5, 2) := by decide +kernel
theorem dL_law_750 : decode cL_law 750 = .ok (.iconst 3, 1) := by decide +kernel
theorem dL_law_751 : decode cL_law 751 = .ok (.iadd, 1) := by decide +kernel
theorem dL_law_752 : decode cL_law 752 = .ok (.iaload, 1) := by decide +kernel
theorem dL_law_753 : decode cL_law 753 = .ok (.aload_n 3, 1) := by decide +kernel
theorem dL_law_754 : decode cL_law 754 = .ok (.invokestatic 157, 3) := by decide +kernel
theorem dL_law_757 : decode cL_law 757 = .ok (.istore 6, 2) := by decide +kernel
theorem dL_law_759 : decode cL_law 759 = .ok (.aload_n 2, 1) := by decide +kernel
theorem dL_law_760 : decode cL_law 760 = .ok (.aload_n 0, 1) := by decide +kernel
theorem dL_law_761 : decode cL_law 761 = .ok (.iload 5, 2) := by decide +kernel
theorem dL_law_763 : decode cL_law 763 = .ok (.iconst 1, 1) := by decide +kernel
theorem dL_law_764 : decode cL_law 764 = .ok (.iadd, 1) := by decide +kernel
theorem dL_law_765 : decode cL_law 765 = .ok (.iaload, 1) := by decide +kernel
theorem dL_law_766 : decode cL_law 766 = .ok (.aload_n 0, 1) := by decide +kernel
theorem dL_law_767 : decode cL_law 767 = .ok (.iload 5, 2) := by decide +kernel
theorem dL_law_769 : decode cL_law 769 = .ok (.iconst 2, 1) := by decide +kernel
theorem dL_law_770 : decode cL_law 770 = .ok (.iadd, 1) := by decide +kernel
theorem dL_law_771 : decode cL_law 771 = .ok (.iaload, 1) := by decide +kernel
theorem dL_law_772 : decode cL_law 772 = .ok (.aload_n 0, 1) := by decide +kernel
theorem dL_law_773 : decode cL_law 773 = .ok (.iload 5, 2) := by decide +kernel
theorem dL_law_775 : decode cL_law 775 = .ok (.iconst 3, 1) := by decide +kernel
theorem dL_law_776 : decode cL_law 776 = .ok (.iadd, 1) := by decide +kernel
theorem dL_law_777 : decode cL_law 777 = .ok (.iaload, 1) := by decide +kernel
theorem dL_law_778 : decode cL_law 778 = .ok (.invokevirtual 159, 3) := by decide +kernel
theorem dL_law_781 : decode cL_law 781 = .ok (.istore 7, 2) := by decide +kernel
theorem dL_law_783 : decode cL_law 783 = .ok (.aload_n 2, 1) := by decide +kernel
theorem dL_law_784 : decode cL_law 784 = .ok (.invokevirtual 122, 3) := by decide +kernel
theorem dL_law_787 : decode cL_law 787 = .ok (.iload 6, 2) := by decide +kernel
theorem dL_law_789 : decode cL_law 789 = .ok (.if_icmp .eq 5, 3) := by decide +kernel
theorem dL_law_792 : decode cL_law 792 = .ok (.iconst 0, 1) := by decide +kernel
theorem dL_law_793 : decode cL_law 793 = .ok (.ireturn, 1) := by decide +kernel
theorem dL_law_794 : decode cL_law 794 = .ok (.iload 6, 2) := by decide +kernel
theorem dL_law_796 : decode cL_law 796 = .ok (.ifCond .ne 15, 3) := by decide +kernel
theorem dL_law_799 : decode cL_law 799 = .ok (.aload_n 3, 1) := by decide +kernel
theorem dL_law_800 : decode cL_law 800 = .ok (.iconst 0, 1) := by decide +kernel
theorem dL_law_801 : decode cL_law 801 = .ok (.laload, 1) := by decide +kernel
theorem dL_law_802 : decode cL_law 802 = .ok (.iload 7, 2) := by decide +kernel
theorem dL_law_804 : decode cL_law 804 = .ok (.i2l, 1) := by decide +kernel
theorem dL_law_805 : decode cL_law 805 = .ok (.lcmp, 1) := by decide +kernel
theorem dL_law_806 : decode cL_law 806 = .ok (.ifCond .eq 5, 3) := by decide +kernel
theorem dL_law_809 : decode cL_law 809 = .ok (.iconst 0, 1) := by decide +kernel
theorem dL_law_810 : decode cL_law 810 = .ok (.ireturn, 1) := by decide +kernel
theorem dL_law_811 : decode cL_law 811 = .ok (.goto 1096, 3) := by decide +kernel
theorem dL_law_814 : decode cL_law 814 = .ok (.aload_n 1, 1) := by decide +kernel
theorem dL_law_815 : decode cL_law 815 = .ok (.invokevirtual 160, 3) := by decide +kernel
theorem dL_law_818 : decode cL_law 818 = .ok (.aload_n 2, 1) := by decide +kernel
theorem dL_law_819 : decode cL_law 819 = .ok (.invokevirtual 163, 3) := by decide +kernel
theorem dL_law_822 : decode cL_law 822 = .ok (.if_icmp .eq 1085, 3) := by decide +kernel
theorem dL_law_825 : decode cL_law 825 = .ok (.iconst 0, 1) := by decide +kernel
theorem dL_law_826 : decode cL_law 826 = .ok (.ireturn, 1) := by decide +kernel
theorem dL_law_827 : decode cL_law 827 = .ok (.aload_n 1, 1) := by decide +kernel
theorem dL_law_828 : decode cL_law 828 = .ok (.aload_n 0, 1) := by decide +kernel
theorem dL_law_829 : decode cL_law 829 = .ok (.iload 5, 2) := by decide +kernel
theorem dL_law_831 : decode cL_law 831 = .ok (.iconst 1, 1) := by decide +kernel
theorem dL_law_832 : decode cL_law 832 = .ok (.iadd, 1) := by decide +kernel
theorem dL_law_833 : decode cL_law 833 = .ok (.iaload, 1) := by decide +kernel
theorem dL_law_834 : decode cL_law 834 = .ok (.i2c, 1) := by decide +kernel
theorem dL_law_835 : decode cL_law 835 = .ok (.aload_n 0, 1) := by decide +kernel
theorem dL_law_836 : decode cL_law 836 = .ok (.iload 5, 2) := by decide +kernel
theorem dL_law_838 : decode cL_law 838 = .ok (.iconst 2, 1) := by decide +kernel
theorem dL_law_839 : decode cL_law 839 = .ok (.iadd, 1) := by decide +kernel
theorem dL_law_840 : decode cL_law 840 = .ok (.iaload, 1) := by decide +kernel
theorem dL_law_841 : decode cL_law 841 = .ok (.aload_n 3, 1) := by decide +kernel
theorem dL_law_842 : decode cL_law 842 = .ok (.invokestatic 164, 3) := by decide +kernel
theorem dL_law_845 : decode cL_law 845 = .ok (.istore 6, 2) := by decide +kernel
theorem dL_law_847 : decode cL_law 847 = .ok (.aload_n 2, 1) := by decide +kernel
theorem dL_law_848 : decode cL_law 848 = .ok (.aload_n 0, 1) := by decide +kernel
theorem dL_law_849 : decode cL_law 849 = .ok (.iload 5, 2) := by decide +kernel
theorem dL_law_851 : decode cL_law 851 = .ok (.iconst 1, 1) := by decide +kernel
theorem dL_law_852 : decode cL_law 852 = .ok (.iadd, 1) := by decide +kernel
theorem dL_law_853 : decode cL_law 853 = .ok (.iaload, 1) := by decide +kernel
theorem dL_law_854 : decode cL_law 854 = .ok (.i2c, 1) := by decide +kernel
theorem dL_law_855 : decode cL_law 855 = .ok (.aload_n 0, 1) := by decide +kernel
theorem dL_law_856 : decode cL_law 856 = .ok (.iload 5, 2) := by decide +kernel
theorem dL_law_858 : decode cL_law 858 = .ok (.iconst 2, 1) := by decide +kernel
theorem dL_law_859 : decode cL_law 859 = .ok (.iadd, 1) := by decide +kernel
theorem dL_law_860 : decode cL_law 860 = .ok (.iaload, 1) := by decide +kernel
theorem dL_law_861 : decode cL_law 861 = .ok (.invokevirtual 167, 3) := by decide +kernel
theorem dL_law_864 : decode cL_law 864 = .ok (.istore 7, 2) := by decide +kernel
theorem dL_law_866 : decode cL_law 866 = .ok (.aload_n 2, 1) := by decide +kernel
theorem dL_law_867 : decode cL_law 867 = .ok (.invokevirtual 122, 3) := by decide +kernel
theorem dL_law_870 : decode cL_law 870 = .ok (.iload 6, 2) := by decide +kernel
theorem dL_law_872 : decode cL_law 872 = .ok (.if_icmp .eq 5, 3) := by decide +kernel
theorem dL_law_875 : decode cL_law 875 = .ok (.iconst 0, 1) := by decide +kernel
theorem dL_law_876 : decode cL_law 876 = .ok (.ireturn, 1) := by decide +kernel
theorem dL_law_877 : decode cL_law 877 = .ok (.iload 6, 2) := by decide +kernel
theorem dL_law_879 : decode cL_law 879 = .ok (.ifCond .ne 15, 3) := by decide +kernel
theorem dL_law_882 : decode cL_law 882 = .ok (.aload_n 3, 1) := by decide +kernel
theorem dL_law_883 : decode cL_law 883 = .ok (.iconst 0, 1) := by decide +kernel
theorem dL_law_884 : decode cL_law 884 = .ok (.laload, 1) := by decide +kernel
theorem dL_law_885 : decode cL_law 885 = .ok (.iload 7, 2) := by decide +kernel
theorem dL_law_887 : decode cL_law 887 = .ok (.i2l, 1) := by decide +kernel
theorem dL_law_888 : decode cL_law 888 = .ok (.lcmp, 1) := by decide +kernel
theorem dL_law_889 : decode cL_law 889 = .ok (.ifCond .eq 5, 3) := by decide +kernel
theorem dL_law_892 : decode cL_law 892 = .ok (.iconst 0, 1) := by decide +kernel
theorem dL_law_893 : decode cL_law 893 = .ok (.ireturn, 1) := by decide +kernel
theorem dL_law_894 : decode cL_law 894 = .ok (.goto 1013, 3) := by decide +kernel
theorem dL_law_897 : decode cL_law 897 = .ok (.aload_n 1, 1) := by decide +kernel
theorem dL_law_898 : decode cL_law 898 = .ok (.aload_n 3, 1) := by decide +kernel
theorem dL_law_899 : decode cL_law 899 = .ok (.invokestatic 168, 3) := by decide +kernel
theorem dL_law_902 : decode cL_law 902 = .ok (.istore 6, 2) := by decide +kernel
theorem dL_law_904 : decode cL_law 904 = .ok (.aload_n 2, 1) := by decide +kernel
theorem dL_law_905 : decode cL_law 905 = .ok (.invokevirtual 170, 3) := by decide +kernel
theorem dL_law_908 : decode cL_law 908 = .ok (.istore 7, 2) := by decide +kernel
theorem dL_law_910 : decode cL_law 910 = .ok (.aload_n 2, 1) := by decide +kernel
theorem dL_law_911 : decode cL_law 911 = .ok (.invokevirtual 122, 3) := by decide +kernel
theorem dL_law_914 : decode cL_law 914 = .ok (.iload 6, 2) := by decide +kernel
theorem dL_law_916 : decode cL_law 916 = .ok (.if_icmp .eq 5, 3) := by decide +kernel
theorem dL_law_919 : decode cL_law 919 = .ok (.iconst 0, 1) := by decide +kernel
theorem dL_law_920 : decode cL_law 920 = .ok (.ireturn, 1) := by decide +kernel
theorem dL_law_921 : decode cL_law 921 = .ok (.iload 6, 2) := by decide +kernel
theorem dL_law_923 : decode cL_law 923 = .ok (.ifCond .ne 15, 3) := by decide +kernel
theorem dL_law_926 : decode cL_law 926 = .ok (.aload_n 3, 1) := by decide +kernel
theorem dL_law_927 : decode cL_law 927 = .ok (.iconst 0, 1) := by decide +kernel
theorem dL_law_928 : decode cL_law 928 = .ok (.laload, 1) := by decide +kernel
theorem dL_law_929 : decode cL_law 929 = .ok (.iload 7, 2) := by decide +kernel
theorem dL_law_931 : decode cL_law 931 = .ok (.i2l, 1) := by decide +kernel
theorem dL_law_932 : decode cL_law 932 = .ok (.lcmp, 1) := by decide +kernel
theorem dL_law_933 : decode cL_law 933 = .ok (.ifCond .eq 5, 3) := by decide +kernel
theorem dL_law_936 : decode cL_law 936 = .ok (.iconst 0, 1) := by decide +kernel
theorem dL_law_937 : decode cL_law 937 = .ok (.ireturn, 1) := by decide +kernel
theorem dL_law_938 : decode cL_law 938 = .ok (.goto 969, 3) := by decide +kernel
theorem dL_law_941 : decode cL_law 941 = .ok (.aload_n 1, 1) := by decide +kernel
theorem dL_law_942 : decode cL_law 942 = .ok (.aload_n 3, 1) := by decide +kernel
theorem dL_law_943 : decode cL_law 943 = .ok (.invokestatic 171, 3) := by decide +kernel
theorem dL_law_946 : decode cL_law 946 = .ok (.istore 6, 2) := by decide +kernel
theorem dL_law_948 : decode cL_law 948 = .ok (.aload_n 2, 1) := by decide +kernel
theorem dL_law_949 : decode cL_law 949 = .ok (.invokevirtual 173, 3) := by decide +kernel
theorem dL_law_952 : decode cL_law 952 = .ok (.istore 7, 2) := by decide +kernel
theorem dL_law_954 : decode cL_law 954 = .ok (.aload_n 2, 1) := by decide +kernel
theorem dL_law_955 : decode cL_law 955 = .ok (.invokevirtual 122, 3) := by decide +kernel
theorem dL_law_958 : decode cL_law 958 = .ok (.iload 6, 2) := by decide +kernel
theorem dL_law_960 : decode cL_law 960 = .ok (.if_icmp .eq 5, 3) := by decide +kernel
theorem dL_law_963 : decode cL_law 963 = .ok (.iconst 0, 1) := by decide +kernel
theorem dL_law_964 : decode cL_law 964 = .ok (.ireturn, 1) := by decide +kernel
theorem dL_law_965 : decode cL_law 965 = .ok (.iload 6, 2) := by decide +kernel
theorem dL_law_967 : decode cL_law 967 = .ok (.ifCond .ne 15, 3) := by decide +kernel
theorem dL_law_970 : decode cL_law 970 = .ok (.aload_n 3, 1) := by decide +kernel
theorem dL_law_971 : decode cL_law 971 = .ok (.iconst 0, 1) := by decide +kernel
theorem dL_law_972 : decode cL_law 972 = .ok (.laload, 1) := by decide +kernel
theorem dL_law_973 : decode cL_law 973 = .ok (.iload 7, 2) := by decide +kernel
theorem dL_law_975 : decode cL_law 975 = .ok (.i2l, 1) := by decide +kernel
theorem dL_law_976 : decode cL_law 976 = .ok (.lcmp, 1) := by decide +kernel
theorem dL_law_977 : decode cL_law 977 = .ok (.ifCond .eq 5, 3) := by decide +kernel
theorem dL_law_980 : decode cL_law 980 = .ok (.iconst 0, 1) := by decide +kernel
theorem dL_law_981 : decode cL_law 981 = .ok (.ireturn, 1) := by decide +kernel
theorem dL_law_982 : decode cL_law 982 = .ok (.goto 925, 3) := by decide +kernel
theorem dL_law_985 : decode cL_law 985 = .ok (.aload_n 1, 1) := by decide +kernel
theorem dL_law_986 : decode cL_law 986 = .ok (.invokevirtual 174, 3) := by decide +kernel
theorem dL_law_989 : decode cL_law 989 = .ok (.aload_n 2, 1) := by decide +kernel
theorem dL_law_990 : decode cL_law 990 = .ok (.invokevirtual 178, 3) := by decide +kernel
theorem dL_law_993 : decode cL_law 993 = .ok (.if_icmp .eq 914, 3) := by decide +kernel
theorem dL_law_996 : decode cL_law 996 = .ok (.iconst 0, 1) := by decide +kernel
theorem dL_law_997 : decode cL_law 997 = .ok (.ireturn, 1) := by decide +kernel
theorem dL_law_998 : decode cL_law 998 = .ok (.aload_n 1, 1) := by decide +kernel
theorem dL_law_999 : decode cL_law 999 = .ok (.aload_n 3, 1) := by decide +kernel
theorem dL_law_1000 : decode cL_law 1000 = .ok (.invokestatic 179, 3) := by decide +kernel
theorem dL_law_1003 : decode cL_law 1003 = .ok (.istore 6, 2) := by decide +kernel
theorem dL_law_1005 : decode cL_law 1005 = .ok (.aload_n 2, 1) := by decide +kernel
theorem dL_law_1006 : decode cL_law 1006 = .ok (.invokevirtual 181, 3) := by decide +kernel
theorem dL_law_1009 : decode cL_law 1009 = .ok (.istore 7, 2) := by decide +kernel
theorem dL_law_1011 : decode cL_law 1011 = .ok (.aload_n 2, 1) := by decide +kernel
theorem dL_law_1012 : decode cL_law 1012 = .ok (.invokevirtual 122, 3) := by decide +kernel
theorem dL_law_1015 : decode cL_law 1015 = .ok (.iload 6, 2) := by decide +kernel
theorem dL_law_1017 : decode cL_law 1017 = .ok (.if_icmp .eq 5, 3) := by decide +kernel
theorem dL_law_1020 : decode cL_law 1020 = .ok (.iconst 0, 1) := by decide +kernel
theorem dL_law_1021 : decode cL_law 1021 = .ok (.ireturn, 1) := by decide +kernel
theorem dL_law_1022 : decode cL_law 1022 = .ok (.iload 6, 2) := by decide +kernel
theorem dL_law_1024 : decode cL_law 1024 = .ok (.ifCond .ne 15, 3) := by decide +kernel
theorem dL_law_1027 : decode cL_law 1027 = .ok (.aload_n 3, 1) := by decide +kernel
theorem dL_law_1028 : decode cL_law 1028 = .ok (.iconst 0, 1) := by decide +kernel
theorem dL_law_1029 : decode cL_law 1029 = .ok (.laload, 1) := by decide +kernel
theorem dL_law_1030 : decode cL_law 1030 = .ok (.iload 7, 2) := by decide +kernel
theorem dL_law_1032 : decode cL_law 1032 = .ok (.i2l, 1) := by decide +kernel
theorem dL_law_1033 : decode cL_law 1033 = .ok (.lcmp, 1) := by decide +kernel
theorem dL_law_1034 : decode cL_law 1034 = .ok (.ifCond .eq 5, 3) := by decide +kernel
theorem dL_law_1037 : decode cL_law 1037 = .ok (.iconst 0, 1) := by decide +kernel
theorem dL_law_1038 : decode cL_law 1038 = .ok (.ireturn, 1) := by decide +kernel
theorem dL_law_1039 : decode cL_law 1039 = .ok (.goto 868, 3) := by decide +kernel
theorem dL_law_1042 : decode cL_law 1042 = .ok (.aload_n 1, 1) := by decide +kernel
theorem dL_law_1043 : decode cL_law 1043 = .ok (.aload_n 0, 1) := by decide +kernel
theorem dL_law_1044 : decode cL_law 1044 = .ok (.iload 5, 2) := by decide +kernel
theorem dL_law_1046 : decode cL_law 1046 = .ok (.iconst 1, 1) := by decide +kernel
theorem dL_law_1047 : decode cL_law 1047 = .ok (.iadd, 1) := by decide +kernel
theorem dL_law_1048 : decode cL_law 1048 = .ok (.iaload, 1) := by decide +kernel
theorem dL_law_1049 : decode cL_law 1049 = .ok (.aload_n 3, 1) := by decide +kernel
theorem dL_law_1050 : decode cL_law 1050 = .ok (.invokestatic 182, 3) := by decide +kernel
theorem dL_law_1053 : decode cL_law 1053 = .ok (.istore 6, 2) := by decide +kernel
theorem dL_law_1055 : decode cL_law 1055 = .ok (.aload_n 2, 1) := by decide +kernel
theorem dL_law_1056 : decode cL_law 1056 = .ok (.aload_n 0, 1) := by decide +kernel
theorem dL_law_1057 : decode cL_law 1057 = .ok (.iload 5, 2) := by decide +kernel
theorem dL_law_1059 : decode cL_law 1059 = .ok (.iconst 1, 1) := by decide +kernel
theorem dL_law_1060 : decode cL_law 1060 = .ok (.iadd, 1) := by decide +kernel
theorem dL_law_1061 : decode cL_law 1061 = .ok (.iaload, 1) := by decide +kernel
theorem dL_law_1062 : decode cL_law 1062 = .ok (.invokevirtual 184, 3) := by decide +kernel
theorem dL_law_1065 : decode cL_law 1065 = .ok (.istore 7, 2) := by decide +kernel
theorem dL_law_1067 : decode cL_law 1067 = .ok (.aload_n 2, 1) := by decide +kernel
theorem dL_law_1068 : decode cL_law 1068 = .ok (.invokevirtual 122, 3) := by decide +kernel
theorem dL_law_1071 : decode cL_law 1071 = .ok (.iload 6, 2) := by decide +kernel
theorem dL_law_1073 : decode cL_law 1073 = .ok (.if_icmp .eq 5, 3) := by decide +kernel
theorem dL_law_1076 : decode cL_law 1076 = .ok (.iconst 0, 1) := by decide +kernel
theorem dL_law_1077 : decode cL_law 1077 = .ok (.ireturn, 1) := by decide +kernel
theorem dL_law_1078 : decode cL_law 1078 = .ok (.iload 6, 2) := by decide +kernel
theorem dL_law_1080 : decode cL_law 1080 = .ok (.ifCond .ne 15, 3) := by decide +kernel
theorem dL_law_1083 : decode cL_law 1083 = .ok (.aload_n 3, 1) := by decide +kernel
theorem dL_law_1084 : decode cL_law 1084 = .ok (.iconst 0, 1) := by decide +kernel
theorem dL_law_1085 : decode cL_law 1085 = .ok (.laload, 1) := by decide +kernel
theorem dL_law_1086 : decode cL_law 1086 = .ok (.iload 7, 2) := by decide +kernel
theorem dL_law_1088 : decode cL_law 1088 = .ok (.i2l, 1) := by decide +kernel
theorem dL_law_1089 : decode cL_law 1089 = .ok (.lcmp, 1) := by decide +kernel
theorem dL_law_1090 : decode cL_law 1090 = .ok (.ifCond .eq 5, 3) := by decide +kernel
theorem dL_law_1093 : decode cL_law 1093 = .ok (.iconst 0, 1) := by decide +kernel
theorem dL_law_1094 : decode cL_law 1094 = .ok (.ireturn, 1) := by decide +kernel
theorem dL_law_1095 : decode cL_law 1095 = .ok (.goto 812, 3) := by decide +kernel
theorem dL_law_1098 : decode cL_law 1098 = .ok (.aload_n 1, 1) := by decide +kernel
theorem dL_law_1099 : decode cL_law 1099 = .ok (.aload_n 0, 1) := by decide +kernel
theorem dL_law_1100 : decode cL_law 1100 = .ok (.iload 5, 2) := by decide +kernel
theorem dL_law_1102 : decode cL_law 1102 = .ok (.iconst 1, 1) := by decide +kernel
theorem dL_law_1103 : decode cL_law 1103 = .ok (.iadd, 1) := by decide +kernel
theorem dL_law_1104 : decode cL_law 1104 = .ok (.iaload, 1) := by decide +kernel
theorem dL_law_1105 : decode cL_law 1105 = .ok (.aload_n 3, 1) := by decide +kernel
theorem dL_law_1106 : decode cL_law 1106 = .ok (.invokestatic 185, 3) := by decide +kernel
theorem dL_law_1109 : decode cL_law 1109 = .ok (.istore 6, 2) := by decide +kernel
theorem dL_law_1111 : decode cL_law 1111 = .ok (.aload_n 2, 1) := by decide +kernel
theorem dL_law_1112 : decode cL_law 1112 = .ok (.aload_n 0, 1) := by decide +kernel
theorem dL_law_1113 : decode cL_law 1113 = .ok (.iload 5, 2) := by decide +kernel
theorem dL_law_1115 : decode cL_law 1115 = .ok (.iconst 1, 1) := by decide +kernel
theorem dL_law_1116 : decode cL_law 1116 = .ok (.iadd, 1) := by decide +kernel
theorem dL_law_1117 : decode cL_law 1117 = .ok (.iaload, 1) := by decide +kernel
theorem dL_law_1118 : decode cL_law 1118 = .ok (.invokevirtual 187, 3) := by decide +kernel
theorem dL_law_1121 : decode cL_law 1121 = .ok (.istore 7, 2) := by decide +kernel
theorem dL_law_1123 : decode cL_law 1123 = .ok (.aload_n 2, 1) := by decide +kernel
theorem dL_law_1124 : decode cL_law 1124 = .ok (.invokevirtual 122, 3) := by decide +kernel
theorem dL_law_1127 : decode cL_law 1127 = .ok (.iload 6, 2) := by decide +kernel
theorem dL_law_1129 : decode cL_law 1129 = .ok (.if_icmp .eq 5, 3) := by decide +kernel
theorem dL_law_1132 : decode cL_law 1132 = .ok (.iconst 0, 1) := by decide +kernel
theorem dL_law_1133 : decode cL_law 1133 = .ok (.ireturn, 1) := by decide +kernel
theorem dL_law_1134 : decode cL_law 1134 = .ok (.iload 6, 2) := by decide +kernel
theorem dL_law_1136 : decode cL_law 1136 = .ok (.ifCond .ne 22, 3) := by decide +kernel
theorem dL_law_1139 : decode cL_law 1139 = .ok (.aload_n 3, 1) := by decide +kernel
theorem dL_law_1140 : decode cL_law 1140 = .ok (.iconst 0, 1) := by decide +kernel
theorem dL_law_1141 : decode cL_law 1141 = .ok (.laload, 1) := by decide +kernel
theorem dL_law_1142 : decode cL_law 1142 = .ok (.iload 7, 2) := by decide +kernel
theorem dL_law_1144 : decode cL_law 1144 = .ok (.ifCond .eq 7, 3) := by decide +kernel
theorem dL_law_1147 : decode cL_law 1147 = .ok (.lconst 1, 1) := by decide +kernel
theorem dL_law_1148 : decode cL_law 1148 = .ok (.goto 4, 3) := by decide +kernel
theorem dL_law_1151 : decode cL_law 1151 = .ok (.lconst 0, 1) := by decide +kernel
theorem dL_law_1152 : decode cL_law 1152 = .ok (.lcmp, 1) := by decide +kernel
theorem dL_law_1153 : decode cL_law 1153 = .ok (.ifCond .eq 5, 3) := by decide +kernel
theorem dL_law_1156 : decode cL_law 1156 = .ok (.iconst 0, 1) := by decide +kernel
theorem dL_law_1157 : decode cL_law 1157 = .ok (.ireturn, 1) := by decide +kernel
theorem dL_law_1158 : decode cL_law 1158 = .ok (.goto 749, 3) := by decide +kernel
theorem dL_law_1161 : decode cL_law 1161 = .ok (.aload_n 1, 1) := by decide +kernel
theorem dL_law_1162 : decode cL_law 1162 = .ok (.aload_n 0, 1) := by decide +kernel
theorem dL_law_1163 : decode cL_law 1163 = .ok (.iload 5, 2) := by decide +kernel
theorem dL_law_1165 : decode cL_law 1165 = .ok (.iconst 1, 1) := by decide +kernel
theorem dL_law_1166 : decode cL_law 1166 = .ok (.iadd, 1) := by decide +kernel
theorem dL_law_1167 : decode cL_law 1167 = .ok (.iaload, 1) := by decide +kernel
theorem dL_law_1168 : decode cL_law 1168 = .ok (.aload_n 3, 1) := by decide +kernel
theorem dL_law_1169 : decode cL_law 1169 = .ok (.invokestatic 188, 3) := by decide +kernel
theorem dL_law_1172 : decode cL_law 1172 = .ok (.istore 6, 2) := by decide +kernel
theorem dL_law_1174 : decode cL_law 1174 = .ok (.aload_n 2, 1) := by decide +kernel
theorem dL_law_1175 : decode cL_law 1175 = .ok (.aload_n 0, 1) := by decide +kernel
theorem dL_law_1176 : decode cL_law 1176 = .ok (.iload 5, 2) := by decide +kernel
theorem dL_law_1178 : decode cL_law 1178 = .ok (.iconst 1, 1) := by decide +kernel
theorem dL_law_1179 : decode cL_law 1179 = .ok (.iadd, 1) := by decide +kernel
theorem dL_law_1180 : decode cL_law 1180 = .ok (.iaload, 1) := by decide +kernel
theorem dL_law_1181 : decode cL_law 1181 = .ok (.invokevirtual 190, 3) := by decide +kernel
theorem dL_law_1184 : decode cL_law 1184 = .ok (.istore 7, 2) := by decide +kernel
theorem dL_law_1186 : decode cL_law 1186 = .ok (.aload_n 2, 1) := by decide +kernel
theorem dL_law_1187 : decode cL_law 1187 = .ok (.invokevirtual 122, 3) := by decide +kernel
theorem dL_law_1190 : decode cL_law 1190 = .ok (.iload 6, 2) := by decide +kernel
theorem dL_law_1192 : decode cL_law 1192 = .ok (.if_icmp .eq 5, 3) := by decide +kernel
theorem dL_law_1195 : decode cL_law 1195 = .ok (.iconst 0, 1) := by decide +kernel
theorem dL_law_1196 : decode cL_law 1196 = .ok (.ireturn, 1) := by decide +kernel
theorem dL_law_1197 : decode cL_law 1197 = .ok (.iload 6, 2) := by decide +kernel
theorem dL_law_1199 : decode cL_law 1199 = .ok (.ifCond .ne 15, 3) := by decide +kernel
theorem dL_law_1202 : decode cL_law 1202 = .ok (.aload_n 3, 1) := by decide +kernel
theorem dL_law_1203 : decode cL_law 1203 = .ok (.iconst 0, 1) := by decide +kernel
theorem dL_law_1204 : decode cL_law 1204 = .ok (.laload, 1) := by decide +kernel
theorem dL_law_1205 : decode cL_law 1205 = .ok (.iload 7, 2) := by decide +kernel
theorem dL_law_1207 : decode cL_law 1207 = .ok (.i2l, 1) := by decide +kernel
theorem dL_law_1208 : decode cL_law 1208 = .ok (.lcmp, 1) := by decide +kernel
theorem dL_law_1209 : decode cL_law 1209 = .ok (.ifCond .eq 5, 3) := by decide +kernel
theorem dL_law_1212 : decode cL_law 1212 = .ok (.iconst 0, 1) := by decide +kernel
theorem dL_law_1213 : decode cL_law 1213 = .ok (.ireturn, 1) := by decide +kernel
theorem dL_law_1214 : decode cL_law 1214 = .ok (.goto 693, 3) := by decide +kernel
theorem dL_law_1217 : decode cL_law 1217 = .ok (.aload_n 1, 1) := by decide +kernel
theorem dL_law_1218 : decode cL_law 1218 = .ok (.aload_n 0, 1) := by decide +kernel
theorem dL_law_1219 : decode cL_law 1219 = .ok (.iload 5, 2) := by decide +kernel
theorem dL_law_1221 : decode cL_law 1221 = .ok (.iconst 1, 1) := by decide +kernel
theorem dL_law_1222 : decode cL_law 1222 = .ok (.iadd, 1) := by decide +kernel
theorem dL_law_1223 : decode cL_law 1223 = .ok (.iaload, 1) := by decide +kernel
theorem dL_law_1224 : decode cL_law 1224 = .ok (.aload_n 0, 1) := by decide +kernel
theorem dL_law_1225 : decode cL_law 1225 = .ok (.iload 5, 2) := by decide +kernel
theorem dL_law_1227 : decode cL_law 1227 = .ok (.iconst 2, 1) := by decide +kernel
theorem dL_law_1228 : decode cL_law 1228 = .ok (.iadd, 1) := by decide +kernel
theorem dL_law_1229 : decode cL_law 1229 = .ok (.iaload, 1) := by decide +kernel
theorem dL_law_1230 : decode cL_law 1230 = .ok (.aload_n 3, 1) := by decide +kernel
theorem dL_law_1231 : decode cL_law 1231 = .ok (.invokestatic 191, 3) := by decide +kernel
theorem dL_law_1234 : decode cL_law 1234 = .ok (.istore 6, 2) := by decide +kernel
theorem dL_law_1236 : decode cL_law 1236 = .ok (.aload_n 2, 1) := by decide +kernel
theorem dL_law_1237 : decode cL_law 1237 = .ok (.aload_n 0, 1) := by decide +kernel
theorem dL_law_1238 : decode cL_law 1238 = .ok (.iload 5, 2) := by decide +kernel
theorem dL_law_1240 : decode cL_law 1240 = .ok (.iconst 1, 1) := by decide +kernel
theorem dL_law_1241 : decode cL_law 1241 = .ok (.iadd, 1) := by decide +kernel
theorem dL_law_1242 : decode cL_law 1242 = .ok (.iaload, 1) := by decide +kernel
theorem dL_law_1243 : decode cL_law 1243 = .ok (.aload_n 0, 1) := by decide +kernel
theorem dL_law_1244 : decode cL_law 1244 = .ok (.iload 5, 2) := by decide +kernel
theorem dL_law_1246 : decode cL_law 1246 = .ok (.iconst 2, 1) := by decide +kernel
theorem dL_law_1247 : decode cL_law 1247 = .ok (.iadd, 1) := by decide +kernel
theorem dL_law_1248 : decode cL_law 1248 = .ok (.iaload, 1) := by decide +kernel
theorem dL_law_1249 : decode cL_law 1249 = .ok (.invokevirtual 193, 3) := by decide +kernel
theorem dL_law_1252 : decode cL_law 1252 = .ok (.istore 7, 2) := by decide +kernel
theorem dL_law_1254 : decode cL_law 1254 = .ok (.aload_n 2, 1) := by decide +kernel
theorem dL_law_1255 : decode cL_law 1255 = .ok (.invokevirtual 122, 3) := by decide +kernel
theorem dL_law_1258 : decode cL_law 1258 = .ok (.iload 6, 2) := by decide +kernel
theorem dL_law_1260 : decode cL_law 1260 = .ok (.if_icmp .eq 5, 3) := by decide +kernel
theorem dL_law_1263 : decode cL_law 1263 = .ok (.iconst 0, 1) := by decide +kernel
theorem dL_law_1264 : decode cL_law 1264 = .ok (.ireturn, 1) := by decide +kernel
theorem dL_law_1265 : decode cL_law 1265 = .ok (.iload 6, 2) := by decide +kernel
theorem dL_law_1267 : decode cL_law 1267 = .ok (.ifCond .ne 15, 3) := by decide +kernel
theorem dL_law_1270 : decode cL_law 1270 = .ok (.aload_n 3, 1) := by decide +kernel
theorem dL_law_1271 : decode cL_law 1271 = .ok (.iconst 0, 1) := by decide +kernel
theorem dL_law_1272 : decode cL_law 1272 = .ok (.laload, 1) := by decide +kernel
theorem dL_law_1273 : decode cL_law 1273 = .ok (.iload 7, 2) := by decide +kernel
theorem dL_law_1275 : decode cL_law 1275 = .ok (.i2l, 1) := by decide +kernel
theorem dL_law_1276 : decode cL_law 1276 = .ok (.lcmp, 1) := by decide +kernel
theorem dL_law_1277 : decode cL_law 1277 = .ok (.ifCond .eq 5, 3) := by decide +kernel
theorem dL_law_1280 : decode cL_law 1280 = .ok (.iconst 0, 1) := by decide +kernel
theorem dL_law_1281 : decode cL_law 1281 = .ok (.ireturn, 1) := by decide +kernel
theorem dL_law_1282 : decode cL_law 1282 = .ok (.goto 625, 3) := by decide +kernel
theorem dL_law_1285 : decode cL_law 1285 = .ok (.aload_n 1, 1) := by decide +kernel
theorem dL_law_1286 : decode cL_law 1286 = .ok (.aload_n 0, 1) := by decide +kernel
theorem dL_law_1287 : decode cL_law 1287 = .ok (.iload 5, 2) := by decide +kernel
theorem dL_law_1289 : decode cL_law 1289 = .ok (.iconst 1, 1) := by decide +kernel
theorem dL_law_1290 : decode cL_law 1290 = .ok (.iadd, 1) := by decide +kernel
theorem dL_law_1291 : decode cL_law 1291 = .ok (.iaload, 1) := by decide +kernel
theorem dL_law_1292 : decode cL_law 1292 = .ok (.aload_n 0, 1) := by decide +kernel
theorem dL_law_1293 : decode cL_law 1293 = .ok (.iload 5, 2) := by decide +kernel
theorem dL_law_1295 : decode cL_law 1295 = .ok (.iconst 2, 1) := by decide +kernel
theorem dL_law_1296 : decode cL_law 1296 = .ok (.iadd, 1) := by decide +kernel
theorem dL_law_1297 : decode cL_law 1297 = .ok (.iaload, 1) := by decide +kernel
theorem dL_law_1298 : decode cL_law 1298 = .ok (.aload_n 3, 1) := by decide +kernel
theorem dL_law_1299 : decode cL_law 1299 = .ok (.invokestatic 194, 3) := by decide +kernel
theorem dL_law_1302 : decode cL_law 1302 = .ok (.istore 6, 2) := by decide +kernel
theorem dL_law_1304 : decode cL_law 1304 = .ok (.aload_n 2, 1) := by decide +kernel
theorem dL_law_1305 : decode cL_law 1305 = .ok (.aload_n 0, 1) := by decide +kernel
theorem dL_law_1306 : decode cL_law 1306 = .ok (.iload 5, 2) := by decide +kernel
theorem dL_law_1308 : decode cL_law 1308 = .ok (.iconst 1, 1) := by decide +kernel
theorem dL_law_1309 : decode cL_law 1309 = .ok (.iadd, 1) := by decide +kernel
theorem dL_law_1310 : decode cL_law 1310 = .ok (.iaload, 1) := by decide +kernel
theorem dL_law_1311 : decode cL_law 1311 = .ok (.aload_n 0, 1) := by decide +kernel
theorem dL_law_1312 : decode cL_law 1312 = .ok (.iload 5, 2) := by decide +kernel
theorem dL_law_1314 : decode cL_law 1314 = .ok (.iconst 2, 1) := by decide +kernel
theorem dL_law_1315 : decode cL_law 1315 = .ok (.iadd, 1) := by decide +kernel
theorem dL_law_1316 : decode cL_law 1316 = .ok (.iaload, 1) := by decide +kernel
theorem dL_law_1317 : decode cL_law 1317 = .ok (.invokevirtual 196, 3) := by decide +kernel
theorem dL_law_1320 : decode cL_law 1320 = .ok (.istore 7, 2) := by decide +kernel
theorem dL_law_1322 : decode cL_law 1322 = .ok (.aload_n 2, 1) := by decide +kernel
theorem dL_law_1323 : decode cL_law 1323 = .ok (.invokevirtual 122, 3) := by decide +kernel
theorem dL_law_1326 : decode cL_law 1326 = .ok (.iload 6, 2) := by decide +kernel
theorem dL_law_1328 : decode cL_law 1328 = .ok (.if_icmp .eq 5, 3) := by decide +kernel
theorem dL_law_1331 : decode cL_law 1331 = .ok (.iconst 0, 1) := by decide +kernel
theorem dL_law_1332 : decode cL_law 1332 = .ok (.ireturn, 1) := by decide +kernel
theorem dL_law_1333 : decode cL_law 1333 = .ok (.iload 6, 2) := by decide +kernel
theorem dL_law_1335 : decode cL_law 1335 = .ok (.ifCond .ne 15, 3) := by decide +kernel
theorem dL_law_1338 : decode cL_law 1338 = .ok (.aload_n 3, 1) := by decide +kernel
theorem dL_law_1339 : decode cL_law 1339 = .ok (.iconst 0, 1) := by decide +kernel
theorem dL_law_1340 : decode cL_law 1340 = .ok (.laload, 1) := by decide +kernel
theorem dL_law_1341 : decode cL_law 1341 = .ok (.iload 7, 2) := by decide +kernel
theorem dL_law_1343 : decode cL_law 1343 = .ok (.i2l, 1) := by decide +kernel
theorem dL_law_1344 : decode cL_law 1344 = .ok (.lcmp, 1) := by decide +kernel
theorem dL_law_1345 : decode cL_law 1345 = .ok (.ifCond .eq 5, 3) := by decide +kernel
theorem dL_law_1348 : decode cL_law 1348 = .ok (.iconst 0, 1) := by decide +kernel
theorem dL_law_1349 : decode cL_law 1349 = .ok (.ireturn, 1) := by decide +kernel
theorem dL_law_1350 : decode cL_law 1350 = .ok (.goto 557, 3) := by decide +kernel
theorem dL_law_1353 : decode cL_law 1353 = .ok (.aload_n 1, 1) := by decide +kernel
theorem dL_law_1354 : decode cL_law 1354 = .ok (.aload_n 0, 1) := by decide +kernel
theorem dL_law_1355 : decode cL_law 1355 = .ok (.iload 5, 2) := by decide +kernel
theorem dL_law_1357 : decode cL_law 1357 = .ok (.iconst 1, 1) := by decide +kernel
theorem dL_law_1358 : decode cL_law 1358 = .ok (.iadd, 1) := by decide +kernel
theorem dL_law_1359 : decode cL_law 1359 = .ok (.iaload, 1) := by decide +kernel
theorem dL_law_1360 : decode cL_law 1360 = .ok (.aload_n 3, 1) := by decide +kernel
theorem dL_law_1361 : decode cL_law 1361 = .ok (.invokestatic 197, 3) := by decide +kernel
theorem dL_law_1364 : decode cL_law 1364 = .ok (.istore 6, 2) := by decide +kernel
theorem dL_law_1366 : decode cL_law 1366 = .ok (.aload_n 2, 1) := by decide +kernel
theorem dL_law_1367 : decode cL_law 1367 = .ok (.aload_n 0, 1) := by decide +kernel
theorem dL_law_1368 : decode cL_law 1368 = .ok (.iload 5, 2) := by decide +kernel
theorem dL_law_1370 : decode cL_law 1370 = .ok (.iconst 1, 1) := by decide +kernel
theorem dL_law_1371 : decode cL_law 1371 = .ok (.iadd, 1) := by decide +kernel
theorem dL_law_1372 : decode cL_law 1372 = .ok (.iaload, 1) := by decide +kernel
theorem dL_law_1373 : decode cL_law 1373 = .ok (.invokevirtual 199, 3) := by decide +kernel
theorem dL_law_1376 : decode cL_law 1376 = .ok (.istore 7, 2) := by decide +kernel
theorem dL_law_1378 : decode cL_law 1378 = .ok (.aload_n 2, 1) := by decide +kernel
theorem dL_law_1379 : decode cL_law 1379 = .ok (.invokevirtual 122, 3) := by decide +kernel
theorem dL_law_1382 : decode cL_law 1382 = .ok (.iload 6, 2) := by decide +kernel
theorem dL_law_1384 : decode cL_law 1384 = .ok (.if_icmp .eq 5, 3) := by decide +kernel
theorem dL_law_1387 : decode cL_law 1387 = .ok (.iconst 0, 1) := by decide +kernel
theorem dL_law_1388 : decode cL_law 1388 = .ok (.ireturn, 1) := by decide +kernel
theorem dL_law_1389 : decode cL_law 1389 = .ok (.iload 6, 2) := by decide +kernel
theorem dL_law_1391 : decode cL_law 1391 = .ok (.ifCond .ne 15, 3) := by decide +kernel
theorem dL_law_1394 : decode cL_law 1394 = .ok (.aload_n 3, 1) := by decide +kernel
theorem dL_law_1395 : decode cL_law 1395 = .ok (.iconst 0, 1) := by decide +kernel
theorem dL_law_1396 : decode cL_law 1396 = .ok (.laload, 1) := by decide +kernel
theorem dL_law_1397 : decode cL_law 1397 = .ok (.iload 7, 2) := by decide +kernel
theorem dL_law_1399 : decode cL_law 1399 = .ok (.i2l, 1) := by decide +kernel
theorem dL_law_1400 : decode cL_law 1400 = .ok (.lcmp, 1) := by decide +kernel
theorem dL_law_1401 : decode cL_law 1401 = .ok (.ifCond .eq 5, 3) := by decide +kernel
theorem dL_law_1404 : decode cL_law 1404 = .ok (.iconst 0, 1) := by decide +kernel
theorem dL_law_1405 : decode cL_law 1405 = .ok (.ireturn, 1) := by decide +kernel
theorem dL_law_1406 : decode cL_law 1406 = .ok (.goto 501, 3) := by decide +kernel
theorem dL_law_1409 : decode cL_law 1409 = .ok (.aload_n 1, 1) := by decide +kernel
theorem dL_law_1410 : decode cL_law 1410 = .ok (.aload_n 3, 1) := by decide +kernel
theorem dL_law_1411 : decode cL_law 1411 = .ok (.invokestatic 200, 3) := by decide +kernel
theorem dL_law_1414 : decode cL_law 1414 = .ok (.istore 6, 2) := by decide +kernel
theorem dL_law_1416 : decode cL_law 1416 = .ok (.aload_n 2, 1) := by decide +kernel
theorem dL_law_1417 : decode cL_law 1417 = .ok (.invokevirtual 202, 3) := by decide +kernel
theorem dL_law_1420 : decode cL_law 1420 = .ok (.istore 7, 2) := by decide +kernel
theorem dL_law_1422 : decode cL_law 1422 = .ok (.aload_n 2, 1) := by decide +kernel
theorem dL_law_1423 : decode cL_law 1423 = .ok (.invokevirtual 122, 3) := by decide +kernel
theorem dL_law_1426 : decode cL_law 1426 = .ok (.iload 6, 2) := by decide +kernel
theorem dL_law_1428 : decode cL_law 1428 = .ok (.if_icmp .eq 5, 3) := by decide +kernel
theorem dL_law_1431 : decode cL_law 1431 = .ok (.iconst 0, 1) := by decide +kernel
theorem dL_law_1432 : decode cL_law 1432 = .ok (.ireturn, 1) := by decide +kernel
theorem dL_law_1433 : decode cL_law 1433 = .ok (.iload 6, 2) := by decide +kernel
theorem dL_law_1435 : decode cL_law 1435 = .ok (.ifCond .ne 15, 3) := by decide +kernel
theorem dL_law_1438 : decode cL_law 1438 = .ok (.aload_n 3, 1) := by decide +kernel
theorem dL_law_1439 : decode cL_law 1439 = .ok (.iconst 0, 1) := by decide +kernel
theorem dL_law_1440 : decode cL_law 1440 = .ok (.laload, 1) := by decide +kernel
theorem dL_law_1441 : decode cL_law 1441 = .ok (.iload 7, 2) := by decide +kernel
theorem dL_law_1443 : decode cL_law 1443 = .ok (.i2l, 1) := by decide +kernel
theorem dL_law_1444 : decode cL_law 1444 = .ok (.lcmp, 1) := by decide +kernel
theorem dL_law_1445 : decode cL_law 1445 = .ok (.ifCond .eq 5, 3) := by decide +kernel
theorem dL_law_1448 : decode cL_law 1448 = .ok (.iconst 0, 1) := by decide +kernel
theorem dL_law_1449 : decode cL_law 1449 = .ok (.ireturn, 1) := by decide +kernel
theorem dL_law_1450 : decode cL_law 1450 = .ok (.goto 457, 3) := by decide +kernel
theorem dL_law_1453 : decode cL_law 1453 = .ok (.aload_n 1, 1) := by decide +kernel
theorem dL_law_1454 : decode cL_law 1454 = .ok (.aload_n 0, 1) := by decide +kernel
theorem dL_law_1455 : decode cL_law 1455 = .ok (.iload 5, 2) := by decide +kernel
theorem dL_law_1457 : decode cL_law 1457 = .ok (.iconst 1, 1) := by decide +kernel
theorem dL_law_1458 : decode cL_law 1458 = .ok (.iadd, 1) := by decide +kernel
theorem dL_law_1459 : decode cL_law 1459 = .ok (.iaload, 1) := by decide +kernel
theorem dL_law_1460 : decode cL_law 1460 = .ok (.aload_n 3, 1) := by decide +kernel
theorem dL_law_1461 : decode cL_law 1461 = .ok (.invokestatic 203, 3) := by decide +kernel
theorem dL_law_1464 : decode cL_law 1464 = .ok (.istore 6, 2) := by decide +kernel
theorem dL_law_1466 : decode cL_law 1466 = .ok (.aload_n 2, 1) := by decide +kernel
theorem dL_law_1467 : decode cL_law 1467 = .ok (.aload_n 0, 1) := by decide +kernel
theorem dL_law_1468 : decode cL_law 1468 = .ok (.iload 5, 2) := by decide +kernel
theorem dL_law_1470 : decode cL_law 1470 = .ok (.iconst 1, 1) := by decide +kernel
theorem dL_law_1471 : decode cL_law 1471 = .ok (.iadd, 1) := by decide +kernel
theorem dL_law_1472 : decode cL_law 1472 = .ok (.iaload, 1) := by decide +kernel
theorem dL_law_1473 : decode cL_law 1473 = .ok (.invokevirtual 205, 3) := by decide +kernel
theorem dL_law_1476 : decode cL_law 1476 = .ok (.istore 7, 2) := by decide +kernel
theorem dL_law_1478 : decode cL_law 1478 = .ok (.aload_n 2, 1) := by decide +kernel
theorem dL_law_1479 : decode cL_law 1479 = .ok (.invokevirtual 122, 3) := by decide +kernel
theorem dL_law_1482 : decode cL_law 1482 = .ok (.iload 6, 2) := by decide +kernel
theorem dL_law_1484 : decode cL_law 1484 = .ok (.if_icmp .eq 5, 3) := by decide +kernel
theorem dL_law_1487 : decode cL_law 1487 = .ok (.iconst 0, 1) := by decide +kernel
theorem dL_law_1488 : decode cL_law 1488 = .ok (.ireturn, 1) := by decide +kernel
theorem dL_law_1489 : decode cL_law 1489 = .ok (.iload 6, 2) := by decide +kernel
theorem dL_law_1491 : decode cL_law 1491 = .ok (.ifCond .ne 15, 3) := by decide +kernel
theorem dL_law_1494 : decode cL_law 1494 = .ok (.aload_n 3, 1) := by decide +kernel
theorem dL_law_1495 : decode cL_law 1495 = .ok (.iconst 0, 1) := by decide +kernel
theorem dL_law_1496 : decode cL_law 1496 = .ok (.laload, 1) := by decide +kernel
theorem dL_law_1497 : decode cL_law 1497 = .ok (.iload 7, 2) := by decide +kernel
theorem dL_law_1499 : decode cL_law 1499 = .ok (.i2l, 1) := by decide +kernel
theorem dL_law_1500 : decode cL_law 1500 = .ok (.lcmp, 1) := by decide +kernel
theorem dL_law_1501 : decode cL_law 1501 = .ok (.ifCond .eq 5, 3) := by decide +kernel
theorem dL_law_1504 : decode cL_law 1504 = .ok (.iconst 0, 1) := by decide +kernel
theorem dL_law_1505 : decode cL_law 1505 = .ok (.ireturn, 1) := by decide +kernel
theorem dL_law_1506 : decode cL_law 1506 = .ok (.goto 401, 3) := by decide +kernel
theorem dL_law_1509 : decode cL_law 1509 = .ok (.aload_n 1, 1) := by decide +kernel
theorem dL_law_1510 : decode cL_law 1510 = .ok (.aload_n 0, 1) := by decide +kernel
theorem dL_law_1511 : decode cL_law 1511 = .ok (.iload 5, 2) := by decide +kernel
theorem dL_law_1513 : decode cL_law 1513 = .ok (.iconst 1, 1) := by decide +kernel
theorem dL_law_1514 : decode cL_law 1514 = .ok (.iadd, 1) := by decide +kernel
theorem dL_law_1515 : decode cL_law 1515 = .ok (.iaload, 1) := by decide +kernel
theorem dL_law_1516 : decode cL_law 1516 = .ok (.aload_n 0, 1) := by decide +kernel
theorem dL_law_1517 : decode cL_law 1517 = .ok (.iload 5, 2) := by decide +kernel
theorem dL_law_1519 : decode cL_law 1519 = .ok (.iconst 2, 1) := by decide +kernel
theorem dL_law_1520 : decode cL_law 1520 = .ok (.iadd, 1) := by decide +kernel
theorem dL_law_1521 : decode cL_law 1521 = .ok (.iaload, 1) := by decide +kernel
theorem dL_law_1522 : decode cL_law 1522 = .ok (.aload_n 0, 1) := by decide +kernel
theorem dL_law_1523 : decode cL_law 1523 = .ok (.iload 5, 2) := by decide +kernel
theorem dL_law_1525 : decode cL_law 1525 = .ok (.iconst 3, 1) := by decide +kernel
theorem dL_law_1526 : decode cL_law 1526 = .ok (.iadd, 1) := by decide +kernel
theorem dL_law_1527 : decode cL_law 1527 = .ok (.iaload, 1) := by decide +kernel
theorem dL_law_1528 : decode cL_law 1528 = .ok (.aload_n 3, 1) := by decide +kernel
theorem dL_law_1529 : decode cL_law 1529 = .ok (.invokestatic 206, 3) := by decide +kernel
theorem dL_law_1532 : decode cL_law 1532 = .ok (.istore 6, 2) := by decide +kernel
theorem dL_law_1534 : decode cL_law 1534 = .ok (.aload_n 2, 1) := by decide +kernel
theorem dL_law_1535 : decode cL_law 1535 = .ok (.aload_n 0, 1) := by decide +kernel
theorem dL_law_1536 : decode cL_law 1536 = .ok (.iload 5, 2) := by decide +kernel
theorem dL_law_1538 : decode cL_law 1538 = .ok (.iconst 1, 1) := by decide +kernel
theorem dL_law_1539 : decode cL_law 1539 = .ok (.iadd, 1) := by decide +kernel
theorem dL_law_1540 : decode cL_law 1540 = .ok (.iaload, 1) := by decide +kernel
theorem dL_law_1541 : decode cL_law 1541 = .ok (.aload_n 0, 1) := by decide +kernel
theorem dL_law_1542 : decode cL_law 1542 = .ok (.iload 5, 2) := by decide +kernel
theorem dL_law_1544 : decode cL_law 1544 = .ok (.iconst 2, 1) := by decide +kernel
theorem dL_law_1545 : decode cL_law 1545 = .ok (.iadd, 1) := by decide +kernel
theorem dL_law_1546 : decode cL_law 1546 = .ok (.iaload, 1) := by decide +kernel
theorem dL_law_1547 : decode cL_law 1547 = .ok (.aload_n 0, 1) := by decide +kernel
theorem dL_law_1548 : decode cL_law 1548 = .ok (.iload 5, 2) := by decide +kernel
theorem dL_law_1550 : decode cL_law 1550 = .ok (.iconst 3, 1) := by decide +kernel
theorem dL_law_1551 : decode cL_law 1551 = .ok (.iadd, 1) := by decide +kernel
theorem dL_law_1552 : decode cL_law 1552 = .ok (.iaload, 1) := by decide +kernel
theorem dL_law_1553 : decode cL_law 1553 = .ok (.invokevirtual 208, 3) := by decide +kernel
theorem dL_law_1556 : decode cL_law 1556 = .ok (.istore 7, 2) := by decide +kernel
theorem dL_law_1558 : decode cL_law 1558 = .ok (.aload_n 2, 1) := by decide +kernel
theorem dL_law_1559 : decode cL_law 1559 = .ok (.invokevirtual 122, 3) := by decide +kernel
theorem dL_law_1562 : decode cL_law 1562 = .ok (.iload 6, 2) := by decide +kernel
theorem dL_law_1564 : decode cL_law 1564 = .ok (.if_icmp .eq 5, 3) := by decide +kernel
theorem dL_law_1567 : decode cL_law 1567 = .ok (.iconst 0, 1) := by decide +kernel
theorem dL_law_1568 : decode cL_law 1568 = .ok (.ireturn, 1) := by decide +kernel
theorem dL_law_1569 : decode cL_law 1569 = .ok (.iload 6, 2) := by decide +kernel
theorem dL_law_1571 : decode cL_law 1571 = .ok (.ifCond .ne 15, 3) := by decide +kernel
theorem dL_law_1574 : decode cL_law 1574 = .ok (.aload_n 3, 1) := by decide +kernel
theorem dL_law_1575 : decode cL_law 1575 = .ok (.iconst 0, 1) := by decide +kernel
theorem dL_law_1576 : decode cL_law 1576 = .ok (.laload, 1) := by decide +kernel
theorem dL_law_1577 : decode cL_law 1577 = .ok (.iload 7, 2) := by decide +kernel
theorem dL_law_1579 : decode cL_law 1579 = .ok (.i2l, 1) := by decide +kernel
theorem dL_law_1580 : decode cL_law 1580 = .ok (.lcmp, 1) := by decide +kernel
theorem dL_law_1581 : decode cL_law 1581 = .ok (.ifCond .eq 5, 3) := by decide +kernel
theorem dL_law_1584 : decode cL_law 1584 = .ok (.iconst 0, 1) := by decide +kernel
theorem dL_law_1585 : decode cL_law 1585 = .ok (.ireturn, 1) := by decide +kernel
theorem dL_law_1586 : decode cL_law 1586 = .ok (.goto 321, 3) := by decide +kernel
theorem dL_law_1589 : decode cL_law 1589 = .ok (.aload_n 1, 1) := by decide +kernel
theorem dL_law_1590 : decode cL_law 1590 = .ok (.aload_n 0, 1) := by decide +kernel
theorem dL_law_1591 : decode cL_law 1591 = .ok (.iload 5, 2) := by decide +kernel
theorem dL_law_1593 : decode cL_law 1593 = .ok (.iconst 1, 1) := by decide +kernel
theorem dL_law_1594 : decode cL_law 1594 = .ok (.iadd, 1) := by decide +kernel
theorem dL_law_1595 : decode cL_law 1595 = .ok (.iaload, 1) := by decide +kernel
theorem dL_law_1596 : decode cL_law 1596 = .ok (.aload_n 0, 1) := by decide +kernel
theorem dL_law_1597 : decode cL_law 1597 = .ok (.iload 5, 2) := by decide +kernel
theorem dL_law_1599 : decode cL_law 1599 = .ok (.iconst 2, 1) := by decide +kernel
theorem dL_law_1600 : decode cL_law 1600 = .ok (.iadd, 1) := by decide +kernel
theorem dL_law_1601 : decode cL_law 1601 = .ok (.iaload, 1) := by decide +kernel
theorem dL_law_1602 : decode cL_law 1602 = .ok (.aload_n 3, 1) := by decide +kernel
theorem dL_law_1603 : decode cL_law 1603 = .ok (.invokestatic 209, 3) := by decide +kernel
theorem dL_law_1606 : decode cL_law 1606 = .ok (.istore 6, 2) := by decide +kernel
theorem dL_law_1608 : decode cL_law 1608 = .ok (.aload_n 2, 1) := by decide +kernel
theorem dL_law_1609 : decode cL_law 1609 = .ok (.aload_n 0, 1) := by decide +kernel
theorem dL_law_1610 : decode cL_law 1610 = .ok (.iload 5, 2) := by decide +kernel
theorem dL_law_1612 : decode cL_law 1612 = .ok (.iconst 1, 1) := by decide +kernel
theorem dL_law_1613 : decode cL_law 1613 = .ok (.iadd, 1) := by decide +kernel
theorem dL_law_1614 : decode cL_law 1614 = .ok (.iaload, 1) := by decide +kernel
theorem dL_law_1615 : decode cL_law 1615 = .ok (.aload_n 0, 1) := by decide +kernel
theorem dL_law_1616 : decode cL_law 1616 = .ok (.iload 5, 2) := by decide +kernel
theorem dL_law_1618 : decode cL_law 1618 = .ok (.iconst 2, 1) := by decide +kernel
theorem dL_law_1619 : decode cL_law 1619 = .ok (.iadd, 1) := by decide +kernel
theorem dL_law_1620 : decode cL_law 1620 = .ok (.iaload, 1) := by decide +kernel
theorem dL_law_1621 : decode cL_law 1621 = .ok (.invokevirtual 211, 3) := by decide +kernel
theorem dL_law_1624 : decode cL_law 1624 = .ok (.istore 7, 2) := by decide +kernel
theorem dL_law_1626 : decode cL_law 1626 = .ok (.aload_n 2, 1) := by decide +kernel
theorem dL_law_1627 : decode cL_law 1627 = .ok (.invokevirtual 122, 3) := by decide +kernel
theorem dL_law_1630 : decode cL_law 1630 = .ok (.iload 6, 2) := by decide +kernel
theorem dL_law_1632 : decode cL_law 1632 = .ok (.if_icmp .eq 5, 3) := by decide +kernel
theorem dL_law_1635 : decode cL_law 1635 = .ok (.iconst 0, 1) := by decide +kernel
theorem dL_law_1636 : decode cL_law 1636 = .ok (.ireturn, 1) := by decide +kernel
theorem dL_law_1637 : decode cL_law 1637 = .ok (.iload 6, 2) := by decide +kernel
theorem dL_law_1639 : decode cL_law 1639 = .ok (.ifCond .ne 15, 3) := by decide +kernel
theorem dL_law_1642 : decode cL_law 1642 = .ok (.aload_n 3, 1) := by decide +kernel
theorem dL_law_1643 : decode cL_law 1643 = .ok (.iconst 0, 1) := by decide +kernel
theorem dL_law_1644 : decode cL_law 1644 = .ok (.laload, 1) := by decide +kernel
theorem dL_law_1645 : decode cL_law 1645 = .ok (.iload 7, 2) := by decide +kernel
theorem dL_law_1647 : decode cL_law 1647 = .ok (.i2l, 1) := by decide +kernel
theorem dL_law_1648 : decode cL_law 1648 = .ok (.lcmp, 1) := by decide +kernel
theorem dL_law_1649 : decode cL_law 1649 = .ok (.ifCond .eq 5, 3) := by decide +kernel
theorem dL_law_1652 : decode cL_law 1652 = .ok (.iconst 0, 1) := by decide +kernel
theorem dL_law_1653 : decode cL_law 1653 = .ok (.ireturn, 1) := by decide +kernel
theorem dL_law_1654 : decode cL_law 1654 = .ok (.goto 253, 3) := by decide +kernel
theorem dL_law_1657 : decode cL_law 1657 = .ok (.aload_n 1, 1) := by decide +kernel
theorem dL_law_1658 : decode cL_law 1658 = .ok (.aload_n 0, 1) := by decide +kernel
theorem dL_law_1659 : decode cL_law 1659 = .ok (.iload 5, 2) := by decide +kernel
theorem dL_law_1661 : decode cL_law 1661 = .ok (.iconst 1, 1) := by decide +kernel
theorem dL_law_1662 : decode cL_law 1662 = .ok (.iadd, 1) := by decide +kernel
theorem dL_law_1663 : decode cL_law 1663 = .ok (.iaload, 1) := by decide +kernel
theorem dL_law_1664 : decode cL_law 1664 = .ok (.aload_n 3, 1) := by decide +kernel
theorem dL_law_1665 : decode cL_law 1665 = .ok (.invokestatic 212, 3) := by decide +kernel
theorem dL_law_1668 : decode cL_law 1668 = .ok (.istore 6, 2) := by decide +kernel
theorem dL_law_1670 : decode cL_law 1670 = .ok (.aload_n 2, 1) := by decide +kernel
theorem dL_law_1671 : decode cL_law 1671 = .ok (.aload_n 0, 1) := by decide +kernel
theorem dL_law_1672 : decode cL_law 1672 = .ok (.iload 5, 2) := by decide +kernel
theorem dL_law_1674 : decode cL_law 1674 = .ok (.iconst 1, 1) := by decide +kernel
theorem dL_law_1675 : decode cL_law 1675 = .ok (.iadd, 1) := by decide +kernel
theorem dL_law_1676 : decode cL_law 1676 = .ok (.iaload, 1) := by decide +kernel
theorem dL_law_1677 : decode cL_law 1677 = .ok (.invokevirtual 214, 3) := by decide +kernel
theorem dL_law_1680 : decode cL_law 1680 = .ok (.istore 7, 2) := by decide +kernel
theorem dL_law_1682 : decode cL_law 1682 = .ok (.aload_n 2, 1) := by decide +kernel
theorem dL_law_1683 : decode cL_law 1683 = .ok (.invokevirtual 122, 3) := by decide +kernel
theorem dL_law_1686 : decode cL_law 1686 = .ok (.iload 6, 2) := by decide +kernel
theorem dL_law_1688 : decode cL_law 1688 = .ok (.if_icmp .eq 5, 3) := by decide +kernel
theorem dL_law_1691 : decode cL_law 1691 = .ok (.iconst 0, 1) := by decide +kernel
theorem dL_law_1692 : decode cL_law 1692 = .ok (.ireturn, 1) := by decide +kernel
theorem dL_law_1693 : decode cL_law 1693 = .ok (.iload 6, 2) := by decide +kernel
theorem dL_law_1695 : decode cL_law 1695 = .ok (.ifCond .ne 22, 3) := by decide +kernel
theorem dL_law_1698 : decode cL_law 1698 = .ok (.aload_n 3, 1) := by decide +kernel
theorem dL_law_1699 : decode cL_law 1699 = .ok (.iconst 0, 1) := by decide +kernel
theorem dL_law_1700 : decode cL_law 1700 = .ok (.laload, 1) := by decide +kernel
theorem dL_law_1701 : decode cL_law 1701 = .ok (.iload 7, 2) := by decide +kernel
theorem dL_law_1703 : decode cL_law 1703 = .ok (.ifCond .eq 7, 3) := by decide +kernel
theorem dL_law_1706 : decode cL_law 1706 = .ok (.lconst 1, 1) := by decide +kernel
theorem dL_law_1707 : decode cL_law 1707 = .ok (.goto 4, 3) := by decide +kernel
theorem dL_law_1710 : decode cL_law 1710 = .ok (.lconst 0, 1) := by decide +kernel
theorem dL_law_1711 : decode cL_law 1711 = .ok (.lcmp, 1) := by decide +kernel
theorem dL_law_1712 : decode cL_law 1712 = .ok (.ifCond .eq 5, 3) := by decide +kernel
theorem dL_law_1715 : decode cL_law 1715 = .ok (.iconst 0, 1) := by decide +kernel
theorem dL_law_1716 : decode cL_law 1716 = .ok (.ireturn, 1) := by decide +kernel
theorem dL_law_1717 : decode cL_law 1717 = .ok (.goto 190, 3) := by decide +kernel
theorem dL_law_1720 : decode cL_law 1720 = .ok (.aload_n 1, 1) := by decide +kernel
theorem dL_law_1721 : decode cL_law 1721 = .ok (.aload_n 3, 1) := by decide +kernel
theorem dL_law_1722 : decode cL_law 1722 = .ok (.invokestatic 215, 3) := by decide +kernel
theorem dL_law_1725 : decode cL_law 1725 = .ok (.istore 6, 2) := by decide +kernel
theorem dL_law_1727 : decode cL_law 1727 = .ok (.aload_n 2, 1) := by decide +kernel
theorem dL_law_1728 : decode cL_law 1728 = .ok (.invokevirtual 217, 3) := by decide +kernel
theorem dL_law_1731 : decode cL_law 1731 = .ok (.lstore 7, 2) := by decide +kernel
theorem dL_law_1733 : decode cL_law 1733 = .ok (.aload_n 2, 1) := by decide +kernel
theorem dL_law_1734 : decode cL_law 1734 = .ok (.invokevirtual 122, 3) := by decide +kernel
theorem dL_law_1737 : decode cL_law 1737 = .ok (.iload 6, 2) := by decide +kernel
theorem dL_law_1739 : decode cL_law 1739 = .ok (.if_icmp .eq 5, 3) := by decide +kernel
theorem dL_law_1742 : decode cL_law 1742 = .ok (.iconst 0, 1) := by decide +kernel
theorem dL_law_1743 : decode cL_law 1743 = .ok (.ireturn, 1) := by decide +kernel
theorem dL_law_1744 : decode cL_law 1744 = .ok (.iload 6, 2) := by decide +kernel
theorem dL_law_1746 : decode cL_law 1746 = .ok (.ifCond .ne 14, 3) := by decide +kernel
theorem dL_law_1749 : decode cL_law 1749 = .ok (.aload_n 3, 1) := by decide +kernel
theorem dL_law_1750 : decode cL_law 1750 = .ok (.iconst 0, 1) := by decide +kernel
theorem dL_law_1751 : decode cL_law 1751 = .ok (.laload, 1) := by decide +kernel
theorem dL_law_1752 : decode cL_law 1752 = .ok (.lload 7, 2) := by decide +kernel
theorem dL_law_1754 : decode cL_law 1754 = .ok (.lcmp, 1) := by decide +kernel
theorem dL_law_1755 : decode cL_law 1755 = .ok (.ifCond .eq 5, 3) := by decide +kernel
theorem dL_law_1758 : decode cL_law 1758 = .ok (.iconst 0, 1) := by decide +kernel
theorem dL_law_1759 : decode cL_law 1759 = .ok (.ireturn, 1) := by decide +kernel
theorem dL_law_1760 : decode cL_law 1760 = .ok (.goto 147, 3) := by decide +kernel
theorem dL_law_1763 : decode cL_law 1763 = .ok (.aload_n 1, 1) := by decide +kernel
theorem dL_law_1764 : decode cL_law 1764 = .ok (.aload 4, 2) := by decide +kernel
theorem dL_law_1766 : decode cL_law 1766 = .ok (.invokestatic 218, 3) := by decide +kernel
theorem dL_law_1769 : decode cL_law 1769 = .ok (.istore 6, 2) := by decide +kernel
theorem dL_law_1771 : decode cL_law 1771 = .ok (.aload_n 2, 1) := by decide +kernel
theorem dL_law_1772 : decode cL_law 1772 = .ok (.invokevirtual 221, 3) := by decide +kernel
theorem dL_law_1775 : decode cL_law 1775 = .ok (.fstore 7, 2) := by decide +kernel
theorem dL_law_1777 : decode cL_law 1777 = .ok (.aload_n 2, 1) := by decide +kernel
theorem dL_law_1778 : decode cL_law 1778 = .ok (.invokevirtual 122, 3) := by decide +kernel
theorem dL_law_1781 : decode cL_law 1781 = .ok (.iload 6, 2) := by decide +kernel
theorem dL_law_1783 : decode cL_law 1783 = .ok (.if_icmp .eq 5, 3) := by decide +kernel
theorem dL_law_1786 : decode cL_law 1786 = .ok (.iconst 0, 1) := by decide +kernel
theorem dL_law_1787 : decode cL_law 1787 = .ok (.ireturn, 1) := by decide +kernel
theorem dL_law_1788 : decode cL_law 1788 = .ok (.iload 6, 2) := by decide +kernel
theorem dL_law_1790 : decode cL_law 1790 = .ok (.ifCond .ne 36, 3) := by decide +kernel
theorem dL_law_1793 : decode cL_law 1793 = .ok (.aload 4, 2) := by decide +kernel
theorem dL_law_1795 : decode cL_law 1795 = .ok (.iconst 0, 1) := by decide +kernel
theorem dL_law_1796 : decode cL_law 1796 = .ok (.daload, 1) := by decide +kernel
theorem dL_law_1797 : decode cL_law 1797 = .ok (.fload 7, 2) := by decide +kernel
theorem dL_law_1799 : decode cL_law 1799 = .ok (.f2d, 1) := by decide +kernel
theorem dL_law_1800 : decode cL_law 1800 = .ok (.dcmp .l, 1) := by decide +kernel
theorem dL_law_1801 : decode cL_law 1801 = .ok (.ifCond .eq 25, 3) := by decide +kernel
theorem dL_law_1804 : decode cL_law 1804 = .ok (.aload 4, 2) := by decide +kernel
theorem dL_law_1806 : decode cL_law 1806 = .ok (.iconst 0, 1) := by decide +kernel
theorem dL_law_1807 : decode cL_law 1807 = .ok (.daload, 1) := by decide +kernel
theorem dL_law_1808 : decode cL_law 1808 = .ok (.aload 4, 2) := by decide +kernel
theorem dL_law_1810 : decode cL_law 1810 = .ok (.iconst 0, 1) := by decide +kernel
theorem dL_law_1811 : decode cL_law 1811 = .ok (.daload, 1) := by decide +kernel
theorem dL_law_1812 : decode cL_law 1812 = .ok (.dcmp .l, 1) := by decide +kernel
theorem dL_law_1813 : decode cL_law 1813 = .ok (.ifCond .eq 11, 3) := by decide +kernel
theorem dL_law_1816 : decode cL_law 1816 = .ok (.fload 7, 2) := by decide +kernel
theorem dL_law_1818 : decode cL_law 1818 = .ok (.fload 7, 2) := by decide +kernel
theorem dL_law_1820 : decode cL_law 1820 = .ok (.fcmp .l, 1) := by decide +kernel
theorem dL_law_1821 : decode cL_law 1821 = .ok (.ifCond .ne 5, 3) := by decide +kernel
theorem dL_law_1824 : decode cL_law 1824 = .ok (.iconst 0, 1) := by decide +kernel
theorem dL_law_1825 : decode cL_law 1825 = .ok (.ireturn, 1) := by decide +kernel
theorem dL_law_1826 : decode cL_law 1826 = .ok (.goto 81, 3) := by decide +kernel
theorem dL_law_1829 : decode cL_law 1829 = .ok (.aload_n 1, 1) := by decide +kernel
theorem dL_law_1830 : decode cL_law 1830 = .ok (.aload 4, 2) := by decide +kernel
theorem dL_law_1832 : decode cL_law 1832 = .ok (.invokestatic 222, 3) := by decide +kernel
theorem dL_law_1835 : decode cL_law 1835 = .ok (.istore 6, 2) := by decide +kernel
theorem dL_law_1837 : decode cL_law 1837 = .ok (.aload_n 2, 1) := by decide +kernel
theorem dL_law_1838 : decode cL_law 1838 = .ok (.invokevirtual 224, 3) := by decide +kernel
theorem dL_law_1841 : decode cL_law 1841 = .ok (.dstore 7, 2) := by decide +kernel
theorem dL_law_1843 : decode cL_law 1843 = .ok (.aload_n 2, 1) := by decide +kernel
theorem dL_law_1844 : decode cL_law 1844 = .ok (.invokevirtual 122, 3) := by decide +kernel
theorem dL_law_1847 : decode cL_law 1847 = .ok (.iload 6, 2) := by decide +kernel
theorem dL_law_1849 : decode cL_law 1849 = .ok (.if_icmp .eq 5, 3) := by decide +kernel
theorem dL_law_1852 : decode cL_law 1852 = .ok (.iconst 0, 1) := by decide +kernel
theorem dL_law_1853 : decode cL_law 1853 = .ok (.ireturn, 1) := by decide +kernel
theorem dL_law_1854 : decode cL_law 1854 = .ok (.iload 6, 2) := by decide +kernel
theorem dL_law_1856 : decode cL_law 1856 = .ok (.ifCond .ne 35, 3) := by decide +kernel
theorem dL_law_1859 : decode cL_law 1859 = .ok (.aload 4, 2) := by decide +kernel
theorem dL_law_1861 : decode cL_law 1861 = .ok (.iconst 0, 1) := by decide +kernel
theorem dL_law_1862 : decode cL_law 1862 = .ok (.daload, 1) := by decide +kernel
theorem dL_law_1863 : decode cL_law 1863 = .ok (.dload 7, 2) := by decide +kernel
theorem dL_law_1865 : decode cL_law 1865 = .ok (.dcmp .l, 1) := by decide +kernel
theorem dL_law_1866 : decode cL_law 1866 = .ok (.ifCond .eq 25, 3) := by decide +kernel
theorem dL_law_1869 : decode cL_law 1869 = .ok (.aload 4, 2) := by decide +kernel
theorem dL_law_1871 : decode cL_law 1871 = .ok (.iconst 0, 1) := by decide +kernel
theorem dL_law_1872 : decode cL_law 1872 = .ok (.daload, 1) := by decide +kernel
theorem dL_law_1873 : decode cL_law 1873 = .ok (.aload 4, 2) := by decide +kernel
theorem dL_law_1875 : decode cL_law 1875 = .ok (.iconst 0, 1) := by decide +kernel
theorem dL_law_1876 : decode cL_law 1876 = .ok (.daload, 1) := by decide +kernel
theorem dL_law_1877 : decode cL_law 1877 = .ok (.dcmp .l, 1) := by decide +kernel
theorem dL_law_1878 : decode cL_law 1878 = .ok (.ifCond .eq 11, 3) := by decide +kernel
theorem dL_law_1881 : decode cL_law 1881 = .ok (.dload 7, 2) := by decide +kernel
theorem dL_law_1883 : decode cL_law 1883 = .ok (.dload 7, 2) := by decide +kernel
theorem dL_law_1885 : decode cL_law 1885 = .ok (.dcmp .l, 1) := by decide +kernel
theorem dL_law_1886 : decode cL_law 1886 = .ok (.ifCond .ne 5, 3) := by decide +kernel
theorem dL_law_1889 : decode cL_law 1889 = .ok (.iconst 0, 1) := by decide +kernel
theorem dL_law_1890 : decode cL_law 1890 = .ok (.ireturn, 1) := by decide +kernel
theorem dL_law_1891 : decode cL_law 1891 = .ok (.goto 16, 3) := by decide +kernel
theorem dL_law_1894 : decode cL_law 1894 = .ok (.aload_n 1, 1) := by decide +kernel
theorem dL_law_1895 : decode cL_law 1895 = .ok (.invokevirtual 225, 3) := by decide +kernel
theorem dL_law_1898 : decode cL_law 1898 = .ok (.aload_n 2, 1) := by decide +kernel
theorem dL_law_1899 : decode cL_law 1899 = .ok (.invokevirtual 228, 3) := by decide +kernel
theorem dL_law_1902 : decode cL_law 1902 = .ok (.if_icmp .eq 5, 3) := by decide +kernel
theorem dL_law_1905 : decode cL_law 1905 = .ok (.iconst 0, 1) := by decide +kernel
theorem dL_law_1906 : decode cL_law 1906 = .ok (.ireturn, 1) := by decide +kernel
theorem dL_law_1907 : decode cL_law 1907 = .ok (.iinc 5 4, 3) := by decide +kernel
theorem dL_law_1910 : decode cL_law 1910 = .ok (.goto (-1882), 3) := by decide +kernel
theorem dL_law_1913 : decode cL_law 1913 = .ok (.iconst 1, 1) := by decide +kernel
theorem dL_law_1914 : decode cL_law 1914 = .ok (.ireturn, 1) := by decide +kernel

