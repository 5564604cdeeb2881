theorem dX3_within_0 : decode cX3_within 0 = .ok (.iconst 0, 1) := by decide +kernel
theorem dX3_within_1 : decode cX3_within 1 = .ok (.iload_n 0, 1) := by decide +kernel
theorem dX3_within_2 : decode cX3_within 2 = .ok (.bipush 14, 2) := by decide +kernel
theorem dX3_within_4 : decode cX3_within 4 = .ok (.ishl, 1) := by decide +kernel
theorem dX3_within_5 : decode cX3_within 5 = .ok (.ior, 1) := by decide +kernel
theorem dX3_within_6 : decode cX3_within 6 = .ok (.iload_n 1, 1) := by decide +kernel
theorem dX3_within_7 : decode cX3_within 7 = .ok (.bipush 10, 2) := by decide +kernel
theorem dX3_within_9 : decode cX3_within 9 = .ok (.ishl, 1) := by decide +kernel
theorem dX3_within_10 : decode cX3_within 10 = .ok (.ior, 1) := by decide +kernel
theorem dX3_within_11 : decode cX3_within 11 = .ok (.iload_n 2, 1) := by decide +kernel
theorem dX3_within_12 : decode cX3_within 12 = .ok (.sipush 512, 3) := by decide +kernel
theorem dX3_within_15 : decode cX3_within 15 = .ok (.iadd, 1) := by decide +kernel
theorem dX3_within_16 : decode cX3_within 16 = .ok (.ior, 1) := by decide +kernel
theorem dX3_within_17 : decode cX3_within 17 = .ok (.ireturn, 1) := by decide +kernel
theorem dX3_same_0 : decode cX3_same 0 = .ok (.ldc 9, 2) := by decide +kernel
theorem dX3_same_2 : decode cX3_same 2 = .ok (.iload_n 0, 1) := by decide +kernel
theorem dX3_same_3 : decode cX3_same 3 = .ok (.bipush 14, 2) := by decide +kernel
theorem dX3_same_5 : decode cX3_same 5 = .ok (.ishl, 1) := by decide +kernel
theorem dX3_same_6 : decode cX3_same 6 = .ok (.ior, 1) := by decide +kernel
theorem dX3_same_7 : decode cX3_same 7 = .ok (.iload_n 1, 1) := by decide +kernel
theorem dX3_same_8 : decode cX3_same 8 = .ok (.bipush 10, 2) := by decide +kernel
theorem dX3_same_10 : decode cX3_same 10 = .ok (.ishl, 1) := by decide +kernel
theorem dX3_same_11 : decode cX3_same 11 = .ok (.ior, 1) := by decide +kernel
theorem dX3_same_12 : decode cX3_same 12 = .ok (.ireturn, 1) := by decide +kernel
theorem dX3_apart_0 : decode cX3_apart 0 = .ok (.ldc 10, 2) := by decide +kernel
theorem dX3_apart_2 : decode cX3_apart 2 = .ok (.iload_n 0, 1) := by decide +kernel
theorem dX3_apart_3 : decode cX3_apart 3 = .ok (.bipush 14, 2) := by decide +kernel
theorem dX3_apart_5 : decode cX3_apart 5 = .ok (.ishl, 1) := by decide +kernel
theorem dX3_apart_6 : decode cX3_apart 6 = .ok (.ior, 1) := by decide +kernel
theorem dX3_apart_7 : decode cX3_apart 7 = .ok (.iload_n 1, 1) := by decide +kernel
theorem dX3_apart_8 : decode cX3_apart 8 = .ok (.bipush 10, 2) := by decide +kernel
theorem dX3_apart_10 : decode cX3_apart 10 = .ok (.ishl, 1) := by decide +kernel
theorem dX3_apart_11 : decode cX3_apart 11 = .ok (.ior, 1) := by decide +kernel
theorem dX3_apart_12 : decode cX3_apart 12 = .ok (.ireturn, 1) := by decide +kernel
theorem dX3_contrary_0 : decode cX3_contrary 0 = .ok (.iload_n 0, 1) := by decide +kernel
theorem dX3_contrary_1 : decode cX3_contrary 1 = .ok (.invokestatic 11, 3) := by decide +kernel
theorem dX3_contrary_4 : decode cX3_contrary 4 = .ok (.istore_n 1, 1) := by decide +kernel
theorem dX3_contrary_5 : decode cX3_contrary 5 = .ok (.iload_n 1, 1) := by decide +kernel
theorem dX3_contrary_6 : decode cX3_contrary 6 = .ok (.iconst 1, 1) := by decide +kernel
theorem dX3_contrary_7 : decode cX3_contrary 7 = .ok (.if_icmp .ne 15, 3) := by decide +kernel
theorem dX3_contrary_10 : decode cX3_contrary 10 = .ok (.iload_n 0, 1) := by decide +kernel
theorem dX3_contrary_11 : decode cX3_contrary 11 = .ok (.invokestatic 15, 3) := by decide +kernel
theorem dX3_contrary_14 : decode cX3_contrary 14 = .ok (.iload_n 0, 1) := by decide +kernel
theorem dX3_contrary_15 : decode cX3_contrary 15 = .ok (.invokestatic 18, 3) := by decide +kernel
theorem dX3_contrary_18 : decode cX3_contrary 18 = .ok (.invokestatic 21, 3) := by decide +kernel
theorem dX3_contrary_21 : decode cX3_contrary 21 = .ok (.ireturn, 1) := by decide +kernel
theorem dX3_contrary_22 : decode cX3_contrary 22 = .ok (.iload_n 1, 1) := by decide +kernel
theorem dX3_contrary_23 : decode cX3_contrary 23 = .ok (.iconst 2, 1) := by decide +kernel
theorem dX3_contrary_24 : decode cX3_contrary 24 = .ok (.if_icmp .ne 15, 3) := by decide +kernel
theorem dX3_contrary_27 : decode cX3_contrary 27 = .ok (.iload_n 0, 1) := by decide +kernel
theorem dX3_contrary_28 : decode cX3_contrary 28 = .ok (.invokestatic 15, 3) := by decide +kernel
theorem dX3_contrary_31 : decode cX3_contrary 31 = .ok (.iload_n 0, 1) := by decide +kernel
theorem dX3_contrary_32 : decode cX3_contrary 32 = .ok (.invokestatic 18, 3) := by decide +kernel
theorem dX3_contrary_35 : decode cX3_contrary 35 = .ok (.invokestatic 25, 3) := by decide +kernel
theorem dX3_contrary_38 : decode cX3_contrary 38 = .ok (.ireturn, 1) := by decide +kernel
theorem dX3_contrary_39 : decode cX3_contrary 39 = .ok (.iload_n 0, 1) := by decide +kernel
theorem dX3_contrary_40 : decode cX3_contrary 40 = .ok (.invokestatic 18, 3) := by decide +kernel
theorem dX3_contrary_43 : decode cX3_contrary 43 = .ok (.iload_n 0, 1) := by decide +kernel
theorem dX3_contrary_44 : decode cX3_contrary 44 = .ok (.invokestatic 15, 3) := by decide +kernel
theorem dX3_contrary_47 : decode cX3_contrary 47 = .ok (.iload_n 0, 1) := by decide +kernel
theorem dX3_contrary_48 : decode cX3_contrary 48 = .ok (.invokestatic 28, 3) := by decide +kernel
theorem dX3_contrary_51 : decode cX3_contrary 51 = .ok (.ineg, 1) := by decide +kernel
theorem dX3_contrary_52 : decode cX3_contrary 52 = .ok (.iconst 1, 1) := by decide +kernel
theorem dX3_contrary_53 : decode cX3_contrary 53 = .ok (.isub, 1) := by decide +kernel
theorem dX3_contrary_54 : decode cX3_contrary 54 = .ok (.invokestatic 31, 3) := by decide +kernel
theorem dX3_contrary_57 : decode cX3_contrary 57 = .ok (.ireturn, 1) := by decide +kernel
theorem dX3_sort_0 : decode cX3_sort 0 = .ok (.iload_n 0, 1) := by decide +kernel
theorem dX3_sort_1 : decode cX3_sort 1 = .ok (.bipush 18, 2) := by decide +kernel
theorem dX3_sort_3 : decode cX3_sort 3 = .ok (.ishr, 1) := by decide +kernel
theorem dX3_sort_4 : decode cX3_sort 4 = .ok (.ireturn, 1) := by decide +kernel
theorem dX3_left_0 : decode cX3_left 0 = .ok (.iload_n 0, 1) := by decide +kernel
theorem dX3_left_1 : decode cX3_left 1 = .ok (.bipush 14, 2) := by decide +kernel
theorem dX3_left_3 : decode cX3_left 3 = .ok (.ishr, 1) := by decide +kernel
theorem dX3_left_4 : decode cX3_left 4 = .ok (.bipush 15, 2) := by decide +kernel
theorem dX3_left_6 : decode cX3_left 6 = .ok (.iand, 1) := by decide +kernel
theorem dX3_left_7 : decode cX3_left 7 = .ok (.ireturn, 1) := by decide +kernel
theorem dX3_right_0 : decode cX3_right 0 = .ok (.iload_n 0, 1) := by decide +kernel
theorem dX3_right_1 : decode cX3_right 1 = .ok (.bipush 10, 2) := by decide +kernel
theorem dX3_right_3 : decode cX3_right 3 = .ok (.ishr, 1) := by decide +kernel
theorem dX3_right_4 : decode cX3_right 4 = .ok (.bipush 15, 2) := by decide +kernel
theorem dX3_right_6 : decode cX3_right 6 = .ok (.iand, 1) := by decide +kernel
theorem dX3_right_7 : decode cX3_right 7 = .ok (.ireturn, 1) := by decide +kernel
theorem dX3_most_0 : decode cX3_most 0 = .ok (.iload_n 0, 1) := by decide +kernel
theorem dX3_most_1 : decode cX3_most 1 = .ok (.sipush 1023, 3) := by decide +kernel
theorem dX3_most_4 : decode cX3_most 4 = .ok (.iand, 1) := by decide +kernel
theorem dX3_most_5 : decode cX3_most 5 = .ok (.sipush 512, 3) := by decide +kernel
theorem dX3_most_8 : decode cX3_most 8 = .ok (.isub, 1) := by decide +kernel
theorem dX3_most_9 : decode cX3_most 9 = .ok (.ireturn, 1) := by decide +kernel
theorem dX3_isTrueFor_0 : decode cX3_isTrueFor 0 = .ok (.iload_n 0, 1) := by decide +kernel
theorem dX3_isTrueFor_1 : decode cX3_isTrueFor 1 = .ok (.bipush 18, 2) := by decide +kernel
theorem dX3_isTrueFor_3 : decode cX3_isTrueFor 3 = .ok (.ishr, 1) := by decide +kernel
theorem dX3_isTrueFor_4 : decode cX3_isTrueFor 4 = .ok (.istore_n 2, 1) := by decide +kernel
theorem dX3_isTrueFor_5 : decode cX3_isTrueFor 5 = .ok (.iload_n 2, 1) := by decide +kernel
theorem dX3_isTrueFor_6 : decode cX3_isTrueFor 6 = .ok (.ifCond .ne 22, 3) := by decide +kernel
theorem dX3_isTrueFor_9 : decode cX3_isTrueFor 9 = .ok (.iload_n 1, 1) := by decide +kernel
theorem dX3_isTrueFor_10 : decode cX3_isTrueFor 10 = .ok (.iload_n 0, 1) := by decide +kernel
theorem dX3_isTrueFor_11 : decode cX3_isTrueFor 11 = .ok (.sipush 1023, 3) := by decide +kernel
theorem dX3_isTrueFor_14 : decode cX3_isTrueFor 14 = .ok (.iand, 1) := by decide +kernel
theorem dX3_isTrueFor_15 : decode cX3_isTrueFor 15 = .ok (.sipush 512, 3) := by decide +kernel
theorem dX3_isTrueFor_18 : decode cX3_isTrueFor 18 = .ok (.isub, 1) := by decide +kernel
theorem dX3_isTrueFor_19 : decode cX3_isTrueFor 19 = .ok (.if_icmp .gt 7, 3) := by decide +kernel
theorem dX3_isTrueFor_22 : decode cX3_isTrueFor 22 = .ok (.iconst 1, 1) := by decide +kernel
theorem dX3_isTrueFor_23 : decode cX3_isTrueFor 23 = .ok (.goto 4, 3) := by decide +kernel
theorem dX3_isTrueFor_26 : decode cX3_isTrueFor 26 = .ok (.iconst 0, 1) := by decide +kernel
theorem dX3_isTrueFor_27 : decode cX3_isTrueFor 27 = .ok (.ireturn, 1) := by decide +kernel
theorem dX3_isTrueFor_28 : decode cX3_isTrueFor 28 = .ok (.iload_n 1, 1) := by decide +kernel
theorem dX3_isTrueFor_29 : decode cX3_isTrueFor 29 = .ok (.ifCond .ne 7, 3) := by decide +kernel
theorem dX3_isTrueFor_32 : decode cX3_isTrueFor 32 = .ok (.iconst 1, 1) := by decide +kernel
theorem dX3_isTrueFor_33 : decode cX3_isTrueFor 33 = .ok (.goto 4, 3) := by decide +kernel
theorem dX3_isTrueFor_36 : decode cX3_isTrueFor 36 = .ok (.iconst 0, 1) := by decide +kernel
theorem dX3_isTrueFor_37 : decode cX3_isTrueFor 37 = .ok (.iload_n 2, 1) := by decide +kernel
theorem dX3_isTrueFor_38 : decode cX3_isTrueFor 38 = .ok (.iconst 1, 1) := by decide +kernel
theorem dX3_isTrueFor_39 : decode cX3_isTrueFor 39 = .ok (.if_icmp .ne 7, 3) := by decide +kernel
theorem dX3_isTrueFor_42 : decode cX3_isTrueFor 42 = .ok (.iconst 1, 1) := by decide +kernel
theorem dX3_isTrueFor_43 : decode cX3_isTrueFor 43 = .ok (.goto 4, 3) := by decide +kernel
theorem dX3_isTrueFor_46 : decode cX3_isTrueFor 46 = .ok (.iconst 0, 1) := by decide +kernel
theorem dX3_isTrueFor_47 : decode cX3_isTrueFor 47 = .ok (.if_icmp .ne 7, 3) := by decide +kernel
theorem dX3_isTrueFor_50 : decode cX3_isTrueFor 50 = .ok (.iconst 1, 1) := by decide +kernel
theorem dX3_isTrueFor_51 : decode cX3_isTrueFor 51 = .ok (.goto 4, 3) := by decide +kernel
theorem dX3_isTrueFor_54 : decode cX3_isTrueFor 54 = .ok (.iconst 0, 1) := by decide +kernel
theorem dX3_isTrueFor_55 : decode cX3_isTrueFor 55 = .ok (.ireturn, 1) := by decide +kernel
theorem dX7_init_0 : decode cX7_init 0 = .ok (.aload_n 0, 1) := by decide +kernel
theorem dX7_init_1 : decode cX7_init 1 = .ok (.invokespecial 1, 3) := by decide +kernel
theorem dX7_init_4 : decode cX7_init 4 = .ok (.aload_n 0, 1) := by decide +kernel
theorem dX7_init_5 : decode cX7_init 5 = .ok (.bipush 14, 2) := by decide +kernel
theorem dX7_init_7 : decode cX7_init 7 = .ok (.newarray .char, 2) := by decide +kernel
theorem dX7_init_9 : decode cX7_init 9 = .ok (.putfield 9, 3) := by decide +kernel
theorem dX7_init_12 : decode cX7_init 12 = .ok (.aload_n 0, 1) := by decide +kernel
theorem dX7_init_13 : decode cX7_init 13 = .ok (.bipush 14, 2) := by decide +kernel
theorem dX7_init_15 : decode cX7_init 15 = .ok (.newarray .int, 2) := by decide +kernel
theorem dX7_init_17 : decode cX7_init 17 = .ok (.putfield 13, 3) := by decide +kernel
theorem dX7_init_20 : decode cX7_init 20 = .ok (.aload_n 0, 1) := by decide +kernel
theorem dX7_init_21 : decode cX7_init 21 = .ok (.bipush 14, 2) := by decide +kernel
theorem dX7_init_23 : decode cX7_init 23 = .ok (.newarray .int, 2) := by decide +kernel
theorem dX7_init_25 : decode cX7_init 25 = .ok (.putfield 17, 3) := by decide +kernel
theorem dX7_init_28 : decode cX7_init 28 = .ok (.aload_n 0, 1) := by decide +kernel
theorem dX7_init_29 : decode cX7_init 29 = .ok (.bipush 14, 2) := by decide +kernel
theorem dX7_init_31 : decode cX7_init 31 = .ok (.newarray .int, 2) := by decide +kernel
theorem dX7_init_33 : decode cX7_init 33 = .ok (.putfield 20, 3) := by decide +kernel
theorem dX7_init_36 : decode cX7_init 36 = .ok (.aload_n 0, 1) := by decide +kernel
theorem dX7_init_37 : decode cX7_init 37 = .ok (.bipush 14, 2) := by decide +kernel
theorem dX7_init_39 : decode cX7_init 39 = .ok (.newarray .int, 2) := by decide +kernel
theorem dX7_init_41 : decode cX7_init 41 = .ok (.putfield 23, 3) := by decide +kernel
theorem dX7_init_44 : decode cX7_init 44 = .ok (.return_, 1) := by decide +kernel
theorem dX7_isFull_0 : decode cX7_isFull 0 = .ok (.aload_n 0, 1) := by decide +kernel
theorem dX7_isFull_1 : decode cX7_isFull 1 = .ok (.getfield 26, 3) := by decide +kernel
theorem dX7_isFull_4 : decode cX7_isFull 4 = .ok (.bipush 14, 2) := by decide +kernel
theorem dX7_isFull_6 : decode cX7_isFull 6 = .ok (.if_icmp .lt 7, 3) := by decide +kernel
theorem dX7_isFull_9 : decode cX7_isFull 9 = .ok (.iconst 1, 1) := by decide +kernel
theorem dX7_isFull_10 : decode cX7_isFull 10 = .ok (.goto 4, 3) := by decide +kernel
theorem dX7_isFull_13 : decode cX7_isFull 13 = .ok (.iconst 0, 1) := by decide +kernel
theorem dX7_isFull_14 : decode cX7_isFull 14 = .ok (.ireturn, 1) := by decide +kernel
theorem dX7_isTerm_0 : decode cX7_isTerm 0 = .ok (.iload_n 1, 1) := by decide +kernel
theorem dX7_isTerm_1 : decode cX7_isTerm 1 = .ok (.ifCond .lt 15, 3) := by decide +kernel
theorem dX7_isTerm_4 : decode cX7_isTerm 4 = .ok (.iload_n 1, 1) := by decide +kernel
theorem dX7_isTerm_5 : decode cX7_isTerm 5 = .ok (.aload_n 0, 1) := by decide +kernel
theorem dX7_isTerm_6 : decode cX7_isTerm 6 = .ok (.getfield 26, 3) := by decide +kernel
theorem dX7_isTerm_9 : decode cX7_isTerm 9 = .ok (.if_icmp .ge 7, 3) := by decide +kernel
theorem dX7_isTerm_12 : decode cX7_isTerm 12 = .ok (.iconst 1, 1) := by decide +kernel
theorem dX7_isTerm_13 : decode cX7_isTerm 13 = .ok (.goto 4, 3) := by decide +kernel
theorem dX7_isTerm_16 : decode cX7_isTerm 16 = .ok (.iconst 0, 1) := by decide +kernel
theorem dX7_isTerm_17 : decode cX7_isTerm 17 = .ok (.ireturn, 1) := by decide +kernel
theorem dX7_isArray_0 : decode cX7_isArray 0 = .ok (.aload_n 0, 1) := by decide +kernel
theorem dX7_isArray_1 : decode cX7_isArray 1 = .ok (.iload_n 1, 1) := by decide +kernel
theorem dX7_isArray_2 : decode cX7_isArray 2 = .ok (.invokevirtual 30, 3) := by decide +kernel
theorem dX7_isArray_5 : decode cX7_isArray 5 = .ok (.ifCond .eq 29, 3) := by decide +kernel
theorem dX7_isArray_8 : decode cX7_isArray 8 = .ok (.aload_n 0, 1) := by decide +kernel
theorem dX7_isArray_9 : decode cX7_isArray 9 = .ok (.getfield 9, 3) := by decide +kernel
theorem dX7_isArray_12 : decode cX7_isArray 12 = .ok (.iload_n 1, 1) := by decide +kernel
theorem dX7_isArray_13 : decode cX7_isArray 13 = .ok (.caload, 1) := by decide +kernel
theorem dX7_isArray_14 : decode cX7_isArray 14 = .ok (.bipush 97, 2) := by decide +kernel
theorem dX7_isArray_16 : decode cX7_isArray 16 = .ok (.if_icmp .eq 14, 3) := by decide +kernel
theorem dX7_isArray_19 : decode cX7_isArray 19 = .ok (.aload_n 0, 1) := by decide +kernel
theorem dX7_isArray_20 : decode cX7_isArray 20 = .ok (.getfield 9, 3) := by decide +kernel
theorem dX7_isArray_23 : decode cX7_isArray 23 = .ok (.iload_n 1, 1) := by decide +kernel
theorem dX7_isArray_24 : decode cX7_isArray 24 = .ok (.caload, 1) := by decide +kernel
theorem dX7_isArray_25 : decode cX7_isArray 25 = .ok (.bipush 119, 2) := by decide +kernel
theorem dX7_isArray_27 : decode cX7_isArray 27 = .ok (.if_icmp .ne 7, 3) := by decide +kernel
theorem dX7_isArray_30 : decode cX7_isArray 30 = .ok (.iconst 1, 1) := by decide +kernel
theorem dX7_isArray_31 : decode cX7_isArray 31 = .ok (.goto 4, 3) := by decide +kernel
theorem dX7_isArray_34 : decode cX7_isArray 34 = .ok (.iconst 0, 1) := by decide +kernel
theorem dX7_isArray_35 : decode cX7_isArray 35 = .ok (.ireturn, 1) := by decide +kernel
theorem dX7_isValue_0 : decode cX7_isValue 0 = .ok (.aload_n 0, 1) := by decide +kernel
theorem dX7_isValue_1 : decode cX7_isValue 1 = .ok (.iload_n 1, 1) := by decide +kernel
theorem dX7_isValue_2 : decode cX7_isValue 2 = .ok (.invokevirtual 30, 3) := by decide +kernel
theorem dX7_isValue_5 : decode cX7_isValue 5 = .ok (.ifCond .eq 29, 3) := by decide +kernel
theorem dX7_isValue_8 : decode cX7_isValue 8 = .ok (.aload_n 0, 1) := by decide +kernel
theorem dX7_isValue_9 : decode cX7_isValue 9 = .ok (.getfield 9, 3) := by decide +kernel
theorem dX7_isValue_12 : decode cX7_isValue 12 = .ok (.iload_n 1, 1) := by decide +kernel
theorem dX7_isValue_13 : decode cX7_isValue 13 = .ok (.caload, 1) := by decide +kernel
theorem dX7_isValue_14 : decode cX7_isValue 14 = .ok (.bipush 97, 2) := by decide +kernel
theorem dX7_isValue_16 : decode cX7_isValue 16 = .ok (.if_icmp .eq 18, 3) := by decide +kernel
theorem dX7_isValue_19 : decode cX7_isValue 19 = .ok (.aload_n 0, 1) := by decide +kernel
theorem dX7_isValue_20 : decode cX7_isValue 20 = .ok (.getfield 9, 3) := by decide +kernel
theorem dX7_isValue_23 : decode cX7_isValue 23 = .ok (.iload_n 1, 1) := by decide +kernel
theorem dX7_isValue_24 : decode cX7_isValue 24 = .ok (.caload, 1) := by decide +kernel
theorem dX7_isValue_25 : decode cX7_isValue 25 = .ok (.bipush 119, 2) := by decide +kernel
theorem dX7_isValue_27 : decode cX7_isValue 27 = .ok (.if_icmp .eq 7, 3) := by decide +kernel
theorem dX7_isValue_30 : decode cX7_isValue 30 = .ok (.iconst 1, 1) := by decide +kernel
theorem dX7_isValue_31 : decode cX7_isValue 31 = .ok (.goto 4, 3) := by decide +kernel
theorem dX7_isValue_34 : decode cX7_isValue 34 = .ok (.iconst 0, 1) := by decide +kernel
theorem dX7_isValue_35 : decode cX7_isValue 35 = .ok (.ireturn, 1) := by decide +kernel
theorem dX7_find_0 : decode cX7_find 0 = .ok (.iconst 0, 1) := by decide +kernel
theorem dX7_find_1 : decode cX7_find 1 = .ok (.istore 6, 2) := by decide +kernel
theorem dX7_find_3 : decode cX7_find 3 = .ok (.iload 6, 2) := by decide +kernel
theorem dX7_find_5 : decode cX7_find 5 = .ok (.aload_n 0, 1) := by decide +kernel
theorem dX7_find_6 : decode cX7_find 6 = .ok (.getfield 26, 3) := by decide +kernel
theorem dX7_find_9 : decode cX7_find 9 = .ok (.if_icmp .ge 81, 3) := by decide +kernel
theorem dX7_find_12 : decode cX7_find 12 = .ok (.aload_n 0, 1) := by decide +kernel
theorem dX7_find_13 : decode cX7_find 13 = .ok (.getfield 17, 3) := by decide +kernel
theorem dX7_find_16 : decode cX7_find 16 = .ok (.iload 6, 2) := by decide +kernel
theorem dX7_find_18 : decode cX7_find 18 = .ok (.iaload, 1) := by decide +kernel
theorem dX7_find_19 : decode cX7_find 19 = .ok (.iload_n 3, 1) := by decide +kernel
theorem dX7_find_20 : decode cX7_find 20 = .ok (.if_icmp .ne 31, 3) := by decide +kernel
theorem dX7_find_23 : decode cX7_find 23 = .ok (.aload_n 0, 1) := by decide +kernel
theorem dX7_find_24 : decode cX7_find 24 = .ok (.getfield 20, 3) := by decide +kernel
theorem dX7_find_27 : decode cX7_find 27 = .ok (.iload 6, 2) := by decide +kernel
theorem dX7_find_29 : decode cX7_find 29 = .ok (.iaload, 1) := by decide +kernel
theorem dX7_find_30 : decode cX7_find 30 = .ok (.iload 4, 2) := by decide +kernel
theorem dX7_find_32 : decode cX7_find 32 = .ok (.if_icmp .ne 19, 3) := by decide +kernel
theorem dX7_find_35 : decode cX7_find 35 = .ok (.aload_n 0, 1) := by decide +kernel
theorem dX7_find_36 : decode cX7_find 36 = .ok (.getfield 23, 3) := by decide +kernel
theorem dX7_find_39 : decode cX7_find 39 = .ok (.iload 6, 2) := by decide +kernel
theorem dX7_find_41 : decode cX7_find 41 = .ok (.iaload, 1) := by decide +kernel
theorem dX7_find_42 : decode cX7_find 42 = .ok (.iload 5, 2) := by decide +kernel
theorem dX7_find_44 : decode cX7_find 44 = .ok (.if_icmp .ne 7, 3) := by decide +kernel
theorem dX7_find_47 : decode cX7_find 47 = .ok (.iconst 1, 1) := by decide +kernel
theorem dX7_find_48 : decode cX7_find 48 = .ok (.goto 4, 3) := by decide +kernel
theorem dX7_find_51 : decode cX7_find 51 = .ok (.iconst 0, 1) := by decide +kernel
theorem dX7_find_52 : decode cX7_find 52 = .ok (.istore 7, 2) := by decide +kernel
theorem dX7_find_54 : decode cX7_find 54 = .ok (.iload 7, 2) := by decide +kernel
theorem dX7_find_56 : decode cX7_find 56 = .ok (.ifCond .eq 28, 3) := by decide +kernel
theorem dX7_find_59 : decode cX7_find 59 = .ok (.aload_n 0, 1) := by decide +kernel
theorem dX7_find_60 : decode cX7_find 60 = .ok (.getfield 9, 3) := by decide +kernel
theorem dX7_find_63 : decode cX7_find 63 = .ok (.iload 6, 2) := by decide +kernel
theorem dX7_find_65 : decode cX7_find 65 = .ok (.caload, 1) := by decide +kernel
theorem dX7_find_66 : decode cX7_find 66 = .ok (.iload_n 1, 1) := by decide +kernel
theorem dX7_find_67 : decode cX7_find 67 = .ok (.if_icmp .ne 17, 3) := by decide +kernel
theorem dX7_find_70 : decode cX7_find 70 = .ok (.aload_n 0, 1) := by decide +kernel
theorem dX7_find_71 : decode cX7_find 71 = .ok (.getfield 13, 3) := by decide +kernel
theorem dX7_find_74 : decode cX7_find 74 = .ok (.iload 6, 2) := by decide +kernel
theorem dX7_find_76 : decode cX7_find 76 = .ok (.iaload, 1) := by decide +kernel
theorem dX7_find_77 : decode cX7_find 77 = .ok (.iload_n 2, 1) := by decide +kernel
theorem dX7_find_78 : decode cX7_find 78 = .ok (.if_icmp .ne 6, 3) := by decide +kernel
theorem dX7_find_81 : decode cX7_find 81 = .ok (.iload 6, 2) := by decide +kernel
theorem dX7_find_83 : decode cX7_find 83 = .ok (.ireturn, 1) := by decide +kernel
theorem dX7_find_84 : decode cX7_find 84 = .ok (.iinc 6 1, 3) := by decide +kernel
theorem dX7_find_87 : decode cX7_find 87 = .ok (.goto (-84), 3) := by decide +kernel
theorem dX7_find_90 : decode cX7_find 90 = .ok (.iconst (-1), 1) := by decide +kernel
theorem dX7_find_91 : decode cX7_find 91 = .ok (.ireturn, 1) := by decide +kernel
theorem dX7_add_0 : decode cX7_add 0 = .ok (.aload_n 0, 1) := by decide +kernel
theorem dX7_add_1 : decode cX7_add 1 = .ok (.getfield 9, 3) := by decide +kernel
theorem dX7_add_4 : decode cX7_add 4 = .ok (.aload_n 0, 1) := by decide +kernel
theorem dX7_add_5 : decode cX7_add 5 = .ok (.getfield 26, 3) := by decide +kernel
theorem dX7_add_8 : decode cX7_add 8 = .ok (.iload_n 1, 1) := by decide +kernel
theorem dX7_add_9 : decode cX7_add 9 = .ok (.castore, 1) := by decide +kernel
theorem dX7_add_10 : decode cX7_add 10 = .ok (.aload_n 0, 1) := by decide +kernel
theorem dX7_add_11 : decode cX7_add 11 = .ok (.getfield 13, 3) := by decide +kernel
theorem dX7_add_14 : decode cX7_add 14 = .ok (.aload_n 0, 1) := by decide +kernel
theorem dX7_add_15 : decode cX7_add 15 = .ok (.getfield 26, 3) := by decide +kernel
theorem dX7_add_18 : decode cX7_add 18 = .ok (.iload_n 2, 1) := by decide +kernel
theorem dX7_add_19 : decode cX7_add 19 = .ok (.iastore, 1) := by decide +kernel
theorem dX7_add_20 : decode cX7_add 20 = .ok (.aload_n 0, 1) := by decide +kernel
theorem dX7_add_21 : decode cX7_add 21 = .ok (.getfield 17, 3) := by decide +kernel
theorem dX7_add_24 : decode cX7_add 24 = .ok (.aload_n 0, 1) := by decide +kernel
theorem dX7_add_25 : decode cX7_add 25 = .ok (.getfield 26, 3) := by decide +kernel
theorem dX7_add_28 : decode cX7_add 28 = .ok (.iload_n 3, 1) := by decide +kernel
theorem dX7_add_29 : decode cX7_add 29 = .ok (.iastore, 1) := by decide +kernel
theorem dX7_add_30 : decode cX7_add 30 = .ok (.aload_n 0, 1) := by decide +kernel
theorem dX7_add_31 : decode cX7_add 31 = .ok (.getfield 20, 3) := by decide +kernel
theorem dX7_add_34 : decode cX7_add 34 = .ok (.aload_n 0, 1) := by decide +kernel
theorem dX7_add_35 : decode cX7_add 35 = .ok (.getfield 26, 3) := by decide +kernel
theorem dX7_add_38 : decode cX7_add 38 = .ok (.iload 4, 2) := by decide +kernel
theorem dX7_add_40 : decode cX7_add 40 = .ok (.iastore, 1) := by decide +kernel
theorem dX7_add_41 : decode cX7_add 41 = .ok (.aload_n 0, 1) := by decide +kernel
theorem dX7_add_42 : decode cX7_add 42 = .ok (.getfield 23, 3) := by decide +kernel
theorem dX7_add_45 : decode cX7_add 45 = .ok (.aload_n 0, 1) := by decide +kernel
theorem dX7_add_46 : decode cX7_add 46 = .ok (.getfield 26, 3) := by decide +kernel
theorem dX7_add_49 : decode cX7_add 49 = .ok (.iload 5, 2) := by decide +kernel
theorem dX7_add_51 : decode cX7_add 51 = .ok (.iastore, 1) := by decide +kernel
theorem dX7_add_52 : decode cX7_add 52 = .ok (.aload_n 0, 1) := by decide +kernel
theorem dX7_add_53 : decode cX7_add 53 = .ok (.dup, 1) := by decide +kernel
theorem dX7_add_54 : decode cX7_add 54 = .ok (.getfield 26, 3) := by decide +kernel
theorem dX7_add_57 : decode cX7_add 57 = .ok (.iconst 1, 1) := by decide +kernel
theorem dX7_add_58 : decode cX7_add 58 = .ok (.iadd, 1) := by decide +kernel
theorem dX7_add_59 : decode cX7_add 59 = .ok (.putfield 26, 3) := by decide +kernel
theorem dX7_add_62 : decode cX7_add 62 = .ok (.aload_n 0, 1) := by decide +kernel
theorem dX7_add_63 : decode cX7_add 63 = .ok (.getfield 26, 3) := by decide +kernel
theorem dX7_add_66 : decode cX7_add 66 = .ok (.iconst 1, 1) := by decide +kernel
theorem dX7_add_67 : decode cX7_add 67 = .ok (.isub, 1) := by decide +kernel
theorem dX7_add_68 : decode cX7_add 68 = .ok (.ireturn, 1) := by decide +kernel
theorem dX7_origin_0 : decode cX7_origin 0 = .ok (.iload_n 1, 1) := by decide +kernel
theorem dX7_origin_1 : decode cX7_origin 1 = .ok (.istore_n 2, 1) := by decide +kernel
theorem dX7_origin_2 : decode cX7_origin 2 = .ok (.iconst 0, 1) := by decide +kernel
theorem dX7_origin_3 : decode cX7_origin 3 = .ok (.istore_n 3, 1) := by decide +kernel
theorem dX7_origin_4 : decode cX7_origin 4 = .ok (.iload_n 3, 1) := by decide +kernel
theorem dX7_origin_5 : decode cX7_origin 5 = .ok (.aload_n 0, 1) := by decide +kernel
theorem dX7_origin_6 : decode cX7_origin 6 = .ok (.getfield 26, 3) := by decide +kernel
theorem dX7_origin_9 : decode cX7_origin 9 = .ok (.if_icmp .ge 27, 3) := by decide +kernel
theorem dX7_origin_12 : decode cX7_origin 12 = .ok (.aload_n 0, 1) := by decide +kernel
theorem dX7_origin_13 : decode cX7_origin 13 = .ok (.getfield 9, 3) := by decide +kernel
theorem dX7_origin_16 : decode cX7_origin 16 = .ok (.iload_n 2, 1) := by decide +kernel
theorem dX7_origin_17 : decode cX7_origin 17 = .ok (.caload, 1) := by decide +kernel
theorem dX7_origin_18 : decode cX7_origin 18 = .ok (.bipush 119, 2) := by decide +kernel
theorem dX7_origin_20 : decode cX7_origin 20 = .ok (.if_icmp .ne 16, 3) := by decide +kernel
theorem dX7_origin_23 : decode cX7_origin 23 = .ok (.aload_n 0, 1) := by decide +kernel
theorem dX7_origin_24 : decode cX7_origin 24 = .ok (.getfield 17, 3) := by decide +kernel
theorem dX7_origin_27 : decode cX7_origin 27 = .ok (.iload_n 2, 1) := by decide +kernel
theorem dX7_origin_28 : decode cX7_origin 28 = .ok (.iaload, 1) := by decide +kernel
theorem dX7_origin_29 : decode cX7_origin 29 = .ok (.istore_n 2, 1) := by decide +kernel
theorem dX7_origin_30 : decode cX7_origin 30 = .ok (.iinc 3 1, 3) := by decide +kernel
theorem dX7_origin_33 : decode cX7_origin 33 = .ok (.goto (-29), 3) := by decide +kernel
theorem dX7_origin_36 : decode cX7_origin 36 = .ok (.iload_n 2, 1) := by decide +kernel
theorem dX7_origin_37 : decode cX7_origin 37 = .ok (.ireturn, 1) := by decide +kernel
theorem dX7_haveOneOrigin_0 : decode cX7_haveOneOrigin 0 = .ok (.aload_n 0, 1) := by decide +kernel
theorem dX7_haveOneOrigin_1 : decode cX7_haveOneOrigin 1 = .ok (.getfield 9, 3) := by decide +kernel
theorem dX7_haveOneOrigin_4 : decode cX7_haveOneOrigin 4 = .ok (.iload_n 1, 1) := by decide +kernel
theorem dX7_haveOneOrigin_5 : decode cX7_haveOneOrigin 5 = .ok (.caload, 1) := by decide +kernel
theorem dX7_haveOneOrigin_6 : decode cX7_haveOneOrigin 6 = .ok (.bipush 114, 2) := by decide +kernel
theorem dX7_haveOneOrigin_8 : decode cX7_haveOneOrigin 8 = .ok (.if_icmp .ne 14, 3) := by decide +kernel
theorem dX7_haveOneOrigin_11 : decode cX7_haveOneOrigin 11 = .ok (.aload_n 0, 1) := by decide +kernel
theorem dX7_haveOneOrigin_12 : decode cX7_haveOneOrigin 12 = .ok (.getfield 9, 3) := by decide +kernel
theorem dX7_haveOneOrigin_15 : decode cX7_haveOneOrigin 15 = .ok (.iload_n 2, 1) := by decide +kernel
theorem dX7_haveOneOrigin_16 : decode cX7_haveOneOrigin 16 = .ok (.caload, 1) := by decide +kernel
theorem dX7_haveOneOrigin_17 : decode cX7_haveOneOrigin 17 = .ok (.bipush 114, 2) := by decide +kernel
theorem dX7_haveOneOrigin_19 : decode cX7_haveOneOrigin 19 = .ok (.if_icmp .eq 5, 3) := by decide +kernel
theorem dX7_haveOneOrigin_22 : decode cX7_haveOneOrigin 22 = .ok (.iconst 0, 1) := by decide +kernel
theorem dX7_haveOneOrigin_23 : decode cX7_haveOneOrigin 23 = .ok (.ireturn, 1) := by decide +kernel
theorem dX7_haveOneOrigin_24 : decode cX7_haveOneOrigin 24 = .ok (.aload_n 0, 1) := by decide +kernel
theorem dX7_haveOneOrigin_25 : decode cX7_haveOneOrigin 25 = .ok (.aload_n 0, 1) := by decide +kernel
theorem dX7_haveOneOrigin_26 : decode cX7_haveOneOrigin 26 = .ok (.getfield 17, 3) := by decide +kernel
theorem dX7_haveOneOrigin_29 : decode cX7_haveOneOrigin 29 = .ok (.iload_n 1, 1) := by decide +kernel
theorem dX7_haveOneOrigin_30 : decode cX7_haveOneOrigin 30 = .ok (.iaload, 1) := by decide +kernel
theorem dX7_haveOneOrigin_31 : decode cX7_haveOneOrigin 31 = .ok (.invokevirtual 34, 3) := by decide +kernel
theorem dX7_haveOneOrigin_34 : decode cX7_haveOneOrigin 34 = .ok (.aload_n 0, 1) := by decide +kernel
theorem dX7_haveOneOrigin_35 : decode cX7_haveOneOrigin 35 = .ok (.aload_n 0, 1) := by decide +kernel
theorem dX7_haveOneOrigin_36 : decode cX7_haveOneOrigin 36 = .ok (.getfield 17, 3) := by decide +kernel
theorem dX7_haveOneOrigin_39 : decode cX7_haveOneOrigin 39 = .ok (.iload_n 2, 1) := by decide +kernel
theorem dX7_haveOneOrigin_40 : decode cX7_haveOneOrigin 40 = .ok (.iaload, 1) := by decide +kernel
theorem dX7_haveOneOrigin_41 : decode cX7_haveOneOrigin 41 = .ok (.invokevirtual 34, 3) := by decide +kernel
theorem dX7_haveOneOrigin_44 : decode cX7_haveOneOrigin 44 = .ok (.if_icmp .ne 7, 3) := by decide +kernel
theorem dX7_haveOneOrigin_47 : decode cX7_haveOneOrigin 47 = .ok (.iconst 1, 1) := by decide +kernel
theorem dX7_haveOneOrigin_48 : decode cX7_haveOneOrigin 48 = .ok (.goto 4, 3) := by decide +kernel
theorem dX7_haveOneOrigin_51 : decode cX7_haveOneOrigin 51 = .ok (.iconst 0, 1) := by decide +kernel
theorem dX7_haveOneOrigin_52 : decode cX7_haveOneOrigin 52 = .ok (.ireturn, 1) := by decide +kernel
theorem dX7_isOfFunction_0 : decode cX7_isOfFunction 0 = .ok (.aload_n 0, 1) := by decide +kernel
theorem dX7_isOfFunction_1 : decode cX7_isOfFunction 1 = .ok (.getfield 9, 3) := by decide +kernel
theorem dX7_isOfFunction_4 : decode cX7_isOfFunction 4 = .ok (.iload_n 1, 1) := by decide +kernel
theorem dX7_isOfFunction_5 : decode cX7_isOfFunction 5 = .ok (.caload, 1) := by decide +kernel
theorem dX7_isOfFunction_6 : decode cX7_isOfFunction 6 = .ok (.bipush 102, 2) := by decide +kernel
theorem dX7_isOfFunction_8 : decode cX7_isOfFunction 8 = .ok (.if_icmp .ne 17, 3) := by decide +kernel
theorem dX7_isOfFunction_11 : decode cX7_isOfFunction 11 = .ok (.aload_n 0, 1) := by decide +kernel
theorem dX7_isOfFunction_12 : decode cX7_isOfFunction 12 = .ok (.getfield 13, 3) := by decide +kernel
theorem dX7_isOfFunction_15 : decode cX7_isOfFunction 15 = .ok (.iload_n 1, 1) := by decide +kernel
theorem dX7_isOfFunction_16 : decode cX7_isOfFunction 16 = .ok (.iaload, 1) := by decide +kernel
theorem dX7_isOfFunction_17 : decode cX7_isOfFunction 17 = .ok (.iload_n 2, 1) := by decide +kernel
theorem dX7_isOfFunction_18 : decode cX7_isOfFunction 18 = .ok (.if_icmp .ne 7, 3) := by decide +kernel
theorem dX7_isOfFunction_21 : decode cX7_isOfFunction 21 = .ok (.iconst 1, 1) := by decide +kernel
theorem dX7_isOfFunction_22 : decode cX7_isOfFunction 22 = .ok (.goto 4, 3) := by decide +kernel
theorem dX7_isOfFunction_25 : decode cX7_isOfFunction 25 = .ok (.iconst 0, 1) := by decide +kernel
theorem dX7_isOfFunction_26 : decode cX7_isOfFunction 26 = .ok (.ireturn, 1) := by decide +kernel
theorem dX6_init_0 : decode cX6_init 0 = .ok (.aload_n 0, 1) := by decide +kernel
theorem dX6_init_1 : decode cX6_init 1 = .ok (.invokespecial 1, 3) := by decide +kernel
theorem dX6_init_4 : decode cX6_init 4 = .ok (.aload_n 0, 1) := by decide +kernel
theorem dX6_init_5 : decode cX6_init 5 = .ok (.bipush 24, 2) := by decide +kernel
theorem dX6_init_7 : decode cX6_init 7 = .ok (.newarray .int, 2) := by decide +kernel
theorem dX6_init_9 : decode cX6_init 9 = .ok (.putfield 9, 3) := by decide +kernel
theorem dX6_init_12 : decode cX6_init 12 = .ok (.aload_n 0, 1) := by decide +kernel
theorem dX6_init_13 : decode cX6_init 13 = .ok (.bipush 42, 2) := by decide +kernel
theorem dX6_init_15 : decode cX6_init 15 = .ok (.newarray .int, 2) := by decide +kernel
theorem dX6_init_17 : decode cX6_init 17 = .ok (.putfield 13, 3) := by decide +kernel
theorem dX6_init_20 : decode cX6_init 20 = .ok (.aload_n 0, 1) := by decide +kernel
theorem dX6_init_21 : decode cX6_init 21 = .ok (.iconst 4, 1) := by decide +kernel
theorem dX6_init_22 : decode cX6_init 22 = .ok (.newarray .char, 2) := by decide +kernel
theorem dX6_init_24 : decode cX6_init 24 = .ok (.putfield 16, 3) := by decide +kernel
theorem dX6_init_27 : decode cX6_init 27 = .ok (.aload_n 0, 1) := by decide +kernel
theorem dX6_init_28 : decode cX6_init 28 = .ok (.iconst 4, 1) := by decide +kernel
theorem dX6_init_29 : decode cX6_init 29 = .ok (.newarray .int, 2) := by decide +kernel
theorem dX6_init_31 : decode cX6_init 31 = .ok (.putfield 20, 3) := by decide +kernel
theorem dX6_init_34 : decode cX6_init 34 = .ok (.return_, 1) := by decide +kernel
theorem dX6_hasAllAtoms_0 : decode cX6_hasAllAtoms 0 = .ok (.aload_n 0, 1) := by decide +kernel
theorem dX6_hasAllAtoms_1 : decode cX6_hasAllAtoms 1 = .ok (.getfield 23, 3) := by decide +kernel
theorem dX6_hasAllAtoms_4 : decode cX6_hasAllAtoms 4 = .ok (.bipush 24, 2) := by decide +kernel
theorem dX6_hasAllAtoms_6 : decode cX6_hasAllAtoms 6 = .ok (.if_icmp .lt 7, 3) := by decide +kernel
theorem dX6_hasAllAtoms_9 : decode cX6_hasAllAtoms 9 = .ok (.iconst 1, 1) := by decide +kernel
theorem dX6_hasAllAtoms_10 : decode cX6_hasAllAtoms 10 = .ok (.goto 4, 3) := by decide +kernel
theorem dX6_hasAllAtoms_13 : decode cX6_hasAllAtoms 13 = .ok (.iconst 0, 1) := by decide +kernel
theorem dX6_hasAllAtoms_14 : decode cX6_hasAllAtoms 14 = .ok (.ireturn, 1) := by decide +kernel
theorem dX6_hasAllClauses_0 : decode cX6_hasAllClauses 0 = .ok (.aload_n 0, 1) := by decide +kernel
theorem dX6_hasAllClauses_1 : decode cX6_hasAllClauses 1 = .ok (.getfield 27, 3) := by decide +kernel
theorem dX6_hasAllClauses_4 : decode cX6_hasAllClauses 4 = .ok (.bipush 14, 2) := by decide +kernel
theorem dX6_hasAllClauses_6 : decode cX6_hasAllClauses 6 = .ok (.if_icmp .lt 7, 3) := by decide +kernel
theorem dX6_hasAllClauses_9 : decode cX6_hasAllClauses 9 = .ok (.iconst 1, 1) := by decide +kernel
theorem dX6_hasAllClauses_10 : decode cX6_hasAllClauses 10 = .ok (.goto 4, 3) := by decide +kernel
theorem dX6_hasAllClauses_13 : decode cX6_hasAllClauses 13 = .ok (.iconst 0, 1) := by decide +kernel
theorem dX6_hasAllClauses_14 : decode cX6_hasAllClauses 14 = .ok (.ireturn, 1) := by decide +kernel
theorem dX6_hasAllRules_0 : decode cX6_hasAllRules 0 = .ok (.aload_n 0, 1) := by decide +kernel
theorem dX6_hasAllRules_1 : decode cX6_hasAllRules 1 = .ok (.getfield 30, 3) := by decide +kernel
theorem dX6_hasAllRules_4 : decode cX6_hasAllRules 4 = .ok (.iconst 4, 1) := by decide +kernel
theorem dX6_hasAllRules_5 : decode cX6_hasAllRules 5 = .ok (.if_icmp .lt 7, 3) := by decide +kernel
theorem dX6_hasAllRules_8 : decode cX6_hasAllRules 8 = .ok (.iconst 1, 1) := by decide +kernel
theorem dX6_hasAllRules_9 : decode cX6_hasAllRules 9 = .ok (.goto 4, 3) := by decide +kernel
theorem dX6_hasAllRules_12 : decode cX6_hasAllRules 12 = .ok (.iconst 0, 1) := by decide +kernel
theorem dX6_hasAllRules_13 : decode cX6_hasAllRules 13 = .ok (.ireturn, 1) := by decide +kernel
theorem dX6_isLiteral_0 : decode cX6_isLiteral 0 = .ok (.iload_n 1, 1) := by decide +kernel
theorem dX6_isLiteral_1 : decode cX6_isLiteral 1 = .ok (.ifCond .lt 17, 3) := by decide +kernel
theorem dX6_isLiteral_4 : decode cX6_isLiteral 4 = .ok (.iload_n 1, 1) := by decide +kernel
theorem dX6_isLiteral_5 : decode cX6_isLiteral 5 = .ok (.iconst 2, 1) := by decide +kernel
theorem dX6_isLiteral_6 : decode cX6_isLiteral 6 = .ok (.aload_n 0, 1) := by decide +kernel
theorem dX6_isLiteral_7 : decode cX6_isLiteral 7 = .ok (.getfield 23, 3) := by decide +kernel
theorem dX6_isLiteral_10 : decode cX6_isLiteral 10 = .ok (.imul, 1) := by decide +kernel
theorem dX6_isLiteral_11 : decode cX6_isLiteral 11 = .ok (.if_icmp .ge 7, 3) := by decide +kernel
theorem dX6_isLiteral_14 : decode cX6_isLiteral 14 = .ok (.iconst 1, 1) := by decide +kernel
theorem dX6_isLiteral_15 : decode cX6_isLiteral 15 = .ok (.goto 4, 3) := by decide +kernel
theorem dX6_isLiteral_18 : decode cX6_isLiteral 18 = .ok (.iconst 0, 1) := by decide +kernel
theorem dX6_isLiteral_19 : decode cX6_isLiteral 19 = .ok (.ireturn, 1) := by decide +kernel
theorem dX6_findAtom_0 : decode cX6_findAtom 0 = .ok (.iconst 0, 1) := by decide +kernel
theorem dX6_findAtom_1 : decode cX6_findAtom 1 = .ok (.istore_n 2, 1) := by decide +kernel
theorem dX6_findAtom_2 : decode cX6_findAtom 2 = .ok (.iload_n 2, 1) := by decide +kernel
theorem dX6_findAtom_3 : decode cX6_findAtom 3 = .ok (.aload_n 0, 1) := by decide +kernel
theorem dX6_findAtom_4 : decode cX6_findAtom 4 = .ok (.getfield 23, 3) := by decide +kernel
theorem dX6_findAtom_7 : decode cX6_findAtom 7 = .ok (.if_icmp .ge 21, 3) := by decide +kernel
theorem dX6_findAtom_10 : decode cX6_findAtom 10 = .ok (.aload_n 0, 1) := by decide +kernel
theorem dX6_findAtom_11 : decode cX6_findAtom 11 = .ok (.getfield 9, 3) := by decide +kernel
theorem dX6_findAtom_14 : decode cX6_findAtom 14 = .ok (.iload_n 2, 1) := by decide +kernel
theorem dX6_findAtom_15 : decode cX6_findAtom 15 = .ok (.iaload, 1) := by decide +kernel
theorem dX6_findAtom_16 : decode cX6_findAtom 16 = .ok (.iload_n 1, 1) := by decide +kernel
theorem dX6_findAtom_17 : decode cX6_findAtom 17 = .ok (.if_icmp .ne 5, 3) := by decide +kernel
theorem dX6_findAtom_20 : decode cX6_findAtom 20 = .ok (.iload_n 2, 1) := by decide +kernel
theorem dX6_findAtom_21 : decode cX6_findAtom 21 = .ok (.ireturn, 1) := by decide +kernel
theorem dX6_findAtom_22 : decode cX6_findAtom 22 = .ok (.iinc 2 1, 3) := by decide +kernel
theorem dX6_findAtom_25 : decode cX6_findAtom 25 = .ok (.goto (-23), 3) := by decide +kernel
theorem dX6_findAtom_28 : decode cX6_findAtom 28 = .ok (.iconst (-1), 1) := by decide +kernel
theorem dX6_findAtom_29 : decode cX6_findAtom 29 = .ok (.ireturn, 1) := by decide +kernel
theorem dX6_addAtom_0 : decode cX6_addAtom 0 = .ok (.aload_n 0, 1) := by decide +kernel
theorem dX6_addAtom_1 : decode cX6_addAtom 1 = .ok (.getfield 9, 3) := by decide +kernel
theorem dX6_addAtom_4 : decode cX6_addAtom 4 = .ok (.aload_n 0, 1) := by decide +kernel
theorem dX6_addAtom_5 : decode cX6_addAtom 5 = .ok (.getfield 23, 3) := by decide +kernel
theorem dX6_addAtom_8 : decode cX6_addAtom 8 = .ok (.iload_n 1, 1) := by decide +kernel
theorem dX6_addAtom_9 : decode cX6_addAtom 9 = .ok (.iastore, 1) := by decide +kernel
theorem dX6_addAtom_10 : decode cX6_addAtom 10 = .ok (.aload_n 0, 1) := by decide +kernel
theorem dX6_addAtom_11 : decode cX6_addAtom 11 = .ok (.dup, 1) := by decide +kernel
theorem dX6_addAtom_12 : decode cX6_addAtom 12 = .ok (.getfield 23, 3) := by decide +kernel
theorem dX6_addAtom_15 : decode cX6_addAtom 15 = .ok (.iconst 1, 1) := by decide +kernel
theorem dX6_addAtom_16 : decode cX6_addAtom 16 = .ok (.iadd, 1) := by decide +kernel
theorem dX6_addAtom_17 : decode cX6_addAtom 17 = .ok (.putfield 23, 3) := by decide +kernel
theorem dX6_addAtom_20 : decode cX6_addAtom 20 = .ok (.aload_n 0, 1) := by decide +kernel
theorem dX6_addAtom_21 : decode cX6_addAtom 21 = .ok (.getfield 23, 3) := by decide +kernel
theorem dX6_addAtom_24 : decode cX6_addAtom 24 = .ok (.iconst 1, 1) := by decide +kernel
theorem dX6_addAtom_25 : decode cX6_addAtom 25 = .ok (.isub, 1) := by decide +kernel
theorem dX6_addAtom_26 : decode cX6_addAtom 26 = .ok (.ireturn, 1) := by decide +kernel
theorem dX6_addClause_0 : decode cX6_addClause 0 = .ok (.aload_n 0, 1) := by decide +kernel
theorem dX6_addClause_1 : decode cX6_addClause 1 = .ok (.getfield 13, 3) := by decide +kernel
theorem dX6_addClause_4 : decode cX6_addClause 4 = .ok (.aload_n 0, 1) := by decide +kernel
theorem dX6_addClause_5 : decode cX6_addClause 5 = .ok (.getfield 27, 3) := by decide +kernel
theorem dX6_addClause_8 : decode cX6_addClause 8 = .ok (.iconst 3, 1) := by decide +kernel
theorem dX6_addClause_9 : decode cX6_addClause 9 = .ok (.imul, 1) := by decide +kernel
theorem dX6_addClause_10 : decode cX6_addClause 10 = .ok (.iload_n 1, 1) := by decide +kernel
theorem dX6_addClause_11 : decode cX6_addClause 11 = .ok (.iastore, 1) := by decide +kernel
theorem dX6_addClause_12 : decode cX6_addClause 12 = .ok (.aload_n 0, 1) := by decide +kernel
theorem dX6_addClause_13 : decode cX6_addClause 13 = .ok (.getfield 13, 3) := by decide +kernel
theorem dX6_addClause_16 : decode cX6_addClause 16 = .ok (.aload_n 0, 1) := by decide +kernel
theorem dX6_addClause_17 : decode cX6_addClause 17 = .ok (.getfield 27, 3) := by decide +kernel
theorem dX6_addClause_20 : decode cX6_addClause 20 = .ok (.iconst 3, 1) := by decide +kernel
theorem dX6_addClause_21 : decode cX6_addClause 21 = .ok (.imul, 1) := by decide +kernel
theorem dX6_addClause_22 : decode cX6_addClause 22 = .ok (.iconst 1, 1) := by decide +kernel
theorem dX6_addClause_23 : decode cX6_addClause 23 = .ok (.iadd, 1) := by decide +kernel
theorem dX6_addClause_24 : decode cX6_addClause 24 = .ok (.iload_n 2, 1) := by decide +kernel
theorem dX6_addClause_25 : decode cX6_addClause 25 = .ok (.iastore, 1) := by decide +kernel
theorem dX6_addClause_26 : decode cX6_addClause 26 = .ok (.aload_n 0, 1) := by decide +kernel
theorem dX6_addClause_27 : decode cX6_addClause 27 = .ok (.getfield 13, 3) := by decide +kernel
theorem dX6_addClause_30 : decode cX6_addClause 30 = .ok (.aload_n 0, 1) := by decide +kernel
theorem dX6_addClause_31 : decode cX6_addClause 31 = .ok (.getfield 27, 3) := by decide +kernel
theorem dX6_addClause_34 : decode cX6_addClause 34 = .ok (.iconst 3, 1) := by decide +kernel
theorem dX6_addClause_35 : decode cX6_addClause 35 = .ok (.imul, 1) := by decide +kernel
theorem dX6_addClause_36 : decode cX6_addClause 36 = .ok (.iconst 2, 1) := by decide +kernel
theorem dX6_addClause_37 : decode cX6_addClause 37 = .ok (.iadd, 1) := by decide +kernel
theorem dX6_addClause_38 : decode cX6_addClause 38 = .ok (.iload_n 3, 1) := by decide +kernel
theorem dX6_addClause_39 : decode cX6_addClause 39 = .ok (.iastore, 1) := by decide +kernel
theorem dX6_addClause_40 : decode cX6_addClause 40 = .ok (.aload_n 0, 1) := by decide +kernel
theorem dX6_addClause_41 : decode cX6_addClause 41 = .ok (.dup, 1) := by decide +kernel
theorem dX6_addClause_42 : decode cX6_addClause 42 = .ok (.getfield 27, 3) := by decide +kernel
theorem dX6_addClause_45 : decode cX6_addClause 45 = .ok (.iconst 1, 1) := by decide +kernel
theorem dX6_addClause_46 : decode cX6_addClause 46 = .ok (.iadd, 1) := by decide +kernel
theorem dX6_addClause_47 : decode cX6_addClause 47 = .ok (.putfield 27, 3) := by decide +kernel
theorem dX6_addClause_50 : decode cX6_addClause 50 = .ok (.aload_n 0, 1) := by decide +kernel
theorem dX6_addClause_51 : decode cX6_addClause 51 = .ok (.getfield 27, 3) := by decide +kernel
theorem dX6_addClause_54 : decode cX6_addClause 54 = .ok (.iconst 1, 1) := by decide +kernel
theorem dX6_addClause_55 : decode cX6_addClause 55 = .ok (.isub, 1) := by decide +kernel
theorem dX6_addClause_56 : decode cX6_addClause 56 = .ok (.ireturn, 1) := by decide +kernel
theorem dX6_addRule_0 : decode cX6_addRule 0 = .ok (.aload_n 0, 1) := by decide +kernel
theorem dX6_addRule_1 : decode cX6_addRule 1 = .ok (.getfield 16, 3) := by decide +kernel
theorem dX6_addRule_4 : decode cX6_addRule 4 = .ok (.aload_n 0, 1) := by decide +kernel
theorem dX6_addRule_5 : decode cX6_addRule 5 = .ok (.getfield 30, 3) := by decide +kernel
theorem dX6_addRule_8 : decode cX6_addRule 8 = .ok (.iload_n 1, 1) := by decide +kernel
theorem dX6_addRule_9 : decode cX6_addRule 9 = .ok (.castore, 1) := by decide +kernel
theorem dX6_addRule_10 : decode cX6_addRule 10 = .ok (.aload_n 0, 1) := by decide +kernel
theorem dX6_addRule_11 : decode cX6_addRule 11 = .ok (.getfield 20, 3) := by decide +kernel
theorem dX6_addRule_14 : decode cX6_addRule 14 = .ok (.aload_n 0, 1) := by decide +kernel
theorem dX6_addRule_15 : decode cX6_addRule 15 = .ok (.getfield 30, 3) := by decide +kernel
theorem dX6_addRule_18 : decode cX6_addRule 18 = .ok (.iload_n 2, 1) := by decide +kernel
theorem dX6_addRule_19 : decode cX6_addRule 19 = .ok (.iastore, 1) := by decide +kernel
theorem dX6_addRule_20 : decode cX6_addRule 20 = .ok (.aload_n 0, 1) := by decide +kernel
theorem dX6_addRule_21 : decode cX6_addRule 21 = .ok (.dup, 1) := by decide +kernel
theorem dX6_addRule_22 : decode cX6_addRule 22 = .ok (.getfield 30, 3) := by decide +kernel
theorem dX6_addRule_25 : decode cX6_addRule 25 = .ok (.iconst 1, 1) := by decide +kernel
theorem dX6_addRule_26 : decode cX6_addRule 26 = .ok (.iadd, 1) := by decide +kernel
theorem dX6_addRule_27 : decode cX6_addRule 27 = .ok (.putfield 30, 3) := by decide +kernel
theorem dX6_addRule_30 : decode cX6_addRule 30 = .ok (.aload_n 0, 1) := by decide +kernel
theorem dX6_addRule_31 : decode cX6_addRule 31 = .ok (.getfield 30, 3) := by decide +kernel
theorem dX6_addRule_34 : decode cX6_addRule 34 = .ok (.ireturn, 1) := by decide +kernel
theorem dX6_factOf_0 : decode cX6_factOf 0 = .ok (.aload_n 0, 1) := by decide +kernel
theorem dX6_factOf_1 : decode cX6_factOf 1 = .ok (.getfield 9, 3) := by decide +kernel
theorem dX6_factOf_4 : decode cX6_factOf 4 = .ok (.iload_n 1, 1) := by decide +kernel
theorem dX6_factOf_5 : decode cX6_factOf 5 = .ok (.iconst 2, 1) := by decide +kernel
theorem dX6_factOf_6 : decode cX6_factOf 6 = .ok (.idiv, 1) := by decide +kernel
theorem dX6_factOf_7 : decode cX6_factOf 7 = .ok (.iaload, 1) := by decide +kernel
theorem dX6_factOf_8 : decode cX6_factOf 8 = .ok (.istore_n 2, 1) := by decide +kernel
theorem dX6_factOf_9 : decode cX6_factOf 9 = .ok (.iload_n 1, 1) := by decide +kernel
theorem dX6_factOf_10 : decode cX6_factOf 10 = .ok (.iconst 2, 1) := by decide +kernel
theorem dX6_factOf_11 : decode cX6_factOf 11 = .ok (.irem, 1) := by decide +kernel
theorem dX6_factOf_12 : decode cX6_factOf 12 = .ok (.ifCond .ne 7, 3) := by decide +kernel
theorem dX6_factOf_15 : decode cX6_factOf 15 = .ok (.iload_n 2, 1) := by decide +kernel
theorem dX6_factOf_16 : decode cX6_factOf 16 = .ok (.goto 7, 3) := by decide +kernel
theorem dX6_factOf_19 : decode cX6_factOf 19 = .ok (.iload_n 2, 1) := by decide +kernel
theorem dX6_factOf_20 : decode cX6_factOf 20 = .ok (.invokestatic 33, 3) := by decide +kernel
theorem dX6_factOf_23 : decode cX6_factOf 23 = .ok (.ireturn, 1) := by decide +kernel
theorem dX6_allClauses_0 : decode cX6_allClauses 0 = .ok (.iconst 1, 1) := by decide +kernel
theorem dX6_allClauses_1 : decode cX6_allClauses 1 = .ok (.aload_n 0, 1) := by decide +kernel
theorem dX6_allClauses_2 : decode cX6_allClauses 2 = .ok (.getfield 27, 3) := by decide +kernel
theorem dX6_allClauses_5 : decode cX6_allClauses 5 = .ok (.ishl, 1) := by decide +kernel
theorem dX6_allClauses_6 : decode cX6_allClauses 6 = .ok (.iconst 1, 1) := by decide +kernel
theorem dX6_allClauses_7 : decode cX6_allClauses 7 = .ok (.isub, 1) := by decide +kernel
theorem dX6_allClauses_8 : decode cX6_allClauses 8 = .ok (.ireturn, 1) := by decide +kernel
theorem dX4_init_0 : decode cX4_init 0 = .ok (.aload_n 0, 1) := by decide +kernel
theorem dX4_init_1 : decode cX4_init 1 = .ok (.invokespecial 1, 3) := by decide +kernel
theorem dX4_init_4 : decode cX4_init 4 = .ok (.aload_n 0, 1) := by decide +kernel
theorem dX4_init_5 : decode cX4_init 5 = .ok (.aload_n 1, 1) := by decide +kernel
theorem dX4_init_6 : decode cX4_init 6 = .ok (.putfield 7, 3) := by decide +kernel
theorem dX4_init_9 : decode cX4_init 9 = .ok (.aload_n 0, 1) := by decide +kernel
theorem dX4_init_10 : decode cX4_init 10 = .ok (.aload_n 2, 1) := by decide +kernel
theorem dX4_init_11 : decode cX4_init 11 = .ok (.putfield 13, 3) := by decide +kernel
theorem dX4_init_14 : decode cX4_init 14 = .ok (.aload_n 0, 1) := by decide +kernel
theorem dX4_init_15 : decode cX4_init 15 = .ok (.aload_n 3, 1) := by decide +kernel
theorem dX4_init_16 : decode cX4_init 16 = .ok (.putfield 17, 3) := by decide +kernel
theorem dX4_init_19 : decode cX4_init 19 = .ok (.return_, 1) := by decide +kernel
theorem dX4_ofFunction_0 : decode cX4_ofFunction 0 = .ok (.iconst 0, 1) := by decide +kernel
theorem dX4_ofFunction_1 : decode cX4_ofFunction 1 = .ok (.istore 4, 2) := by decide +kernel
theorem dX4_ofFunction_3 : decode cX4_ofFunction 3 = .ok (.iload 4, 2) := by decide +kernel
theorem dX4_ofFunction_5 : decode cX4_ofFunction 5 = .ok (.aload_n 0, 1) := by decide +kernel
theorem dX4_ofFunction_6 : decode cX4_ofFunction 6 = .ok (.getfield 7, 3) := by decide +kernel
theorem dX4_ofFunction_9 : decode cX4_ofFunction 9 = .ok (.getfield 21, 3) := by decide +kernel
theorem dX4_ofFunction_12 : decode cX4_ofFunction 12 = .ok (.if_icmp .ge 81, 3) := by decide +kernel
theorem dX4_ofFunction_15 : decode cX4_ofFunction 15 = .ok (.aload_n 0, 1) := by decide +kernel
theorem dX4_ofFunction_16 : decode cX4_ofFunction 16 = .ok (.getfield 7, 3) := by decide +kernel
theorem dX4_ofFunction_19 : decode cX4_ofFunction 19 = .ok (.iload 4, 2) := by decide +kernel
theorem dX4_ofFunction_21 : decode cX4_ofFunction 21 = .ok (.iload_n 1, 1) := by decide +kernel
theorem dX4_ofFunction_22 : decode cX4_ofFunction 22 = .ok (.invokevirtual 27, 3) := by decide +kernel
theorem dX4_ofFunction_25 : decode cX4_ofFunction 25 = .ok (.ifCond .eq 62, 3) := by decide +kernel
theorem dX4_ofFunction_28 : decode cX4_ofFunction 28 = .ok (.aload_n 0, 1) := by decide +kernel
theorem dX4_ofFunction_29 : decode cX4_ofFunction 29 = .ok (.getfield 17, 3) := by decide +kernel
theorem dX4_ofFunction_32 : decode cX4_ofFunction 32 = .ok (.aload_n 0, 1) := by decide +kernel
theorem dX4_ofFunction_33 : decode cX4_ofFunction 33 = .ok (.getfield 7, 3) := by decide +kernel
theorem dX4_ofFunction_36 : decode cX4_ofFunction 36 = .ok (.getfield 31, 3) := by decide +kernel
theorem dX4_ofFunction_39 : decode cX4_ofFunction 39 = .ok (.iload 4, 2) := by decide +kernel
theorem dX4_ofFunction_41 : decode cX4_ofFunction 41 = .ok (.iaload, 1) := by decide +kernel
theorem dX4_ofFunction_42 : decode cX4_ofFunction 42 = .ok (.iaload, 1) := by decide +kernel
theorem dX4_ofFunction_43 : decode cX4_ofFunction 43 = .ok (.iload_n 2, 1) := by decide +kernel
theorem dX4_ofFunction_44 : decode cX4_ofFunction 44 = .ok (.if_icmp .eq 6, 3) := by decide +kernel
theorem dX4_ofFunction_47 : decode cX4_ofFunction 47 = .ok (.goto 40, 3) := by decide +kernel
theorem dX4_ofFunction_50 : decode cX4_ofFunction 50 = .ok (.aload_n 0, 1) := by decide +kernel
theorem dX4_ofFunction_51 : decode cX4_ofFunction 51 = .ok (.getfield 7, 3) := by decide +kernel
theorem dX4_ofFunction_54 : decode cX4_ofFunction 54 = .ok (.getfield 34, 3) := by decide +kernel
theorem dX4_ofFunction_57 : decode cX4_ofFunction 57 = .ok (.iload 4, 2) := by decide +kernel
theorem dX4_ofFunction_59 : decode cX4_ofFunction 59 = .ok (.iaload, 1) := by decide +kernel
theorem dX4_ofFunction_60 : decode cX4_ofFunction 60 = .ok (.istore 5, 2) := by decide +kernel
theorem dX4_ofFunction_62 : decode cX4_ofFunction 62 = .ok (.iload 5, 2) := by decide +kernel
theorem dX4_ofFunction_64 : decode cX4_ofFunction 64 = .ok (.iconst (-1), 1) := by decide +kernel
theorem dX4_ofFunction_65 : decode cX4_ofFunction 65 = .ok (.if_icmp .eq 14, 3) := by decide +kernel
theorem dX4_ofFunction_68 : decode cX4_ofFunction 68 = .ok (.aload_n 0, 1) := by decide +kernel
theorem dX4_ofFunction_69 : decode cX4_ofFunction 69 = .ok (.getfield 17, 3) := by decide +kernel
theorem dX4_ofFunction_72 : decode cX4_ofFunction 72 = .ok (.iload 5, 2) := by decide +kernel
theorem dX4_ofFunction_74 : decode cX4_ofFunction 74 = .ok (.iaload, 1) := by decide +kernel
theorem dX4_ofFunction_75 : decode cX4_ofFunction 75 = .ok (.iload_n 3, 1) := by decide +kernel
theorem dX4_ofFunction_76 : decode cX4_ofFunction 76 = .ok (.if_icmp .ne 11, 3) := by decide +kernel
theorem dX4_ofFunction_79 : decode cX4_ofFunction 79 = .ok (.aload_n 0, 1) := by decide +kernel
theorem dX4_ofFunction_80 : decode cX4_ofFunction 80 = .ok (.getfield 17, 3) := by decide +kernel
theorem dX4_ofFunction_83 : decode cX4_ofFunction 83 = .ok (.iload 4, 2) := by decide +kernel
theorem dX4_ofFunction_85 : decode cX4_ofFunction 85 = .ok (.iaload, 1) := by decide +kernel
theorem dX4_ofFunction_86 : decode cX4_ofFunction 86 = .ok (.ireturn, 1) := by decide +kernel
theorem dX4_ofFunction_87 : decode cX4_ofFunction 87 = .ok (.iinc 4 1, 3) := by decide +kernel
theorem dX4_ofFunction_90 : decode cX4_ofFunction 90 = .ok (.goto (-87), 3) := by decide +kernel
theorem dX4_ofFunction_93 : decode cX4_ofFunction 93 = .ok (.iconst 0, 1) := by decide +kernel
theorem dX4_ofFunction_94 : decode cX4_ofFunction 94 = .ok (.ireturn, 1) := by decide +kernel
theorem dX4_ofArray_0 : decode cX4_ofArray 0 = .ok (.aload_n 0, 1) := by decide +kernel
theorem dX4_ofArray_1 : decode cX4_ofArray 1 = .ok (.iload_n 1, 1) := by decide +kernel
theorem dX4_ofArray_2 : decode cX4_ofArray 2 = .ok (.iload_n 2, 1) := by decide +kernel
theorem dX4_ofArray_3 : decode cX4_ofArray 3 = .ok (.invokevirtual 37, 3) := by decide +kernel
theorem dX4_ofArray_6 : decode cX4_ofArray 6 = .ok (.istore_n 3, 1) := by decide +kernel
theorem dX4_ofArray_7 : decode cX4_ofArray 7 = .ok (.aload_n 0, 1) := by decide +kernel
theorem dX4_ofArray_8 : decode cX4_ofArray 8 = .ok (.getfield 7, 3) := by decide +kernel
theorem dX4_ofArray_11 : decode cX4_ofArray 11 = .ok (.getfield 41, 3) := by decide +kernel
theorem dX4_ofArray_14 : decode cX4_ofArray 14 = .ok (.iload_n 3, 1) := by decide +kernel
theorem dX4_ofArray_15 : decode cX4_ofArray 15 = .ok (.caload, 1) := by decide +kernel
theorem dX4_ofArray_16 : decode cX4_ofArray 16 = .ok (.bipush 119, 2) := by decide +kernel
theorem dX4_ofArray_18 : decode cX4_ofArray 18 = .ok (.if_icmp .ne 18, 3) := by decide +kernel
theorem dX4_ofArray_21 : decode cX4_ofArray 21 = .ok (.aload_n 0, 1) := by decide +kernel
theorem dX4_ofArray_22 : decode cX4_ofArray 22 = .ok (.getfield 17, 3) := by decide +kernel
theorem dX4_ofArray_25 : decode cX4_ofArray 25 = .ok (.aload_n 0, 1) := by decide +kernel
theorem dX4_ofArray_26 : decode cX4_ofArray 26 = .ok (.getfield 7, 3) := by decide +kernel
theorem dX4_ofArray_29 : decode cX4_ofArray 29 = .ok (.getfield 45, 3) := by decide +kernel
theorem dX4_ofArray_32 : decode cX4_ofArray 32 = .ok (.iload_n 3, 1) := by decide +kernel
theorem dX4_ofArray_33 : decode cX4_ofArray 33 = .ok (.iaload, 1) := by decide +kernel
theorem dX4_ofArray_34 : decode cX4_ofArray 34 = .ok (.iaload, 1) := by decide +kernel
theorem dX4_ofArray_35 : decode cX4_ofArray 35 = .ok (.ireturn, 1) := by decide +kernel
theorem dX4_ofArray_36 : decode cX4_ofArray 36 = .ok (.iconst 0, 1) := by decide +kernel
theorem dX4_ofArray_37 : decode cX4_ofArray 37 = .ok (.istore 4, 2) := by decide +kernel
theorem dX4_ofArray_39 : decode cX4_ofArray 39 = .ok (.iload 4, 2) := by decide +kernel
theorem dX4_ofArray_41 : decode cX4_ofArray 41 = .ok (.aload_n 0, 1) := by decide +kernel
theorem dX4_ofArray_42 : decode cX4_ofArray 42 = .ok (.getfield 7, 3) := by decide +kernel
theorem dX4_ofArray_45 : decode cX4_ofArray 45 = .ok (.getfield 21, 3) := by decide +kernel
theorem dX4_ofArray_48 : decode cX4_ofArray 48 = .ok (.if_icmp .ge 73, 3) := by decide +kernel
theorem dX4_ofArray_51 : decode cX4_ofArray 51 = .ok (.aload_n 0, 1) := by decide +kernel
theorem dX4_ofArray_52 : decode cX4_ofArray 52 = .ok (.getfield 7, 3) := by decide +kernel
theorem dX4_ofArray_55 : decode cX4_ofArray 55 = .ok (.getfield 41, 3) := by decide +kernel
theorem dX4_ofArray_58 : decode cX4_ofArray 58 = .ok (.iload 4, 2) := by decide +kernel
theorem dX4_ofArray_60 : decode cX4_ofArray 60 = .ok (.caload, 1) := by decide +kernel
theorem dX4_ofArray_61 : decode cX4_ofArray 61 = .ok (.bipush 114, 2) := by decide +kernel
theorem dX4_ofArray_63 : decode cX4_ofArray 63 = .ok (.if_icmp .ne 52, 3) := by decide +kernel
theorem dX4_ofArray_66 : decode cX4_ofArray 66 = .ok (.aload_n 0, 1) := by decide +kernel
theorem dX4_ofArray_67 : decode cX4_ofArray 67 = .ok (.getfield 17, 3) := by decide +kernel
theorem dX4_ofArray_70 : decode cX4_ofArray 70 = .ok (.aload_n 0, 1) := by decide +kernel
theorem dX4_ofArray_71 : decode cX4_ofArray 71 = .ok (.getfield 7, 3) := by decide +kernel
theorem dX4_ofArray_74 : decode cX4_ofArray 74 = .ok (.getfield 34, 3) := by decide +kernel
theorem dX4_ofArray_77 : decode cX4_ofArray 77 = .ok (.iload 4, 2) := by decide +kernel
theorem dX4_ofArray_79 : decode cX4_ofArray 79 = .ok (.iaload, 1) := by decide +kernel
theorem dX4_ofArray_80 : decode cX4_ofArray 80 = .ok (.iaload, 1) := by decide +kernel
theorem dX4_ofArray_81 : decode cX4_ofArray 81 = .ok (.iload_n 2, 1) := by decide +kernel
theorem dX4_ofArray_82 : decode cX4_ofArray 82 = .ok (.if_icmp .eq 6, 3) := by decide +kernel
theorem dX4_ofArray_85 : decode cX4_ofArray 85 = .ok (.goto 30, 3) := by decide +kernel
theorem dX4_ofArray_88 : decode cX4_ofArray 88 = .ok (.aload_n 0, 1) := by decide +kernel
theorem dX4_ofArray_89 : decode cX4_ofArray 89 = .ok (.aload_n 0, 1) := by decide +kernel
theorem dX4_ofArray_90 : decode cX4_ofArray 90 = .ok (.getfield 7, 3) := by decide +kernel
theorem dX4_ofArray_93 : decode cX4_ofArray 93 = .ok (.getfield 31, 3) := by decide +kernel
theorem dX4_ofArray_96 : decode cX4_ofArray 96 = .ok (.iload 4, 2) := by decide +kernel
theorem dX4_ofArray_98 : decode cX4_ofArray 98 = .ok (.iaload, 1) := by decide +kernel
theorem dX4_ofArray_99 : decode cX4_ofArray 99 = .ok (.iload_n 2, 1) := by decide +kernel
theorem dX4_ofArray_100 : decode cX4_ofArray 100 = .ok (.invokevirtual 37, 3) := by decide +kernel
theorem dX4_ofArray_103 : decode cX4_ofArray 103 = .ok (.iload_n 3, 1) := by decide +kernel
theorem dX4_ofArray_104 : decode cX4_ofArray 104 = .ok (.if_icmp .ne 11, 3) := by decide +kernel
theorem dX4_ofArray_107 : decode cX4_ofArray 107 = .ok (.aload_n 0, 1) := by decide +kernel
theorem dX4_ofArray_108 : decode cX4_ofArray 108 = .ok (.getfield 17, 3) := by decide +kernel
theorem dX4_ofArray_111 : decode cX4_ofArray 111 = .ok (.iload 4, 2) := by decide +kernel
theorem dX4_ofArray_113 : decode cX4_ofArray 113 = .ok (.iaload, 1) := by decide +kernel
theorem dX4_ofArray_114 : decode cX4_ofArray 114 = .ok (.ireturn, 1) := by decide +kernel
theorem dX4_ofArray_115 : decode cX4_ofArray 115 = .ok (.iinc 4 1, 3) := by decide +kernel
theorem dX4_ofArray_118 : decode cX4_ofArray 118 = .ok (.goto (-79), 3) := by decide +kernel
theorem dX4_ofArray_121 : decode cX4_ofArray 121 = .ok (.iconst 0, 1) := by decide +kernel
theorem dX4_ofArray_122 : decode cX4_ofArray 122 = .ok (.ireturn, 1) := by decide +kernel
theorem dX4_stopOf_0 : decode cX4_stopOf 0 = .ok (.iload_n 1, 1) := by decide +kernel
theorem dX4_stopOf_1 : decode cX4_stopOf 1 = .ok (.istore_n 3, 1) := by decide +kernel
theorem dX4_stopOf_2 : decode cX4_stopOf 2 = .ok (.iconst 0, 1) := by decide +kernel
theorem dX4_stopOf_3 : decode cX4_stopOf 3 = .ok (.istore 4, 2) := by decide +kernel
theorem dX4_stopOf_5 : decode cX4_stopOf 5 = .ok (.iload 4, 2) := by decide +kernel
theorem dX4_stopOf_7 : decode cX4_stopOf 7 = .ok (.aload_n 0, 1) := by decide +kernel
theorem dX4_stopOf_8 : decode cX4_stopOf 8 = .ok (.getfield 7, 3) := by decide +kernel
theorem dX4_stopOf_11 : decode cX4_stopOf 11 = .ok (.getfield 21, 3) := by decide +kernel
theorem dX4_stopOf_14 : decode cX4_stopOf 14 = .ok (.if_icmp .ge 53, 3) := by decide +kernel
theorem dX4_stopOf_17 : decode cX4_stopOf 17 = .ok (.aload_n 0, 1) := by decide +kernel
theorem dX4_stopOf_18 : decode cX4_stopOf 18 = .ok (.getfield 7, 3) := by decide +kernel
theorem dX4_stopOf_21 : decode cX4_stopOf 21 = .ok (.getfield 41, 3) := by decide +kernel
theorem dX4_stopOf_24 : decode cX4_stopOf 24 = .ok (.iload_n 3, 1) := by decide +kernel
theorem dX4_stopOf_25 : decode cX4_stopOf 25 = .ok (.caload, 1) := by decide +kernel
theorem dX4_stopOf_26 : decode cX4_stopOf 26 = .ok (.bipush 119, 2) := by decide +kernel
theorem dX4_stopOf_28 : decode cX4_stopOf 28 = .ok (.if_icmp .ne 39, 3) := by decide +kernel
theorem dX4_stopOf_31 : decode cX4_stopOf 31 = .ok (.aload_n 0, 1) := by decide +kernel
theorem dX4_stopOf_32 : decode cX4_stopOf 32 = .ok (.getfield 17, 3) := by decide +kernel
theorem dX4_stopOf_35 : decode cX4_stopOf 35 = .ok (.aload_n 0, 1) := by decide +kernel
theorem dX4_stopOf_36 : decode cX4_stopOf 36 = .ok (.getfield 7, 3) := by decide +kernel
theorem dX4_stopOf_39 : decode cX4_stopOf 39 = .ok (.getfield 34, 3) := by decide +kernel
theorem dX4_stopOf_42 : decode cX4_stopOf 42 = .ok (.iload_n 3, 1) := by decide +kernel
theorem dX4_stopOf_43 : decode cX4_stopOf 43 = .ok (.iaload, 1) := by decide +kernel
theorem dX4_stopOf_44 : decode cX4_stopOf 44 = .ok (.iaload, 1) := by decide +kernel
theorem dX4_stopOf_45 : decode cX4_stopOf 45 = .ok (.iload_n 2, 1) := by decide +kernel
theorem dX4_stopOf_46 : decode cX4_stopOf 46 = .ok (.if_icmp .ne 5, 3) := by decide +kernel
theorem dX4_stopOf_49 : decode cX4_stopOf 49 = .ok (.iload_n 3, 1) := by decide +kernel
theorem dX4_stopOf_50 : decode cX4_stopOf 50 = .ok (.ireturn, 1) := by decide +kernel
theorem dX4_stopOf_51 : decode cX4_stopOf 51 = .ok (.aload_n 0, 1) := by decide +kernel
theorem dX4_stopOf_52 : decode cX4_stopOf 52 = .ok (.getfield 7, 3) := by decide +kernel
theorem dX4_stopOf_55 : decode cX4_stopOf 55 = .ok (.getfield 31, 3) := by decide +kernel
theorem dX4_stopOf_58 : decode cX4_stopOf 58 = .ok (.iload_n 3, 1) := by decide +kernel
theorem dX4_stopOf_59 : decode cX4_stopOf 59 = .ok (.iaload, 1) := by decide +kernel
theorem dX4_stopOf_60 : decode cX4_stopOf 60 = .ok (.istore_n 3, 1) := by decide +kernel
theorem dX4_stopOf_61 : decode cX4_stopOf 61 = .ok (.iinc 4 1, 3) := by decide +kernel
theorem dX4_stopOf_64 : decode cX4_stopOf 64 = .ok (.goto (-59), 3) := by decide +kernel
theorem dX4_stopOf_67 : decode cX4_stopOf 67 = .ok (.iload_n 3, 1) := by decide +kernel
theorem dX4_stopOf_68 : decode cX4_stopOf 68 = .ok (.ireturn, 1) := by decide +kernel
theorem dX4_makesTrue_0 : decode cX4_makesTrue 0 = .ok (.aload_n 0, 1) := by decide +kernel
theorem dX4_makesTrue_1 : decode cX4_makesTrue 1 = .ok (.getfield 13, 3) := by decide +kernel
theorem dX4_makesTrue_4 : decode cX4_makesTrue 4 = .ok (.iload_n 1, 1) := by decide +kernel
theorem dX4_makesTrue_5 : decode cX4_makesTrue 5 = .ok (.invokevirtual 48, 3) := by decide +kernel
theorem dX4_makesTrue_8 : decode cX4_makesTrue 8 = .ok (.istore_n 2, 1) := by decide +kernel
theorem dX4_makesTrue_9 : decode cX4_makesTrue 9 = .ok (.iload_n 2, 1) := by decide +kernel
theorem dX4_makesTrue_10 : decode cX4_makesTrue 10 = .ok (.aload_n 0, 1) := by decide +kernel
theorem dX4_makesTrue_11 : decode cX4_makesTrue 11 = .ok (.getfield 17, 3) := by decide +kernel
theorem dX4_makesTrue_14 : decode cX4_makesTrue 14 = .ok (.iload_n 2, 1) := by decide +kernel
theorem dX4_makesTrue_15 : decode cX4_makesTrue 15 = .ok (.invokestatic 54, 3) := by decide +kernel
theorem dX4_makesTrue_18 : decode cX4_makesTrue 18 = .ok (.iaload, 1) := by decide +kernel
theorem dX4_makesTrue_19 : decode cX4_makesTrue 19 = .ok (.aload_n 0, 1) := by decide +kernel
theorem dX4_makesTrue_20 : decode cX4_makesTrue 20 = .ok (.getfield 17, 3) := by decide +kernel
theorem dX4_makesTrue_23 : decode cX4_makesTrue 23 = .ok (.iload_n 2, 1) := by decide +kernel
theorem dX4_makesTrue_24 : decode cX4_makesTrue 24 = .ok (.invokestatic 59, 3) := by decide +kernel
theorem dX4_makesTrue_27 : decode cX4_makesTrue 27 = .ok (.iaload, 1) := by decide +kernel
theorem dX4_makesTrue_28 : decode cX4_makesTrue 28 = .ok (.isub, 1) := by decide +kernel
theorem dX4_makesTrue_29 : decode cX4_makesTrue 29 = .ok (.invokestatic 62, 3) := by decide +kernel
theorem dX4_makesTrue_32 : decode cX4_makesTrue 32 = .ok (.ireturn, 1) := by decide +kernel
theorem dX4_trueIn_0 : decode cX4_trueIn 0 = .ok (.iconst 0, 1) := by decide +kernel
theorem dX4_trueIn_1 : decode cX4_trueIn 1 = .ok (.istore_n 2, 1) := by decide +kernel
theorem dX4_trueIn_2 : decode cX4_trueIn 2 = .ok (.iload_n 1, 1) := by decide +kernel
theorem dX4_trueIn_3 : decode cX4_trueIn 3 = .ok (.iconst 3, 1) := by decide +kernel
theorem dX4_trueIn_4 : decode cX4_trueIn 4 = .ok (.imul, 1) := by decide +kernel
theorem dX4_trueIn_5 : decode cX4_trueIn 5 = .ok (.istore_n 3, 1) := by decide +kernel
theorem dX4_trueIn_6 : decode cX4_trueIn 6 = .ok (.iload_n 3, 1) := by decide +kernel
theorem dX4_trueIn_7 : decode cX4_trueIn 7 = .ok (.istore 4, 2) := by decide +kernel
theorem dX4_trueIn_9 : decode cX4_trueIn 9 = .ok (.iload 4, 2) := by decide +kernel
theorem dX4_trueIn_11 : decode cX4_trueIn 11 = .ok (.iload_n 3, 1) := by decide +kernel
theorem dX4_trueIn_12 : decode cX4_trueIn 12 = .ok (.iconst 3, 1) := by decide +kernel
theorem dX4_trueIn_13 : decode cX4_trueIn 13 = .ok (.iadd, 1) := by decide +kernel
theorem dX4_trueIn_14 : decode cX4_trueIn 14 = .ok (.if_icmp .ge 39, 3) := by decide +kernel
theorem dX4_trueIn_17 : decode cX4_trueIn 17 = .ok (.aload_n 0, 1) := by decide +kernel
theorem dX4_trueIn_18 : decode cX4_trueIn 18 = .ok (.getfield 13, 3) := by decide +kernel
theorem dX4_trueIn_21 : decode cX4_trueIn 21 = .ok (.getfield 65, 3) := by decide +kernel
theorem dX4_trueIn_24 : decode cX4_trueIn 24 = .ok (.iload 4, 2) := by decide +kernel
theorem dX4_trueIn_26 : decode cX4_trueIn 26 = .ok (.iaload, 1) := by decide +kernel
theorem dX4_trueIn_27 : decode cX4_trueIn 27 = .ok (.istore 5, 2) := by decide +kernel
theorem dX4_trueIn_29 : decode cX4_trueIn 29 = .ok (.iload 5, 2) := by decide +kernel
theorem dX4_trueIn_31 : decode cX4_trueIn 31 = .ok (.iconst (-1), 1) := by decide +kernel
theorem dX4_trueIn_32 : decode cX4_trueIn 32 = .ok (.if_icmp .eq 15, 3) := by decide +kernel
theorem dX4_trueIn_35 : decode cX4_trueIn 35 = .ok (.aload_n 0, 1) := by decide +kernel
theorem dX4_trueIn_36 : decode cX4_trueIn 36 = .ok (.iload 5, 2) := by decide +kernel
theorem dX4_trueIn_38 : decode cX4_trueIn 38 = .ok (.invokevirtual 68, 3) := by decide +kernel
theorem dX4_trueIn_41 : decode cX4_trueIn 41 = .ok (.ifCond .eq 6, 3) := by decide +kernel
theorem dX4_trueIn_44 : decode cX4_trueIn 44 = .ok (.iinc 2 1, 3) := by decide +kernel
theorem dX4_trueIn_47 : decode cX4_trueIn 47 = .ok (.iinc 4 1, 3) := by decide +kernel
theorem dX4_trueIn_50 : decode cX4_trueIn 50 = .ok (.goto (-41), 3) := by decide +kernel
theorem dX4_trueIn_53 : decode cX4_trueIn 53 = .ok (.iload_n 2, 1) := by decide +kernel
theorem dX4_trueIn_54 : decode cX4_trueIn 54 = .ok (.ireturn, 1) := by decide +kernel
theorem dX4_keepsClauses_0 : decode cX4_keepsClauses 0 = .ok (.iconst 0, 1) := by decide +kernel
theorem dX4_keepsClauses_1 : decode cX4_keepsClauses 1 = .ok (.istore_n 1, 1) := by decide +kernel
theorem dX4_keepsClauses_2 : decode cX4_keepsClauses 2 = .ok (.iload_n 1, 1) := by decide +kernel
theorem dX4_keepsClauses_3 : decode cX4_keepsClauses 3 = .ok (.aload_n 0, 1) := by decide +kernel
theorem dX4_keepsClauses_4 : decode cX4_keepsClauses 4 = .ok (.getfield 13, 3) := by decide +kernel
theorem dX4_keepsClauses_7 : decode cX4_keepsClauses 7 = .ok (.getfield 72, 3) := by decide +kernel
theorem dX4_keepsClauses_10 : decode cX4_keepsClauses 10 = .ok (.if_icmp .ge 19, 3) := by decide +kernel
theorem dX4_keepsClauses_13 : decode cX4_keepsClauses 13 = .ok (.aload_n 0, 1) := by decide +kernel
theorem dX4_keepsClauses_14 : decode cX4_keepsClauses 14 = .ok (.iload_n 1, 1) := by decide +kernel
theorem dX4_keepsClauses_15 : decode cX4_keepsClauses 15 = .ok (.invokevirtual 75, 3) := by decide +kernel
theorem dX4_keepsClauses_18 : decode cX4_keepsClauses 18 = .ok (.ifCond .ne 5, 3) := by decide +kernel
theorem dX4_keepsClauses_21 : decode cX4_keepsClauses 21 = .ok (.iconst 0, 1) := by decide +kernel
theorem dX4_keepsClauses_22 : decode cX4_keepsClauses 22 = .ok (.ireturn, 1) := by decide +kernel
theorem dX4_keepsClauses_23 : decode cX4_keepsClauses 23 = .ok (.iinc 1 1, 3) := by decide +kernel
theorem dX4_keepsClauses_26 : decode cX4_keepsClauses 26 = .ok (.goto (-24), 3) := by decide +kernel
theorem dX4_keepsClauses_29 : decode cX4_keepsClauses 29 = .ok (.iconst 1, 1) := by decide +kernel
theorem dX4_keepsClauses_30 : decode cX4_keepsClauses 30 = .ok (.ireturn, 1) := by decide +kernel
theorem dX4_keepsTerms_0 : decode cX4_keepsTerms 0 = .ok (.iconst 0, 1) := by decide +kernel
theorem dX4_keepsTerms_1 : decode cX4_keepsTerms 1 = .ok (.istore_n 1, 1) := by decide +kernel
theorem dX4_keepsTerms_2 : decode cX4_keepsTerms 2 = .ok (.iload_n 1, 1) := by decide +kernel
theorem dX4_keepsTerms_3 : decode cX4_keepsTerms 3 = .ok (.aload_n 0, 1) := by decide +kernel
theorem dX4_keepsTerms_4 : decode cX4_keepsTerms 4 = .ok (.getfield 7, 3) := by decide +kernel
theorem dX4_keepsTerms_7 : decode cX4_keepsTerms 7 = .ok (.getfield 21, 3) := by decide +kernel
theorem dX4_keepsTerms_10 : decode cX4_keepsTerms 10 = .ok (.if_icmp .ge 134, 3) := by decide +kernel
theorem dX4_keepsTerms_13 : decode cX4_keepsTerms 13 = .ok (.aload_n 0, 1) := by decide +kernel
theorem dX4_keepsTerms_14 : decode cX4_keepsTerms 14 = .ok (.getfield 7, 3) := by decide +kernel
theorem dX4_keepsTerms_17 : decode cX4_keepsTerms 17 = .ok (.getfield 31, 3) := by decide +kernel
theorem dX4_keepsTerms_20 : decode cX4_keepsTerms 20 = .ok (.iload_n 1, 1) := by decide +kernel
theorem dX4_keepsTerms_21 : decode cX4_keepsTerms 21 = .ok (.iaload, 1) := by decide +kernel
theorem dX4_keepsTerms_22 : decode cX4_keepsTerms 22 = .ok (.istore_n 2, 1) := by decide +kernel
theorem dX4_keepsTerms_23 : decode cX4_keepsTerms 23 = .ok (.aload_n 0, 1) := by decide +kernel
theorem dX4_keepsTerms_24 : decode cX4_keepsTerms 24 = .ok (.getfield 7, 3) := by decide +kernel
theorem dX4_keepsTerms_27 : decode cX4_keepsTerms 27 = .ok (.getfield 34, 3) := by decide +kernel
theorem dX4_keepsTerms_30 : decode cX4_keepsTerms 30 = .ok (.iload_n 1, 1) := by decide +kernel
theorem dX4_keepsTerms_31 : decode cX4_keepsTerms 31 = .ok (.iaload, 1) := by decide +kernel
theorem dX4_keepsTerms_32 : decode cX4_keepsTerms 32 = .ok (.istore_n 3, 1) := by decide +kernel
theorem dX4_keepsTerms_33 : decode cX4_keepsTerms 33 = .ok (.aload_n 0, 1) := by decide +kernel
theorem dX4_keepsTerms_34 : decode cX4_keepsTerms 34 = .ok (.getfield 17, 3) := by decide +kernel
theorem dX4_keepsTerms_37 : decode cX4_keepsTerms 37 = .ok (.iload_n 1, 1) := by decide +kernel
theorem dX4_keepsTerms_38 : decode cX4_keepsTerms 38 = .ok (.iaload, 1) := by decide +kernel
theorem dX4_keepsTerms_39 : decode cX4_keepsTerms 39 = .ok (.istore 4, 2) := by decide +kernel
theorem dX4_keepsTerms_41 : decode cX4_keepsTerms 41 = .ok (.aload_n 0, 1) := by decide +kernel
theorem dX4_keepsTerms_42 : decode cX4_keepsTerms 42 = .ok (.getfield 7, 3) := by decide +kernel
theorem dX4_keepsTerms_45 : decode cX4_keepsTerms 45 = .ok (.getfield 41, 3) := by decide +kernel
theorem dX4_keepsTerms_48 : decode cX4_keepsTerms 48 = .ok (.iload_n 1, 1) := by decide +kernel
theorem dX4_keepsTerms_49 : decode cX4_keepsTerms 49 = .ok (.caload, 1) := by decide +kernel
theorem dX4_keepsTerms_50 : decode cX4_keepsTerms 50 = .ok (.bipush 102, 2) := by decide +kernel
theorem dX4_keepsTerms_52 : decode cX4_keepsTerms 52 = .ok (.if_icmp .ne 46, 3) := by decide +kernel
theorem dX4_keepsTerms_55 : decode cX4_keepsTerms 55 = .ok (.iload_n 3, 1) := by decide +kernel
theorem dX4_keepsTerms_56 : decode cX4_keepsTerms 56 = .ok (.iconst (-1), 1) := by decide +kernel
theorem dX4_keepsTerms_57 : decode cX4_keepsTerms 57 = .ok (.if_icmp .ne 7, 3) := by decide +kernel
theorem dX4_keepsTerms_60 : decode cX4_keepsTerms 60 = .ok (.iconst (-1), 1) := by decide +kernel
theorem dX4_keepsTerms_61 : decode cX4_keepsTerms 61 = .ok (.goto 9, 3) := by decide +kernel
theorem dX4_keepsTerms_64 : decode cX4_keepsTerms 64 = .ok (.aload_n 0, 1) := by decide +kernel
theorem dX4_keepsTerms_65 : decode cX4_keepsTerms 65 = .ok (.getfield 17, 3) := by decide +kernel
theorem dX4_keepsTerms_68 : decode cX4_keepsTerms 68 = .ok (.iload_n 3, 1) := by decide +kernel
theorem dX4_keepsTerms_69 : decode cX4_keepsTerms 69 = .ok (.iaload, 1) := by decide +kernel
theorem dX4_keepsTerms_70 : decode cX4_keepsTerms 70 = .ok (.istore 5, 2) := by decide +kernel
theorem dX4_keepsTerms_72 : decode cX4_keepsTerms 72 = .ok (.aload_n 0, 1) := by decide +kernel
theorem dX4_keepsTerms_73 : decode cX4_keepsTerms 73 = .ok (.aload_n 0, 1) := by decide +kernel
theorem dX4_keepsTerms_74 : decode cX4_keepsTerms 74 = .ok (.getfield 7, 3) := by decide +kernel
theorem dX4_keepsTerms_77 : decode cX4_keepsTerms 77 = .ok (.getfield 78, 3) := by decide +kernel
theorem dX4_keepsTerms_80 : decode cX4_keepsTerms 80 = .ok (.iload_n 1, 1) := by decide +kernel
theorem dX4_keepsTerms_81 : decode cX4_keepsTerms 81 = .ok (.iaload, 1) := by decide +kernel
theorem dX4_keepsTerms_82 : decode cX4_keepsTerms 82 = .ok (.aload_n 0, 1) := by decide +kernel
theorem dX4_keepsTerms_83 : decode cX4_keepsTerms 83 = .ok (.getfield 17, 3) := by decide +kernel
theorem dX4_keepsTerms_86 : decode cX4_keepsTerms 86 = .ok (.iload_n 2, 1) := by decide +kernel
theorem dX4_keepsTerms_87 : decode cX4_keepsTerms 87 = .ok (.iaload, 1) := by decide +kernel
theorem dX4_keepsTerms_88 : decode cX4_keepsTerms 88 = .ok (.iload 5, 2) := by decide +kernel
theorem dX4_keepsTerms_90 : decode cX4_keepsTerms 90 = .ok (.invokevirtual 81, 3) := by decide +kernel
theorem dX4_keepsTerms_93 : decode cX4_keepsTerms 93 = .ok (.istore 4, 2) := by decide +kernel
theorem dX4_keepsTerms_95 : decode cX4_keepsTerms 95 = .ok (.goto 30, 3) := by decide +kernel
theorem dX4_keepsTerms_98 : decode cX4_keepsTerms 98 = .ok (.aload_n 0, 1) := by decide +kernel
theorem dX4_keepsTerms_99 : decode cX4_keepsTerms 99 = .ok (.getfield 7, 3) := by decide +kernel
theorem dX4_keepsTerms_102 : decode cX4_keepsTerms 102 = .ok (.getfield 41, 3) := by decide +kernel
theorem dX4_keepsTerms_105 : decode cX4_keepsTerms 105 = .ok (.iload_n 1, 1) := by decide +kernel
theorem dX4_keepsTerms_106 : decode cX4_keepsTerms 106 = .ok (.caload, 1) := by decide +kernel
theorem dX4_keepsTerms_107 : decode cX4_keepsTerms 107 = .ok (.bipush 114, 2) := by decide +kernel
theorem dX4_keepsTerms_109 : decode cX4_keepsTerms 109 = .ok (.if_icmp .ne 16, 3) := by decide +kernel
theorem dX4_keepsTerms_112 : decode cX4_keepsTerms 112 = .ok (.aload_n 0, 1) := by decide +kernel
theorem dX4_keepsTerms_113 : decode cX4_keepsTerms 113 = .ok (.iload_n 2, 1) := by decide +kernel
theorem dX4_keepsTerms_114 : decode cX4_keepsTerms 114 = .ok (.aload_n 0, 1) := by decide +kernel
theorem dX4_keepsTerms_115 : decode cX4_keepsTerms 115 = .ok (.getfield 17, 3) := by decide +kernel
theorem dX4_keepsTerms_118 : decode cX4_keepsTerms 118 = .ok (.iload_n 3, 1) := by decide +kernel
theorem dX4_keepsTerms_119 : decode cX4_keepsTerms 119 = .ok (.iaload, 1) := by decide +kernel
theorem dX4_keepsTerms_120 : decode cX4_keepsTerms 120 = .ok (.invokevirtual 85, 3) := by decide +kernel
theorem dX4_keepsTerms_123 : decode cX4_keepsTerms 123 = .ok (.istore 4, 2) := by decide +kernel
theorem dX4_keepsTerms_125 : decode cX4_keepsTerms 125 = .ok (.iload 4, 2) := by decide +kernel
theorem dX4_keepsTerms_127 : decode cX4_keepsTerms 127 = .ok (.aload_n 0, 1) := by decide +kernel
theorem dX4_keepsTerms_128 : decode cX4_keepsTerms 128 = .ok (.getfield 17, 3) := by decide +kernel
theorem dX4_keepsTerms_131 : decode cX4_keepsTerms 131 = .ok (.iload_n 1, 1) := by decide +kernel
theorem dX4_keepsTerms_132 : decode cX4_keepsTerms 132 = .ok (.iaload, 1) := by decide +kernel
theorem dX4_keepsTerms_133 : decode cX4_keepsTerms 133 = .ok (.if_icmp .eq 5, 3) := by decide +kernel
theorem dX4_keepsTerms_136 : decode cX4_keepsTerms 136 = .ok (.iconst 0, 1) := by decide +kernel
theorem dX4_keepsTerms_137 : decode cX4_keepsTerms 137 = .ok (.ireturn, 1) := by decide +kernel
theorem dX4_keepsTerms_138 : decode cX4_keepsTerms 138 = .ok (.iinc 1 1, 3) := by decide +kernel
theorem dX4_keepsTerms_141 : decode cX4_keepsTerms 141 = .ok (.goto (-139), 3) := by decide +kernel
theorem dX4_keepsTerms_144 : decode cX4_keepsTerms 144 = .ok (.iconst 1, 1) := by decide +kernel
theorem dX4_keepsTerms_145 : decode cX4_keepsTerms 145 = .ok (.ireturn, 1) := by decide +kernel
theorem dX4_keepsRules_0 : decode cX4_keepsRules 0 = .ok (.iconst 0, 1) := by decide +kernel
theorem dX4_keepsRules_1 : decode cX4_keepsRules 1 = .ok (.istore_n 1, 1) := by decide +kernel
theorem dX4_keepsRules_2 : decode cX4_keepsRules 2 = .ok (.iload_n 1, 1) := by decide +kernel
theorem dX4_keepsRules_3 : decode cX4_keepsRules 3 = .ok (.aload_n 0, 1) := by decide +kernel
theorem dX4_keepsRules_4 : decode cX4_keepsRules 4 = .ok (.getfield 13, 3) := by decide +kernel
theorem dX4_keepsRules_7 : decode cX4_keepsRules 7 = .ok (.getfield 88, 3) := by decide +kernel
theorem dX4_keepsRules_10 : decode cX4_keepsRules 10 = .ok (.if_icmp .ge 36, 3) := by decide +kernel
theorem dX4_keepsRules_13 : decode cX4_keepsRules 13 = .ok (.aload_n 0, 1) := by decide +kernel
theorem dX4_keepsRules_14 : decode cX4_keepsRules 14 = .ok (.aload_n 0, 1) := by decide +kernel
theorem dX4_keepsRules_15 : decode cX4_keepsRules 15 = .ok (.getfield 13, 3) := by decide +kernel
theorem dX4_keepsRules_18 : decode cX4_keepsRules 18 = .ok (.getfield 91, 3) := by decide +kernel
theorem dX4_keepsRules_21 : decode cX4_keepsRules 21 = .ok (.iload_n 1, 1) := by decide +kernel
theorem dX4_keepsRules_22 : decode cX4_keepsRules 22 = .ok (.caload, 1) := by decide +kernel
theorem dX4_keepsRules_23 : decode cX4_keepsRules 23 = .ok (.aload_n 0, 1) := by decide +kernel
theorem dX4_keepsRules_24 : decode cX4_keepsRules 24 = .ok (.getfield 13, 3) := by decide +kernel
theorem dX4_keepsRules_27 : decode cX4_keepsRules 27 = .ok (.getfield 94, 3) := by decide +kernel
theorem dX4_keepsRules_30 : decode cX4_keepsRules 30 = .ok (.iload_n 1, 1) := by decide +kernel
theorem dX4_keepsRules_31 : decode cX4_keepsRules 31 = .ok (.iaload, 1) := by decide +kernel
theorem dX4_keepsRules_32 : decode cX4_keepsRules 32 = .ok (.invokevirtual 97, 3) := by decide +kernel
theorem dX4_keepsRules_35 : decode cX4_keepsRules 35 = .ok (.ifCond .ne 5, 3) := by decide +kernel
theorem dX4_keepsRules_38 : decode cX4_keepsRules 38 = .ok (.iconst 0, 1) := by decide +kernel
theorem dX4_keepsRules_39 : decode cX4_keepsRules 39 = .ok (.ireturn, 1) := by decide +kernel
theorem dX4_keepsRules_40 : decode cX4_keepsRules 40 = .ok (.iinc 1 1, 3) := by decide +kernel
theorem dX4_keepsRules_43 : decode cX4_keepsRules 43 = .ok (.goto (-41), 3) := by decide +kernel
theorem dX4_keepsRules_46 : decode cX4_keepsRules 46 = .ok (.iconst 1, 1) := by decide +kernel
theorem dX4_keepsRules_47 : decode cX4_keepsRules 47 = .ok (.ireturn, 1) := by decide +kernel
theorem dX4_keepsRule_0 : decode cX4_keepsRule 0 = .ok (.iconst 0, 1) := by decide +kernel
theorem dX4_keepsRule_1 : decode cX4_keepsRule 1 = .ok (.istore_n 3, 1) := by decide +kernel
theorem dX4_keepsRule_2 : decode cX4_keepsRule 2 = .ok (.iload_n 3, 1) := by decide +kernel
theorem dX4_keepsRule_3 : decode cX4_keepsRule 3 = .ok (.aload_n 0, 1) := by decide +kernel
theorem dX4_keepsRule_4 : decode cX4_keepsRule 4 = .ok (.getfield 7, 3) := by decide +kernel
theorem dX4_keepsRule_7 : decode cX4_keepsRule 7 = .ok (.getfield 21, 3) := by decide +kernel
theorem dX4_keepsRule_10 : decode cX4_keepsRule 10 = .ok (.if_icmp .ge 87, 3) := by decide +kernel
theorem dX4_keepsRule_13 : decode cX4_keepsRule 13 = .ok (.aload_n 0, 1) := by decide +kernel
theorem dX4_keepsRule_14 : decode cX4_keepsRule 14 = .ok (.getfield 7, 3) := by decide +kernel
theorem dX4_keepsRule_17 : decode cX4_keepsRule 17 = .ok (.iload_n 3, 1) := by decide +kernel
theorem dX4_keepsRule_18 : decode cX4_keepsRule 18 = .ok (.iload_n 2, 1) := by decide +kernel
theorem dX4_keepsRule_19 : decode cX4_keepsRule 19 = .ok (.invokevirtual 27, 3) := by decide +kernel
theorem dX4_keepsRule_22 : decode cX4_keepsRule 22 = .ok (.ifCond .ne 6, 3) := by decide +kernel
theorem dX4_keepsRule_25 : decode cX4_keepsRule 25 = .ok (.goto 66, 3) := by decide +kernel
theorem dX4_keepsRule_28 : decode cX4_keepsRule 28 = .ok (.iload_n 1, 1) := by decide +kernel
theorem dX4_keepsRule_29 : decode cX4_keepsRule 29 = .ok (.bipush 115, 2) := by decide +kernel
theorem dX4_keepsRule_31 : decode cX4_keepsRule 31 = .ok (.if_icmp .ne 13, 3) := by decide +kernel
theorem dX4_keepsRule_34 : decode cX4_keepsRule 34 = .ok (.aload_n 0, 1) := by decide +kernel
theorem dX4_keepsRule_35 : decode cX4_keepsRule 35 = .ok (.iload_n 3, 1) := by decide +kernel
theorem dX4_keepsRule_36 : decode cX4_keepsRule 36 = .ok (.invokevirtual 101, 3) := by decide +kernel
theorem dX4_keepsRule_39 : decode cX4_keepsRule 39 = .ok (.ifCond .ne 5, 3) := by decide +kernel
theorem dX4_keepsRule_42 : decode cX4_keepsRule 42 = .ok (.iconst 0, 1) := by decide +kernel
theorem dX4_keepsRule_43 : decode cX4_keepsRule 43 = .ok (.ireturn, 1) := by decide +kernel
theorem dX4_keepsRule_44 : decode cX4_keepsRule 44 = .ok (.iconst 0, 1) := by decide +kernel
theorem dX4_keepsRule_45 : decode cX4_keepsRule 45 = .ok (.istore 4, 2) := by decide +kernel
theorem dX4_keepsRule_47 : decode cX4_keepsRule 47 = .ok (.iload 4, 2) := by decide +kernel
theorem dX4_keepsRule_49 : decode cX4_keepsRule 49 = .ok (.aload_n 0, 1) := by decide +kernel
theorem dX4_keepsRule_50 : decode cX4_keepsRule 50 = .ok (.getfield 7, 3) := by decide +kernel
theorem dX4_keepsRule_53 : decode cX4_keepsRule 53 = .ok (.getfield 21, 3) := by decide +kernel
theorem dX4_keepsRule_56 : decode cX4_keepsRule 56 = .ok (.if_icmp .ge 35, 3) := by decide +kernel
theorem dX4_keepsRule_59 : decode cX4_keepsRule 59 = .ok (.aload_n 0, 1) := by decide +kernel
theorem dX4_keepsRule_60 : decode cX4_keepsRule 60 = .ok (.getfield 7, 3) := by decide +kernel
theorem dX4_keepsRule_63 : decode cX4_keepsRule 63 = .ok (.iload 4, 2) := by decide +kernel
theorem dX4_keepsRule_65 : decode cX4_keepsRule 65 = .ok (.iload_n 2, 1) := by decide +kernel
theorem dX4_keepsRule_66 : decode cX4_keepsRule 66 = .ok (.invokevirtual 27, 3) := by decide +kernel
theorem dX4_keepsRule_69 : decode cX4_keepsRule 69 = .ok (.ifCond .eq 16, 3) := by decide +kernel
theorem dX4_keepsRule_72 : decode cX4_keepsRule 72 = .ok (.aload_n 0, 1) := by decide +kernel
theorem dX4_keepsRule_73 : decode cX4_keepsRule 73 = .ok (.iload_n 1, 1) := by decide +kernel
theorem dX4_keepsRule_74 : decode cX4_keepsRule 74 = .ok (.iload_n 3, 1) := by decide +kernel
theorem dX4_keepsRule_75 : decode cX4_keepsRule 75 = .ok (.iload 4, 2) := by decide +kernel
theorem dX4_keepsRule_77 : decode cX4_keepsRule 77 = .ok (.invokevirtual 104, 3) := by decide +kernel
theorem dX4_keepsRule_80 : decode cX4_keepsRule 80 = .ok (.ifCond .ne 5, 3) := by decide +kernel
theorem dX4_keepsRule_83 : decode cX4_keepsRule 83 = .ok (.iconst 0, 1) := by decide +kernel
theorem dX4_keepsRule_84 : decode cX4_keepsRule 84 = .ok (.ireturn, 1) := by decide +kernel
theorem dX4_keepsRule_85 : decode cX4_keepsRule 85 = .ok (.iinc 4 1, 3) := by decide +kernel
theorem dX4_keepsRule_88 : decode cX4_keepsRule 88 = .ok (.goto (-41), 3) := by decide +kernel
theorem dX4_keepsRule_91 : decode cX4_keepsRule 91 = .ok (.iinc 3 1, 3) := by decide +kernel
theorem dX4_keepsRule_94 : decode cX4_keepsRule 94 = .ok (.goto (-92), 3) := by decide +kernel
theorem dX4_keepsRule_97 : decode cX4_keepsRule 97 = .ok (.iconst 1, 1) := by decide +kernel
theorem dX4_keepsRule_98 : decode cX4_keepsRule 98 = .ok (.ireturn, 1) := by decide +kernel
theorem dX4_isUndone_0 : decode cX4_isUndone 0 = .ok (.aload_n 0, 1) := by decide +kernel
theorem dX4_isUndone_1 : decode cX4_isUndone 1 = .ok (.getfield 7, 3) := by decide +kernel
theorem dX4_isUndone_4 : decode cX4_isUndone 4 = .ok (.getfield 31, 3) := by decide +kernel
theorem dX4_isUndone_7 : decode cX4_isUndone 7 = .ok (.iload_n 1, 1) := by decide +kernel
theorem dX4_isUndone_8 : decode cX4_isUndone 8 = .ok (.iaload, 1) := by decide +kernel
theorem dX4_isUndone_9 : decode cX4_isUndone 9 = .ok (.istore_n 2, 1) := by decide +kernel
theorem dX4_isUndone_10 : decode cX4_isUndone 10 = .ok (.aload_n 0, 1) := by decide +kernel
theorem dX4_isUndone_11 : decode cX4_isUndone 11 = .ok (.getfield 7, 3) := by decide +kernel
theorem dX4_isUndone_14 : decode cX4_isUndone 14 = .ok (.iload_n 2, 1) := by decide +kernel
theorem dX4_isUndone_15 : decode cX4_isUndone 15 = .ok (.aload_n 0, 1) := by decide +kernel
theorem dX4_isUndone_16 : decode cX4_isUndone 16 = .ok (.getfield 7, 3) := by decide +kernel
theorem dX4_isUndone_19 : decode cX4_isUndone 19 = .ok (.getfield 78, 3) := by decide +kernel
theorem dX4_isUndone_22 : decode cX4_isUndone 22 = .ok (.iload_n 1, 1) := by decide +kernel
theorem dX4_isUndone_23 : decode cX4_isUndone 23 = .ok (.iaload, 1) := by decide +kernel
theorem dX4_isUndone_24 : decode cX4_isUndone 24 = .ok (.invokevirtual 27, 3) := by decide +kernel
theorem dX4_isUndone_27 : decode cX4_isUndone 27 = .ok (.ifCond .ne 5, 3) := by decide +kernel
theorem dX4_isUndone_30 : decode cX4_isUndone 30 = .ok (.iconst 1, 1) := by decide +kernel
theorem dX4_isUndone_31 : decode cX4_isUndone 31 = .ok (.ireturn, 1) := by decide +kernel
theorem dX4_isUndone_32 : decode cX4_isUndone 32 = .ok (.aload_n 0, 1) := by decide +kernel
theorem dX4_isUndone_33 : decode cX4_isUndone 33 = .ok (.getfield 17, 3) := by decide +kernel
theorem dX4_isUndone_36 : decode cX4_isUndone 36 = .ok (.iload_n 1, 1) := by decide +kernel
theorem dX4_isUndone_37 : decode cX4_isUndone 37 = .ok (.iaload, 1) := by decide +kernel
theorem dX4_isUndone_38 : decode cX4_isUndone 38 = .ok (.aload_n 0, 1) := by decide +kernel
theorem dX4_isUndone_39 : decode cX4_isUndone 39 = .ok (.getfield 17, 3) := by decide +kernel
theorem dX4_isUndone_42 : decode cX4_isUndone 42 = .ok (.aload_n 0, 1) := by decide +kernel
theorem dX4_isUndone_43 : decode cX4_isUndone 43 = .ok (.getfield 7, 3) := by decide +kernel
theorem dX4_isUndone_46 : decode cX4_isUndone 46 = .ok (.getfield 31, 3) := by decide +kernel
theorem dX4_isUndone_49 : decode cX4_isUndone 49 = .ok (.iload_n 2, 1) := by decide +kernel
theorem dX4_isUndone_50 : decode cX4_isUndone 50 = .ok (.iaload, 1) := by decide +kernel
theorem dX4_isUndone_51 : decode cX4_isUndone 51 = .ok (.iaload, 1) := by decide +kernel
theorem dX4_isUndone_52 : decode cX4_isUndone 52 = .ok (.if_icmp .ne 7, 3) := by decide +kernel
theorem dX4_isUndone_55 : decode cX4_isUndone 55 = .ok (.iconst 1, 1) := by decide +kernel
theorem dX4_isUndone_56 : decode cX4_isUndone 56 = .ok (.goto 4, 3) := by decide +kernel
theorem dX4_isUndone_59 : decode cX4_isUndone 59 = .ok (.iconst 0, 1) := by decide +kernel
theorem dX4_isUndone_60 : decode cX4_isUndone 60 = .ok (.ireturn, 1) := by decide +kernel
theorem dX4_keepsFor_0 : decode cX4_keepsFor 0 = .ok (.aload_n 0, 1) := by decide +kernel
theorem dX4_keepsFor_1 : decode cX4_keepsFor 1 = .ok (.getfield 17, 3) := by decide +kernel
theorem dX4_keepsFor_4 : decode cX4_keepsFor 4 = .ok (.aload_n 0, 1) := by decide +kernel
theorem dX4_keepsFor_5 : decode cX4_keepsFor 5 = .ok (.getfield 7, 3) := by decide +kernel
theorem dX4_keepsFor_8 : decode cX4_keepsFor 8 = .ok (.getfield 31, 3) := by decide +kernel
theorem dX4_keepsFor_11 : decode cX4_keepsFor 11 = .ok (.iload_n 2, 1) := by decide +kernel
theorem dX4_keepsFor_12 : decode cX4_keepsFor 12 = .ok (.iaload, 1) := by decide +kernel
theorem dX4_keepsFor_13 : decode cX4_keepsFor 13 = .ok (.iaload, 1) := by decide +kernel
theorem dX4_keepsFor_14 : decode cX4_keepsFor 14 = .ok (.istore 4, 2) := by decide +kernel
theorem dX4_keepsFor_16 : decode cX4_keepsFor 16 = .ok (.aload_n 0, 1) := by decide +kernel
theorem dX4_keepsFor_17 : decode cX4_keepsFor 17 = .ok (.getfield 17, 3) := by decide +kernel
theorem dX4_keepsFor_20 : decode cX4_keepsFor 20 = .ok (.aload_n 0, 1) := by decide +kernel
theorem dX4_keepsFor_21 : decode cX4_keepsFor 21 = .ok (.getfield 7, 3) := by decide +kernel
theorem dX4_keepsFor_24 : decode cX4_keepsFor 24 = .ok (.getfield 31, 3) := by decide +kernel
theorem dX4_keepsFor_27 : decode cX4_keepsFor 27 = .ok (.iload_n 3, 1) := by decide +kernel
theorem dX4_keepsFor_28 : decode cX4_keepsFor 28 = .ok (.iaload, 1) := by decide +kernel
theorem dX4_keepsFor_29 : decode cX4_keepsFor 29 = .ok (.iaload, 1) := by decide +kernel
theorem dX4_keepsFor_30 : decode cX4_keepsFor 30 = .ok (.istore 5, 2) := by decide +kernel
theorem dX4_keepsFor_32 : decode cX4_keepsFor 32 = .ok (.iload_n 1, 1) := by decide +kernel
theorem dX4_keepsFor_33 : decode cX4_keepsFor 33 = .ok (.bipush 105, 2) := by decide +kernel
theorem dX4_keepsFor_35 : decode cX4_keepsFor 35 = .ok (.if_icmp .ne 31, 3) := by decide +kernel
theorem dX4_keepsFor_38 : decode cX4_keepsFor 38 = .ok (.iload 4, 2) := by decide +kernel
theorem dX4_keepsFor_40 : decode cX4_keepsFor 40 = .ok (.iload 5, 2) := by decide +kernel
theorem dX4_keepsFor_42 : decode cX4_keepsFor 42 = .ok (.if_icmp .eq 18, 3) := by decide +kernel
theorem dX4_keepsFor_45 : decode cX4_keepsFor 45 = .ok (.aload_n 0, 1) := by decide +kernel
theorem dX4_keepsFor_46 : decode cX4_keepsFor 46 = .ok (.getfield 17, 3) := by decide +kernel
theorem dX4_keepsFor_49 : decode cX4_keepsFor 49 = .ok (.iload_n 2, 1) := by decide +kernel
theorem dX4_keepsFor_50 : decode cX4_keepsFor 50 = .ok (.iaload, 1) := by decide +kernel
theorem dX4_keepsFor_51 : decode cX4_keepsFor 51 = .ok (.aload_n 0, 1) := by decide +kernel
theorem dX4_keepsFor_52 : decode cX4_keepsFor 52 = .ok (.getfield 17, 3) := by decide +kernel
theorem dX4_keepsFor_55 : decode cX4_keepsFor 55 = .ok (.iload_n 3, 1) := by decide +kernel
theorem dX4_keepsFor_56 : decode cX4_keepsFor 56 = .ok (.iaload, 1) := by decide +kernel
theorem dX4_keepsFor_57 : decode cX4_keepsFor 57 = .ok (.if_icmp .eq 7, 3) := by decide +kernel
theorem dX4_keepsFor_60 : decode cX4_keepsFor 60 = .ok (.iconst 1, 1) := by decide +kernel
theorem dX4_keepsFor_61 : decode cX4_keepsFor 61 = .ok (.goto 4, 3) := by decide +kernel
theorem dX4_keepsFor_64 : decode cX4_keepsFor 64 = .ok (.iconst 0, 1) := by decide +kernel
theorem dX4_keepsFor_65 : decode cX4_keepsFor 65 = .ok (.ireturn, 1) := by decide +kernel
theorem dX4_keepsFor_66 : decode cX4_keepsFor 66 = .ok (.iload_n 1, 1) := by decide +kernel
theorem dX4_keepsFor_67 : decode cX4_keepsFor 67 = .ok (.bipush 109, 2) := by decide +kernel
theorem dX4_keepsFor_69 : decode cX4_keepsFor 69 = .ok (.if_icmp .ne 31, 3) := by decide +kernel
theorem dX4_keepsFor_72 : decode cX4_keepsFor 72 = .ok (.iload 4, 2) := by decide +kernel
theorem dX4_keepsFor_74 : decode cX4_keepsFor 74 = .ok (.iload 5, 2) := by decide +kernel
theorem dX4_keepsFor_76 : decode cX4_keepsFor 76 = .ok (.if_icmp .ge 18, 3) := by decide +kernel
theorem dX4_keepsFor_79 : decode cX4_keepsFor 79 = .ok (.aload_n 0, 1) := by decide +kernel
theorem dX4_keepsFor_80 : decode cX4_keepsFor 80 = .ok (.getfield 17, 3) := by decide +kernel
theorem dX4_keepsFor_83 : decode cX4_keepsFor 83 = .ok (.iload_n 2, 1) := by decide +kernel
theorem dX4_keepsFor_84 : decode cX4_keepsFor 84 = .ok (.iaload, 1) := by decide +kernel
theorem dX4_keepsFor_85 : decode cX4_keepsFor 85 = .ok (.aload_n 0, 1) := by decide +kernel
theorem dX4_keepsFor_86 : decode cX4_keepsFor 86 = .ok (.getfield 17, 3) := by decide +kernel
theorem dX4_keepsFor_89 : decode cX4_keepsFor 89 = .ok (.iload_n 3, 1) := by decide +kernel
theorem dX4_keepsFor_90 : decode cX4_keepsFor 90 = .ok (.iaload, 1) := by decide +kernel
theorem dX4_keepsFor_91 : decode cX4_keepsFor 91 = .ok (.if_icmp .gt 7, 3) := by decide +kernel
theorem dX4_keepsFor_94 : decode cX4_keepsFor 94 = .ok (.iconst 1, 1) := by decide +kernel
theorem dX4_keepsFor_95 : decode cX4_keepsFor 95 = .ok (.goto 4, 3) := by decide +kernel
theorem dX4_keepsFor_98 : decode cX4_keepsFor 98 = .ok (.iconst 0, 1) := by decide +kernel
theorem dX4_keepsFor_99 : decode cX4_keepsFor 99 = .ok (.ireturn, 1) := by decide +kernel
theorem dX4_keepsFor_100 : decode cX4_keepsFor 100 = .ok (.iload_n 1, 1) := by decide +kernel
theorem dX4_keepsFor_101 : decode cX4_keepsFor 101 = .ok (.bipush 99, 2) := by decide +kernel
theorem dX4_keepsFor_103 : decode cX4_keepsFor 103 = .ok (.if_icmp .eq 5, 3) := by decide +kernel
theorem dX4_keepsFor_106 : decode cX4_keepsFor 106 = .ok (.iconst 1, 1) := by decide +kernel
theorem dX4_keepsFor_107 : decode cX4_keepsFor 107 = .ok (.ireturn, 1) := by decide +kernel
theorem dX4_keepsFor_108 : decode cX4_keepsFor 108 = .ok (.iload 4, 2) := by decide +kernel
theorem dX4_keepsFor_110 : decode cX4_keepsFor 110 = .ok (.aload_n 0, 1) := by decide +kernel
theorem dX4_keepsFor_111 : decode cX4_keepsFor 111 = .ok (.getfield 17, 3) := by decide +kernel
theorem dX4_keepsFor_114 : decode cX4_keepsFor 114 = .ok (.aload_n 0, 1) := by decide +kernel
theorem dX4_keepsFor_115 : decode cX4_keepsFor 115 = .ok (.getfield 7, 3) := by decide +kernel
theorem dX4_keepsFor_118 : decode cX4_keepsFor 118 = .ok (.getfield 34, 3) := by decide +kernel
theorem dX4_keepsFor_121 : decode cX4_keepsFor 121 = .ok (.iload_n 3, 1) := by decide +kernel
theorem dX4_keepsFor_122 : decode cX4_keepsFor 122 = .ok (.iaload, 1) := by decide +kernel
theorem dX4_keepsFor_123 : decode cX4_keepsFor 123 = .ok (.iaload, 1) := by decide +kernel
theorem dX4_keepsFor_124 : decode cX4_keepsFor 124 = .ok (.if_icmp .ne 26, 3) := by decide +kernel
theorem dX4_keepsFor_127 : decode cX4_keepsFor 127 = .ok (.aload_n 0, 1) := by decide +kernel
theorem dX4_keepsFor_128 : decode cX4_keepsFor 128 = .ok (.getfield 17, 3) := by decide +kernel
theorem dX4_keepsFor_131 : decode cX4_keepsFor 131 = .ok (.aload_n 0, 1) := by decide +kernel
theorem dX4_keepsFor_132 : decode cX4_keepsFor 132 = .ok (.getfield 7, 3) := by decide +kernel
theorem dX4_keepsFor_135 : decode cX4_keepsFor 135 = .ok (.getfield 34, 3) := by decide +kernel
theorem dX4_keepsFor_138 : decode cX4_keepsFor 138 = .ok (.iload_n 2, 1) := by decide +kernel
theorem dX4_keepsFor_139 : decode cX4_keepsFor 139 = .ok (.iaload, 1) := by decide +kernel
theorem dX4_keepsFor_140 : decode cX4_keepsFor 140 = .ok (.iaload, 1) := by decide +kernel
theorem dX4_keepsFor_141 : decode cX4_keepsFor 141 = .ok (.iload 5, 2) := by decide +kernel
theorem dX4_keepsFor_143 : decode cX4_keepsFor 143 = .ok (.if_icmp .ne 7, 3) := by decide +kernel
theorem dX4_keepsFor_146 : decode cX4_keepsFor 146 = .ok (.iconst 1, 1) := by decide +kernel
theorem dX4_keepsFor_147 : decode cX4_keepsFor 147 = .ok (.goto 4, 3) := by decide +kernel
theorem dX4_keepsFor_150 : decode cX4_keepsFor 150 = .ok (.iconst 0, 1) := by decide +kernel
theorem dX4_keepsFor_151 : decode cX4_keepsFor 151 = .ok (.istore 6, 2) := by decide +kernel
theorem dX4_keepsFor_153 : decode cX4_keepsFor 153 = .ok (.iload 6, 2) := by decide +kernel
theorem dX4_keepsFor_155 : decode cX4_keepsFor 155 = .ok (.ifCond .eq 18, 3) := by decide +kernel
theorem dX4_keepsFor_158 : decode cX4_keepsFor 158 = .ok (.aload_n 0, 1) := by decide +kernel
theorem dX4_keepsFor_159 : decode cX4_keepsFor 159 = .ok (.getfield 17, 3) := by decide +kernel
theorem dX4_keepsFor_162 : decode cX4_keepsFor 162 = .ok (.iload_n 2, 1) := by decide +kernel
theorem dX4_keepsFor_163 : decode cX4_keepsFor 163 = .ok (.iaload, 1) := by decide +kernel
theorem dX4_keepsFor_164 : decode cX4_keepsFor 164 = .ok (.aload_n 0, 1) := by decide +kernel
theorem dX4_keepsFor_165 : decode cX4_keepsFor 165 = .ok (.getfield 17, 3) := by decide +kernel
theorem dX4_keepsFor_168 : decode cX4_keepsFor 168 = .ok (.iload_n 3, 1) := by decide +kernel
theorem dX4_keepsFor_169 : decode cX4_keepsFor 169 = .ok (.iaload, 1) := by decide +kernel
theorem dX4_keepsFor_170 : decode cX4_keepsFor 170 = .ok (.if_icmp .ne 7, 3) := by decide +kernel
theorem dX4_keepsFor_173 : decode cX4_keepsFor 173 = .ok (.iconst 1, 1) := by decide +kernel
theorem dX4_keepsFor_174 : decode cX4_keepsFor 174 = .ok (.goto 4, 3) := by decide +kernel
theorem dX4_keepsFor_177 : decode cX4_keepsFor 177 = .ok (.iconst 0, 1) := by decide +kernel
theorem dX4_keepsFor_178 : decode cX4_keepsFor 178 = .ok (.ireturn, 1) := by decide +kernel
theorem dX0_init_0 : decode cX0_init 0 = .ok (.aload_n 0, 1) := by decide +kernel
theorem dX0_init_1 : decode cX0_init 1 = .ok (.invokespecial 1, 3) := by decide +kernel
theorem dX0_init_4 : decode cX0_init 4 = .ok (.aload_n 0, 1) := by decide +kernel
theorem dX0_init_5 : decode cX0_init 5 = .ok (.bipush 14, 2) := by decide +kernel
theorem dX0_init_7 : decode cX0_init 7 = .ok (.newarray .int, 2) := by decide +kernel
theorem dX0_init_9 : decode cX0_init 9 = .ok (.putfield 9, 3) := by decide +kernel
theorem dX0_init_12 : decode cX0_init 12 = .ok (.aload_n 0, 1) := by decide +kernel
theorem dX0_init_13 : decode cX0_init 13 = .ok (.bipush 14, 2) := by decide +kernel
theorem dX0_init_15 : decode cX0_init 15 = .ok (.newarray .int, 2) := by decide +kernel
theorem dX0_init_17 : decode cX0_init 17 = .ok (.putfield 15, 3) := by decide +kernel
theorem dX0_init_20 : decode cX0_init 20 = .ok (.aload_n 0, 1) := by decide +kernel
theorem dX0_init_21 : decode cX0_init 21 = .ok (.bipush 14, 2) := by decide +kernel
theorem dX0_init_23 : decode cX0_init 23 = .ok (.newarray .int, 2) := by decide +kernel
theorem dX0_init_25 : decode cX0_init 25 = .ok (.putfield 18, 3) := by decide +kernel
theorem dX0_init_28 : decode cX0_init 28 = .ok (.aload_n 0, 1) := by decide +kernel
theorem dX0_init_29 : decode cX0_init 29 = .ok (.bipush 49, 2) := by decide +kernel
theorem dX0_init_31 : decode cX0_init 31 = .ok (.newarray .int, 2) := by decide +kernel
theorem dX0_init_33 : decode cX0_init 33 = .ok (.putfield 23, 3) := by decide +kernel
theorem dX0_init_36 : decode cX0_init 36 = .ok (.aload_n 0, 1) := by decide +kernel
theorem dX0_init_37 : decode cX0_init 37 = .ok (.aload_n 1, 1) := by decide +kernel
theorem dX0_init_38 : decode cX0_init 38 = .ok (.putfield 26, 3) := by decide +kernel
theorem dX0_init_41 : decode cX0_init 41 = .ok (.aload_n 0, 1) := by decide +kernel
theorem dX0_init_42 : decode cX0_init 42 = .ok (.aload_n 2, 1) := by decide +kernel
theorem dX0_init_43 : decode cX0_init 43 = .ok (.putfield 30, 3) := by decide +kernel
theorem dX0_init_46 : decode cX0_init 46 = .ok (.aload_n 0, 1) := by decide +kernel
theorem dX0_init_47 : decode cX0_init 47 = .ok (.new 34, 3) := by decide +kernel
theorem dX0_init_50 : decode cX0_init 50 = .ok (.dup, 1) := by decide +kernel
theorem dX0_init_51 : decode cX0_init 51 = .ok (.aload_n 1, 1) := by decide +kernel
theorem dX0_init_52 : decode cX0_init 52 = .ok (.aload_n 2, 1) := by decide +kernel
theorem dX0_init_53 : decode cX0_init 53 = .ok (.invokespecial 36, 3) := by decide +kernel
theorem dX0_init_56 : decode cX0_init 56 = .ok (.putfield 39, 3) := by decide +kernel
theorem dX0_init_59 : decode cX0_init 59 = .ok (.aload_n 0, 1) := by decide +kernel
theorem dX0_init_60 : decode cX0_init 60 = .ok (.new 43, 3) := by decide +kernel
theorem dX0_init_63 : decode cX0_init 63 = .ok (.dup, 1) := by decide +kernel
theorem dX0_init_64 : decode cX0_init 64 = .ok (.aload_n 1, 1) := by decide +kernel
theorem dX0_init_65 : decode cX0_init 65 = .ok (.aload_n 0, 1) := by decide +kernel
theorem dX0_init_66 : decode cX0_init 66 = .ok (.getfield 39, 3) := by decide +kernel
theorem dX0_init_69 : decode cX0_init 69 = .ok (.invokespecial 45, 3) := by decide +kernel
theorem dX0_init_72 : decode cX0_init 72 = .ok (.putfield 48, 3) := by decide +kernel
theorem dX0_init_75 : decode cX0_init 75 = .ok (.return_, 1) := by decide +kernel
theorem dX0_forget_0 : decode cX0_forget 0 = .ok (.aload_n 0, 1) := by decide +kernel
theorem dX0_forget_1 : decode cX0_forget 1 = .ok (.iconst 0, 1) := by decide +kernel
theorem dX0_forget_2 : decode cX0_forget 2 = .ok (.putfield 52, 3) := by decide +kernel
theorem dX0_forget_5 : decode cX0_forget 5 = .ok (.aload_n 0, 1) := by decide +kernel
theorem dX0_forget_6 : decode cX0_forget 6 = .ok (.iconst 0, 1) := by decide +kernel
theorem dX0_forget_7 : decode cX0_forget 7 = .ok (.putfield 56, 3) := by decide +kernel
theorem dX0_forget_10 : decode cX0_forget 10 = .ok (.aload_n 0, 1) := by decide +kernel
theorem dX0_forget_11 : decode cX0_forget 11 = .ok (.iconst 0, 1) := by decide +kernel
theorem dX0_forget_12 : decode cX0_forget 12 = .ok (.putfield 59, 3) := by decide +kernel
theorem dX0_forget_15 : decode cX0_forget 15 = .ok (.return_, 1) := by decide +kernel
theorem dX0_findInterpretation_0 : decode cX0_findInterpretation 0 = .ok (.aload_n 0, 1) := by decide +kernel
theorem dX0_findInterpretation_1 : decode cX0_findInterpretation 1 = .ok (.getfield 52, 3) := by decide +kernel
theorem dX0_findInterpretation_4 : decode cX0_findInterpretation 4 = .ok (.ifCond .ne 53, 3) := by decide +kernel
theorem dX0_findInterpretation_7 : decode cX0_findInterpretation 7 = .ok (.aload_n 0, 1) := by decide +kernel
theorem dX0_findInterpretation_8 : decode cX0_findInterpretation 8 = .ok (.getfield 23, 3) := by decide +kernel
theorem dX0_findInterpretation_11 : decode cX0_findInterpretation 11 = .ok (.iconst (-1), 1) := by decide +kernel
theorem dX0_findInterpretation_12 : decode cX0_findInterpretation 12 = .ok (.invokestatic 62, 3) := by decide +kernel
theorem dX0_findInterpretation_15 : decode cX0_findInterpretation 15 = .ok (.aload_n 0, 1) := by decide +kernel
theorem dX0_findInterpretation_16 : decode cX0_findInterpretation 16 = .ok (.getfield 39, 3) := by decide +kernel
theorem dX0_findInterpretation_19 : decode cX0_findInterpretation 19 = .ok (.invokevirtual 68, 3) := by decide +kernel
theorem dX0_findInterpretation_22 : decode cX0_findInterpretation 22 = .ok (.aload_n 0, 1) := by decide +kernel
theorem dX0_findInterpretation_23 : decode cX0_findInterpretation 23 = .ok (.aload_n 0, 1) := by decide +kernel
theorem dX0_findInterpretation_24 : decode cX0_findInterpretation 24 = .ok (.getfield 48, 3) := by decide +kernel
theorem dX0_findInterpretation_27 : decode cX0_findInterpretation 27 = .ok (.aload_n 0, 1) := by decide +kernel
theorem dX0_findInterpretation_28 : decode cX0_findInterpretation 28 = .ok (.getfield 30, 3) := by decide +kernel
theorem dX0_findInterpretation_31 : decode cX0_findInterpretation 31 = .ok (.invokevirtual 71, 3) := by decide +kernel
theorem dX0_findInterpretation_34 : decode cX0_findInterpretation 34 = .ok (.iconst (-1), 1) := by decide +kernel
theorem dX0_findInterpretation_35 : decode cX0_findInterpretation 35 = .ok (.invokevirtual 77, 3) := by decide +kernel
theorem dX0_findInterpretation_38 : decode cX0_findInterpretation 38 = .ok (.putfield 81, 3) := by decide +kernel
theorem dX0_findInterpretation_41 : decode cX0_findInterpretation 41 = .ok (.aload_n 0, 1) := by decide +kernel
theorem dX0_findInterpretation_42 : decode cX0_findInterpretation 42 = .ok (.getfield 81, 3) := by decide +kernel
theorem dX0_findInterpretation_45 : decode cX0_findInterpretation 45 = .ok (.ifCond .eq 7, 3) := by decide +kernel
theorem dX0_findInterpretation_48 : decode cX0_findInterpretation 48 = .ok (.aload_n 0, 1) := by decide +kernel
theorem dX0_findInterpretation_49 : decode cX0_findInterpretation 49 = .ok (.invokevirtual 84, 3) := by decide +kernel
theorem dX0_findInterpretation_52 : decode cX0_findInterpretation 52 = .ok (.aload_n 0, 1) := by decide +kernel
theorem dX0_findInterpretation_53 : decode cX0_findInterpretation 53 = .ok (.iconst 1, 1) := by decide +kernel
theorem dX0_findInterpretation_54 : decode cX0_findInterpretation 54 = .ok (.putfield 52, 3) := by decide +kernel
theorem dX0_findInterpretation_57 : decode cX0_findInterpretation 57 = .ok (.aload_n 0, 1) := by decide +kernel
theorem dX0_findInterpretation_58 : decode cX0_findInterpretation 58 = .ok (.getfield 81, 3) := by decide +kernel
theorem dX0_findInterpretation_61 : decode cX0_findInterpretation 61 = .ok (.ireturn, 1) := by decide +kernel
theorem dX0_findModel_0 : decode cX0_findModel 0 = .ok (.aload_n 0, 1) := by decide +kernel
theorem dX0_findModel_1 : decode cX0_findModel 1 = .ok (.getfield 56, 3) := by decide +kernel
theorem dX0_findModel_4 : decode cX0_findModel 4 = .ok (.ifCond .eq 4, 3) := by decide +kernel
theorem dX0_findModel_7 : decode cX0_findModel 7 = .ok (.return_, 1) := by decide +kernel
theorem dX0_findModel_8 : decode cX0_findModel 8 = .ok (.aload_n 0, 1) := by decide +kernel
theorem dX0_findModel_9 : decode cX0_findModel 9 = .ok (.getfield 30, 3) := by decide +kernel
theorem dX0_findModel_12 : decode cX0_findModel 12 = .ok (.invokevirtual 71, 3) := by decide +kernel
theorem dX0_findModel_15 : decode cX0_findModel 15 = .ok (.istore_n 1, 1) := by decide +kernel
theorem dX0_findModel_16 : decode cX0_findModel 16 = .ok (.aload_n 0, 1) := by decide +kernel
theorem dX0_findModel_17 : decode cX0_findModel 17 = .ok (.getfield 9, 3) := by decide +kernel
theorem dX0_findModel_20 : decode cX0_findModel 20 = .ok (.iconst 0, 1) := by decide +kernel
theorem dX0_findModel_21 : decode cX0_findModel 21 = .ok (.aload_n 0, 1) := by decide +kernel
theorem dX0_findModel_22 : decode cX0_findModel 22 = .ok (.getfield 48, 3) := by decide +kernel
theorem dX0_findModel_25 : decode cX0_findModel 25 = .ok (.getfield 87, 3) := by decide +kernel
theorem dX0_findModel_28 : decode cX0_findModel 28 = .ok (.iconst 0, 1) := by decide +kernel
theorem dX0_findModel_29 : decode cX0_findModel 29 = .ok (.aload_n 0, 1) := by decide +kernel
theorem dX0_findModel_30 : decode cX0_findModel 30 = .ok (.getfield 26, 3) := by decide +kernel
theorem dX0_findModel_33 : decode cX0_findModel 33 = .ok (.getfield 88, 3) := by decide +kernel
theorem dX0_findModel_36 : decode cX0_findModel 36 = .ok (.invokestatic 92, 3) := by decide +kernel
theorem dX0_findModel_39 : decode cX0_findModel 39 = .ok (.iconst 0, 1) := by decide +kernel
theorem dX0_findModel_40 : decode cX0_findModel 40 = .ok (.istore_n 2, 1) := by decide +kernel
theorem dX0_findModel_41 : decode cX0_findModel 41 = .ok (.iload_n 2, 1) := by decide +kernel
theorem dX0_findModel_42 : decode cX0_findModel 42 = .ok (.aload_n 0, 1) := by decide +kernel
theorem dX0_findModel_43 : decode cX0_findModel 43 = .ok (.getfield 26, 3) := by decide +kernel
theorem dX0_findModel_46 : decode cX0_findModel 46 = .ok (.getfield 88, 3) := by decide +kernel
theorem dX0_findModel_49 : decode cX0_findModel 49 = .ok (.if_icmp .ge 48, 3) := by decide +kernel
theorem dX0_findModel_52 : decode cX0_findModel 52 = .ok (.aload_n 0, 1) := by decide +kernel
theorem dX0_findModel_53 : decode cX0_findModel 53 = .ok (.getfield 26, 3) := by decide +kernel
theorem dX0_findModel_56 : decode cX0_findModel 56 = .ok (.iload_n 2, 1) := by decide +kernel
theorem dX0_findModel_57 : decode cX0_findModel 57 = .ok (.invokevirtual 98, 3) := by decide +kernel
theorem dX0_findModel_60 : decode cX0_findModel 60 = .ok (.istore_n 3, 1) := by decide +kernel
theorem dX0_findModel_61 : decode cX0_findModel 61 = .ok (.iconst 0, 1) := by decide +kernel
theorem dX0_findModel_62 : decode cX0_findModel 62 = .ok (.istore 4, 2) := by decide +kernel
theorem dX0_findModel_64 : decode cX0_findModel 64 = .ok (.iload 4, 2) := by decide +kernel
theorem dX0_findModel_66 : decode cX0_findModel 66 = .ok (.ldc 102, 2) := by decide +kernel
theorem dX0_findModel_68 : decode cX0_findModel 68 = .ok (.if_icmp .ge 23, 3) := by decide +kernel
theorem dX0_findModel_71 : decode cX0_findModel 71 = .ok (.iload_n 3, 1) := by decide +kernel
theorem dX0_findModel_72 : decode cX0_findModel 72 = .ok (.ifCond .eq 19, 3) := by decide +kernel
theorem dX0_findModel_75 : decode cX0_findModel 75 = .ok (.aload_n 0, 1) := by decide +kernel
theorem dX0_findModel_76 : decode cX0_findModel 76 = .ok (.getfield 48, 3) := by decide +kernel
theorem dX0_findModel_79 : decode cX0_findModel 79 = .ok (.iload_n 1, 1) := by decide +kernel
theorem dX0_findModel_80 : decode cX0_findModel 80 = .ok (.iload_n 2, 1) := by decide +kernel
theorem dX0_findModel_81 : decode cX0_findModel 81 = .ok (.invokevirtual 103, 3) := by decide +kernel
theorem dX0_findModel_84 : decode cX0_findModel 84 = .ok (.istore_n 3, 1) := by decide +kernel
theorem dX0_findModel_85 : decode cX0_findModel 85 = .ok (.iinc 4 1, 3) := by decide +kernel
theorem dX0_findModel_88 : decode cX0_findModel 88 = .ok (.goto (-24), 3) := by decide +kernel
theorem dX0_findModel_91 : decode cX0_findModel 91 = .ok (.iinc 2 1, 3) := by decide +kernel
theorem dX0_findModel_94 : decode cX0_findModel 94 = .ok (.goto (-53), 3) := by decide +kernel
theorem dX0_findModel_97 : decode cX0_findModel 97 = .ok (.aload_n 0, 1) := by decide +kernel
theorem dX0_findModel_98 : decode cX0_findModel 98 = .ok (.invokevirtual 84, 3) := by decide +kernel
theorem dX0_findModel_101 : decode cX0_findModel 101 = .ok (.aload_n 0, 1) := by decide +kernel
theorem dX0_findModel_102 : decode cX0_findModel 102 = .ok (.iconst 1, 1) := by decide +kernel
theorem dX0_findModel_103 : decode cX0_findModel 103 = .ok (.putfield 56, 3) := by decide +kernel
theorem dX0_findModel_106 : decode cX0_findModel 106 = .ok (.return_, 1) := by decide +kernel
theorem dX0_areContrary_0 : decode cX0_areContrary 0 = .ok (.aload_n 0, 1) := by decide +kernel
theorem dX0_areContrary_1 : decode cX0_areContrary 1 = .ok (.getfield 48, 3) := by decide +kernel
theorem dX0_areContrary_4 : decode cX0_areContrary 4 = .ok (.iload_n 1, 1) := by decide +kernel
theorem dX0_areContrary_5 : decode cX0_areContrary 5 = .ok (.iconst (-1), 1) := by decide +kernel
theorem dX0_areContrary_6 : decode cX0_areContrary 6 = .ok (.invokevirtual 77, 3) := by decide +kernel
theorem dX0_areContrary_9 : decode cX0_areContrary 9 = .ok (.ifCond .ne 7, 3) := by decide +kernel
theorem dX0_areContrary_12 : decode cX0_areContrary 12 = .ok (.iconst 1, 1) := by decide +kernel
theorem dX0_areContrary_13 : decode cX0_areContrary 13 = .ok (.goto 4, 3) := by decide +kernel
theorem dX0_areContrary_16 : decode cX0_areContrary 16 = .ok (.iconst 0, 1) := by decide +kernel
theorem dX0_areContrary_17 : decode cX0_areContrary 17 = .ok (.ireturn, 1) := by decide +kernel
theorem dX0_isImplied_0 : decode cX0_isImplied 0 = .ok (.aload_n 0, 1) := by decide +kernel
theorem dX0_isImplied_1 : decode cX0_isImplied 1 = .ok (.getfield 23, 3) := by decide +kernel
theorem dX0_isImplied_4 : decode cX0_isImplied 4 = .ok (.iload_n 1, 1) := by decide +kernel
theorem dX0_isImplied_5 : decode cX0_isImplied 5 = .ok (.iconst 1, 1) := by decide +kernel
theorem dX0_isImplied_6 : decode cX0_isImplied 6 = .ok (.iadd, 1) := by decide +kernel
theorem dX0_isImplied_7 : decode cX0_isImplied 7 = .ok (.iaload, 1) := by decide +kernel
theorem dX0_isImplied_8 : decode cX0_isImplied 8 = .ok (.iconst (-1), 1) := by decide +kernel
theorem dX0_isImplied_9 : decode cX0_isImplied 9 = .ok (.if_icmp .eq 5, 3) := by decide +kernel
theorem dX0_isImplied_12 : decode cX0_isImplied 12 = .ok (.iconst 1, 1) := by decide +kernel
theorem dX0_isImplied_13 : decode cX0_isImplied 13 = .ok (.ireturn, 1) := by decide +kernel
theorem dX0_isImplied_14 : decode cX0_isImplied 14 = .ok (.aload_n 0, 1) := by decide +kernel
theorem dX0_isImplied_15 : decode cX0_isImplied 15 = .ok (.getfield 30, 3) := by decide +kernel
theorem dX0_isImplied_18 : decode cX0_isImplied 18 = .ok (.iload_n 1, 1) := by decide +kernel
theorem dX0_isImplied_19 : decode cX0_isImplied 19 = .ok (.invokevirtual 106, 3) := by decide +kernel
theorem dX0_isImplied_22 : decode cX0_isImplied 22 = .ok (.invokestatic 110, 3) := by decide +kernel
theorem dX0_isImplied_25 : decode cX0_isImplied 25 = .ok (.istore_n 2, 1) := by decide +kernel
theorem dX0_isImplied_26 : decode cX0_isImplied 26 = .ok (.iload_n 2, 1) := by decide +kernel
theorem dX0_isImplied_27 : decode cX0_isImplied 27 = .ok (.aload_n 0, 1) := by decide +kernel
theorem dX0_isImplied_28 : decode cX0_isImplied 28 = .ok (.getfield 9, 3) := by decide +kernel
theorem dX0_isImplied_31 : decode cX0_isImplied 31 = .ok (.iload_n 2, 1) := by decide +kernel
theorem dX0_isImplied_32 : decode cX0_isImplied 32 = .ok (.invokestatic 113, 3) := by decide +kernel
theorem dX0_isImplied_35 : decode cX0_isImplied 35 = .ok (.iaload, 1) := by decide +kernel
theorem dX0_isImplied_36 : decode cX0_isImplied 36 = .ok (.aload_n 0, 1) := by decide +kernel
theorem dX0_isImplied_37 : decode cX0_isImplied 37 = .ok (.getfield 9, 3) := by decide +kernel
theorem dX0_isImplied_40 : decode cX0_isImplied 40 = .ok (.iload_n 2, 1) := by decide +kernel
theorem dX0_isImplied_41 : decode cX0_isImplied 41 = .ok (.invokestatic 116, 3) := by decide +kernel
theorem dX0_isImplied_44 : decode cX0_isImplied 44 = .ok (.iaload, 1) := by decide +kernel
theorem dX0_isImplied_45 : decode cX0_isImplied 45 = .ok (.isub, 1) := by decide +kernel
theorem dX0_isImplied_46 : decode cX0_isImplied 46 = .ok (.invokestatic 119, 3) := by decide +kernel
theorem dX0_isImplied_49 : decode cX0_isImplied 49 = .ok (.ifCond .eq 5, 3) := by decide +kernel
theorem dX0_isImplied_52 : decode cX0_isImplied 52 = .ok (.iconst 0, 1) := by decide +kernel
theorem dX0_isImplied_53 : decode cX0_isImplied 53 = .ok (.ireturn, 1) := by decide +kernel
theorem dX0_isImplied_54 : decode cX0_isImplied 54 = .ok (.aload_n 0, 1) := by decide +kernel
theorem dX0_isImplied_55 : decode cX0_isImplied 55 = .ok (.getfield 48, 3) := by decide +kernel
theorem dX0_isImplied_58 : decode cX0_isImplied 58 = .ok (.aload_n 0, 1) := by decide +kernel
theorem dX0_isImplied_59 : decode cX0_isImplied 59 = .ok (.getfield 30, 3) := by decide +kernel
theorem dX0_isImplied_62 : decode cX0_isImplied 62 = .ok (.invokevirtual 71, 3) := by decide +kernel
theorem dX0_isImplied_65 : decode cX0_isImplied 65 = .ok (.iload_n 2, 1) := by decide +kernel
theorem dX0_isImplied_66 : decode cX0_isImplied 66 = .ok (.invokevirtual 77, 3) := by decide +kernel
theorem dX0_isImplied_69 : decode cX0_isImplied 69 = .ok (.ifCond .ne 7, 3) := by decide +kernel
theorem dX0_isImplied_72 : decode cX0_isImplied 72 = .ok (.iconst 1, 1) := by decide +kernel
theorem dX0_isImplied_73 : decode cX0_isImplied 73 = .ok (.goto 4, 3) := by decide +kernel
theorem dX0_isImplied_76 : decode cX0_isImplied 76 = .ok (.iconst 0, 1) := by decide +kernel
theorem dX0_isImplied_77 : decode cX0_isImplied 77 = .ok (.ireturn, 1) := by decide +kernel
theorem dX0_thinOut_0 : decode cX0_thinOut 0 = .ok (.aload_n 0, 1) := by decide +kernel
theorem dX0_thinOut_1 : decode cX0_thinOut 1 = .ok (.getfield 23, 3) := by decide +kernel
theorem dX0_thinOut_4 : decode cX0_thinOut 4 = .ok (.iload_n 1, 1) := by decide +kernel
theorem dX0_thinOut_5 : decode cX0_thinOut 5 = .ok (.iconst 1, 1) := by decide +kernel
theorem dX0_thinOut_6 : decode cX0_thinOut 6 = .ok (.iadd, 1) := by decide +kernel
theorem dX0_thinOut_7 : decode cX0_thinOut 7 = .ok (.iaload, 1) := by decide +kernel
theorem dX0_thinOut_8 : decode cX0_thinOut 8 = .ok (.iconst (-1), 1) := by decide +kernel
theorem dX0_thinOut_9 : decode cX0_thinOut 9 = .ok (.if_icmp .eq 12, 3) := by decide +kernel
theorem dX0_thinOut_12 : decode cX0_thinOut 12 = .ok (.aload_n 0, 1) := by decide +kernel
theorem dX0_thinOut_13 : decode cX0_thinOut 13 = .ok (.getfield 23, 3) := by decide +kernel
theorem dX0_thinOut_16 : decode cX0_thinOut 16 = .ok (.iload_n 1, 1) := by decide +kernel
theorem dX0_thinOut_17 : decode cX0_thinOut 17 = .ok (.iconst 1, 1) := by decide +kernel
theorem dX0_thinOut_18 : decode cX0_thinOut 18 = .ok (.iadd, 1) := by decide +kernel
theorem dX0_thinOut_19 : decode cX0_thinOut 19 = .ok (.iaload, 1) := by decide +kernel
theorem dX0_thinOut_20 : decode cX0_thinOut 20 = .ok (.ireturn, 1) := by decide +kernel
theorem dX0_thinOut_21 : decode cX0_thinOut 21 = .ok (.iload_n 1, 1) := by decide +kernel
theorem dX0_thinOut_22 : decode cX0_thinOut 22 = .ok (.iconst (-1), 1) := by decide +kernel
theorem dX0_thinOut_23 : decode cX0_thinOut 23 = .ok (.if_icmp .ne 7, 3) := by decide +kernel
theorem dX0_thinOut_26 : decode cX0_thinOut 26 = .ok (.iconst (-1), 1) := by decide +kernel
theorem dX0_thinOut_27 : decode cX0_thinOut 27 = .ok (.goto 14, 3) := by decide +kernel
theorem dX0_thinOut_30 : decode cX0_thinOut 30 = .ok (.aload_n 0, 1) := by decide +kernel
theorem dX0_thinOut_31 : decode cX0_thinOut 31 = .ok (.getfield 30, 3) := by decide +kernel
theorem dX0_thinOut_34 : decode cX0_thinOut 34 = .ok (.iload_n 1, 1) := by decide +kernel
theorem dX0_thinOut_35 : decode cX0_thinOut 35 = .ok (.invokevirtual 106, 3) := by decide +kernel
theorem dX0_thinOut_38 : decode cX0_thinOut 38 = .ok (.invokestatic 110, 3) := by decide +kernel
theorem dX0_thinOut_41 : decode cX0_thinOut 41 = .ok (.istore_n 2, 1) := by decide +kernel
theorem dX0_thinOut_42 : decode cX0_thinOut 42 = .ok (.aload_n 0, 1) := by decide +kernel
theorem dX0_thinOut_43 : decode cX0_thinOut 43 = .ok (.getfield 30, 3) := by decide +kernel
theorem dX0_thinOut_46 : decode cX0_thinOut 46 = .ok (.invokevirtual 71, 3) := by decide +kernel
theorem dX0_thinOut_49 : decode cX0_thinOut 49 = .ok (.istore_n 3, 1) := by decide +kernel
theorem dX0_thinOut_50 : decode cX0_thinOut 50 = .ok (.iconst 0, 1) := by decide +kernel
theorem dX0_thinOut_51 : decode cX0_thinOut 51 = .ok (.istore 4, 2) := by decide +kernel
theorem dX0_thinOut_53 : decode cX0_thinOut 53 = .ok (.iload 4, 2) := by decide +kernel
theorem dX0_thinOut_55 : decode cX0_thinOut 55 = .ok (.aload_n 0, 1) := by decide +kernel
theorem dX0_thinOut_56 : decode cX0_thinOut 56 = .ok (.getfield 30, 3) := by decide +kernel
theorem dX0_thinOut_59 : decode cX0_thinOut 59 = .ok (.getfield 122, 3) := by decide +kernel
theorem dX0_thinOut_62 : decode cX0_thinOut 62 = .ok (.if_icmp .ge 35, 3) := by decide +kernel
theorem dX0_thinOut_65 : decode cX0_thinOut 65 = .ok (.iload_n 3, 1) := by decide +kernel
theorem dX0_thinOut_66 : decode cX0_thinOut 66 = .ok (.iconst 1, 1) := by decide +kernel
theorem dX0_thinOut_67 : decode cX0_thinOut 67 = .ok (.iload 4, 2) := by decide +kernel
theorem dX0_thinOut_69 : decode cX0_thinOut 69 = .ok (.ishl, 1) := by decide +kernel
theorem dX0_thinOut_70 : decode cX0_thinOut 70 = .ok (.iconst (-1), 1) := by decide +kernel
theorem dX0_thinOut_71 : decode cX0_thinOut 71 = .ok (.ixor, 1) := by decide +kernel
theorem dX0_thinOut_72 : decode cX0_thinOut 72 = .ok (.iand, 1) := by decide +kernel
theorem dX0_thinOut_73 : decode cX0_thinOut 73 = .ok (.istore 5, 2) := by decide +kernel
theorem dX0_thinOut_75 : decode cX0_thinOut 75 = .ok (.aload_n 0, 1) := by decide +kernel
theorem dX0_thinOut_76 : decode cX0_thinOut 76 = .ok (.getfield 48, 3) := by decide +kernel
theorem dX0_thinOut_79 : decode cX0_thinOut 79 = .ok (.iload 5, 2) := by decide +kernel
theorem dX0_thinOut_81 : decode cX0_thinOut 81 = .ok (.iload_n 2, 1) := by decide +kernel
theorem dX0_thinOut_82 : decode cX0_thinOut 82 = .ok (.invokevirtual 77, 3) := by decide +kernel
theorem dX0_thinOut_85 : decode cX0_thinOut 85 = .ok (.ifCond .ne 6, 3) := by decide +kernel
theorem dX0_thinOut_88 : decode cX0_thinOut 88 = .ok (.iload 5, 2) := by decide +kernel
theorem dX0_thinOut_90 : decode cX0_thinOut 90 = .ok (.istore_n 3, 1) := by decide +kernel
theorem dX0_thinOut_91 : decode cX0_thinOut 91 = .ok (.iinc 4 1, 3) := by decide +kernel
theorem dX0_thinOut_94 : decode cX0_thinOut 94 = .ok (.goto (-41), 3) := by decide +kernel
theorem dX0_thinOut_97 : decode cX0_thinOut 97 = .ok (.aload_n 0, 1) := by decide +kernel
theorem dX0_thinOut_98 : decode cX0_thinOut 98 = .ok (.getfield 23, 3) := by decide +kernel
theorem dX0_thinOut_101 : decode cX0_thinOut 101 = .ok (.iload_n 1, 1) := by decide +kernel
theorem dX0_thinOut_102 : decode cX0_thinOut 102 = .ok (.iconst 1, 1) := by decide +kernel
theorem dX0_thinOut_103 : decode cX0_thinOut 103 = .ok (.iadd, 1) := by decide +kernel
theorem dX0_thinOut_104 : decode cX0_thinOut 104 = .ok (.iload_n 3, 1) := by decide +kernel
theorem dX0_thinOut_105 : decode cX0_thinOut 105 = .ok (.iastore, 1) := by decide +kernel
theorem dX0_thinOut_106 : decode cX0_thinOut 106 = .ok (.iload_n 3, 1) := by decide +kernel
theorem dX0_thinOut_107 : decode cX0_thinOut 107 = .ok (.ireturn, 1) := by decide +kernel
theorem dX0_findBound_0 : decode cX0_findBound 0 = .ok (.aload_n 0, 1) := by decide +kernel
theorem dX0_findBound_1 : decode cX0_findBound 1 = .ok (.getfield 30, 3) := by decide +kernel
theorem dX0_findBound_4 : decode cX0_findBound 4 = .ok (.invokevirtual 71, 3) := by decide +kernel
theorem dX0_findBound_7 : decode cX0_findBound 7 = .ok (.istore_n 3, 1) := by decide +kernel
theorem dX0_findBound_8 : decode cX0_findBound 8 = .ok (.sipush 400, 3) := by decide +kernel
theorem dX0_findBound_11 : decode cX0_findBound 11 = .ok (.istore 4, 2) := by decide +kernel
theorem dX0_findBound_13 : decode cX0_findBound 13 = .ok (.aload_n 0, 1) := by decide +kernel
theorem dX0_findBound_14 : decode cX0_findBound 14 = .ok (.getfield 48, 3) := by decide +kernel
theorem dX0_findBound_17 : decode cX0_findBound 17 = .ok (.iload_n 3, 1) := by decide +kernel
theorem dX0_findBound_18 : decode cX0_findBound 18 = .ok (.iload_n 1, 1) := by decide +kernel
theorem dX0_findBound_19 : decode cX0_findBound 19 = .ok (.iload_n 2, 1) := by decide +kernel
theorem dX0_findBound_20 : decode cX0_findBound 20 = .ok (.iload 4, 2) := by decide +kernel
theorem dX0_findBound_22 : decode cX0_findBound 22 = .ok (.invokestatic 125, 3) := by decide +kernel
theorem dX0_findBound_25 : decode cX0_findBound 25 = .ok (.invokevirtual 77, 3) := by decide +kernel
theorem dX0_findBound_28 : decode cX0_findBound 28 = .ok (.ifCond .eq 8, 3) := by decide +kernel
theorem dX0_findBound_31 : decode cX0_findBound 31 = .ok (.iload 4, 2) := by decide +kernel
theorem dX0_findBound_33 : decode cX0_findBound 33 = .ok (.iconst 1, 1) := by decide +kernel
theorem dX0_findBound_34 : decode cX0_findBound 34 = .ok (.iadd, 1) := by decide +kernel
theorem dX0_findBound_35 : decode cX0_findBound 35 = .ok (.ireturn, 1) := by decide +kernel
theorem dX0_findBound_36 : decode cX0_findBound 36 = .ok (.aload_n 0, 1) := by decide +kernel
theorem dX0_findBound_37 : decode cX0_findBound 37 = .ok (.getfield 9, 3) := by decide +kernel
theorem dX0_findBound_40 : decode cX0_findBound 40 = .ok (.iload_n 1, 1) := by decide +kernel
theorem dX0_findBound_41 : decode cX0_findBound 41 = .ok (.iaload, 1) := by decide +kernel
theorem dX0_findBound_42 : decode cX0_findBound 42 = .ok (.aload_n 0, 1) := by decide +kernel
theorem dX0_findBound_43 : decode cX0_findBound 43 = .ok (.getfield 9, 3) := by decide +kernel
theorem dX0_findBound_46 : decode cX0_findBound 46 = .ok (.iload_n 2, 1) := by decide +kernel
theorem dX0_findBound_47 : decode cX0_findBound 47 = .ok (.iaload, 1) := by decide +kernel
theorem dX0_findBound_48 : decode cX0_findBound 48 = .ok (.isub, 1) := by decide +kernel
theorem dX0_findBound_49 : decode cX0_findBound 49 = .ok (.sipush (-400), 3) := by decide +kernel
theorem dX0_findBound_52 : decode cX0_findBound 52 = .ok (.invokestatic 129, 3) := by decide +kernel
theorem dX0_findBound_55 : decode cX0_findBound 55 = .ok (.istore 5, 2) := by decide +kernel
theorem dX0_findBound_57 : decode cX0_findBound 57 = .ok (.iconst 0, 1) := by decide +kernel
theorem dX0_findBound_58 : decode cX0_findBound 58 = .ok (.istore 6, 2) := by decide +kernel
theorem dX0_findBound_60 : decode cX0_findBound 60 = .ok (.iload 6, 2) := by decide +kernel
theorem dX0_findBound_62 : decode cX0_findBound 62 = .ok (.bipush 16, 2) := by decide +kernel
theorem dX0_findBound_64 : decode cX0_findBound 64 = .ok (.if_icmp .ge 80, 3) := by decide +kernel
theorem dX0_findBound_67 : decode cX0_findBound 67 = .ok (.iload 5, 2) := by decide +kernel
theorem dX0_findBound_69 : decode cX0_findBound 69 = .ok (.iload 4, 2) := by decide +kernel
theorem dX0_findBound_71 : decode cX0_findBound 71 = .ok (.if_icmp .ge 73, 3) := by decide +kernel
theorem dX0_findBound_74 : decode cX0_findBound 74 = .ok (.iload 5, 2) := by decide +kernel
theorem dX0_findBound_76 : decode cX0_findBound 76 = .ok (.iload 4, 2) := by decide +kernel
theorem dX0_findBound_78 : decode cX0_findBound 78 = .ok (.iadd, 1) := by decide +kernel
theorem dX0_findBound_79 : decode cX0_findBound 79 = .ok (.iconst 2, 1) := by decide +kernel
theorem dX0_findBound_80 : decode cX0_findBound 80 = .ok (.invokestatic 135, 3) := by decide +kernel
theorem dX0_findBound_83 : decode cX0_findBound 83 = .ok (.istore 7, 2) := by decide +kernel
theorem dX0_findBound_85 : decode cX0_findBound 85 = .ok (.aload_n 0, 1) := by decide +kernel
theorem dX0_findBound_86 : decode cX0_findBound 86 = .ok (.getfield 48, 3) := by decide +kernel
theorem dX0_findBound_89 : decode cX0_findBound 89 = .ok (.iload_n 3, 1) := by decide +kernel
theorem dX0_findBound_90 : decode cX0_findBound 90 = .ok (.iload_n 1, 1) := by decide +kernel
theorem dX0_findBound_91 : decode cX0_findBound 91 = .ok (.iload_n 2, 1) := by decide +kernel
theorem dX0_findBound_92 : decode cX0_findBound 92 = .ok (.iload 7, 2) := by decide +kernel
theorem dX0_findBound_94 : decode cX0_findBound 94 = .ok (.invokestatic 125, 3) := by decide +kernel
theorem dX0_findBound_97 : decode cX0_findBound 97 = .ok (.invokevirtual 77, 3) := by decide +kernel
theorem dX0_findBound_100 : decode cX0_findBound 100 = .ok (.ifCond .eq 34, 3) := by decide +kernel
theorem dX0_findBound_103 : decode cX0_findBound 103 = .ok (.iload 7, 2) := by decide +kernel
theorem dX0_findBound_105 : decode cX0_findBound 105 = .ok (.iconst 1, 1) := by decide +kernel
theorem dX0_findBound_106 : decode cX0_findBound 106 = .ok (.iadd, 1) := by decide +kernel
theorem dX0_findBound_107 : decode cX0_findBound 107 = .ok (.aload_n 0, 1) := by decide +kernel
theorem dX0_findBound_108 : decode cX0_findBound 108 = .ok (.getfield 48, 3) := by decide +kernel
theorem dX0_findBound_111 : decode cX0_findBound 111 = .ok (.getfield 87, 3) := by decide +kernel
theorem dX0_findBound_114 : decode cX0_findBound 114 = .ok (.iload_n 1, 1) := by decide +kernel
theorem dX0_findBound_115 : decode cX0_findBound 115 = .ok (.iaload, 1) := by decide +kernel
theorem dX0_findBound_116 : decode cX0_findBound 116 = .ok (.aload_n 0, 1) := by decide +kernel
theorem dX0_findBound_117 : decode cX0_findBound 117 = .ok (.getfield 48, 3) := by decide +kernel
theorem dX0_findBound_120 : decode cX0_findBound 120 = .ok (.getfield 87, 3) := by decide +kernel
theorem dX0_findBound_123 : decode cX0_findBound 123 = .ok (.iload_n 2, 1) := by decide +kernel
theorem dX0_findBound_124 : decode cX0_findBound 124 = .ok (.iaload, 1) := by decide +kernel
theorem dX0_findBound_125 : decode cX0_findBound 125 = .ok (.isub, 1) := by decide +kernel
theorem dX0_findBound_126 : decode cX0_findBound 126 = .ok (.invokestatic 129, 3) := by decide +kernel
theorem dX0_findBound_129 : decode cX0_findBound 129 = .ok (.istore 5, 2) := by decide +kernel
theorem dX0_findBound_131 : decode cX0_findBound 131 = .ok (.goto 7, 3) := by decide +kernel
theorem dX0_findBound_134 : decode cX0_findBound 134 = .ok (.iload 7, 2) := by decide +kernel
theorem dX0_findBound_136 : decode cX0_findBound 136 = .ok (.istore 4, 2) := by decide +kernel
theorem dX0_findBound_138 : decode cX0_findBound 138 = .ok (.iinc 6 1, 3) := by decide +kernel
theorem dX0_findBound_141 : decode cX0_findBound 141 = .ok (.goto (-81), 3) := by decide +kernel
theorem dX0_findBound_144 : decode cX0_findBound 144 = .ok (.iload 4, 2) := by decide +kernel
theorem dX0_findBound_146 : decode cX0_findBound 146 = .ok (.ireturn, 1) := by decide +kernel
theorem dX0_beyond_0 : decode cX0_beyond 0 = .ok (.iload_n 0, 1) := by decide +kernel
theorem dX0_beyond_1 : decode cX0_beyond 1 = .ok (.iload_n 1, 1) := by decide +kernel
theorem dX0_beyond_2 : decode cX0_beyond 2 = .ok (.iload_n 2, 1) := by decide +kernel
theorem dX0_beyond_3 : decode cX0_beyond 3 = .ok (.invokestatic 138, 3) := by decide +kernel
theorem dX0_beyond_6 : decode cX0_beyond 6 = .ok (.invokestatic 110, 3) := by decide +kernel
theorem dX0_beyond_9 : decode cX0_beyond 9 = .ok (.ireturn, 1) := by decide +kernel
theorem dX0_findClasses_0 : decode cX0_findClasses 0 = .ok (.aload_n 0, 1) := by decide +kernel
theorem dX0_findClasses_1 : decode cX0_findClasses 1 = .ok (.getfield 59, 3) := by decide +kernel
theorem dX0_findClasses_4 : decode cX0_findClasses 4 = .ok (.ifCond .eq 4, 3) := by decide +kernel
theorem dX0_findClasses_7 : decode cX0_findClasses 7 = .ok (.return_, 1) := by decide +kernel
theorem dX0_findClasses_8 : decode cX0_findClasses 8 = .ok (.aload_n 0, 1) := by decide +kernel
theorem dX0_findClasses_9 : decode cX0_findClasses 9 = .ok (.getfield 18, 3) := by decide +kernel
theorem dX0_findClasses_12 : decode cX0_findClasses 12 = .ok (.iconst 0, 1) := by decide +kernel
theorem dX0_findClasses_13 : decode cX0_findClasses 13 = .ok (.invokestatic 62, 3) := by decide +kernel
theorem dX0_findClasses_16 : decode cX0_findClasses 16 = .ok (.aload_n 0, 1) := by decide +kernel
theorem dX0_findClasses_17 : decode cX0_findClasses 17 = .ok (.aload_n 0, 1) := by decide +kernel
theorem dX0_findClasses_18 : decode cX0_findClasses 18 = .ok (.getfield 9, 3) := by decide +kernel
theorem dX0_findClasses_21 : decode cX0_findClasses 21 = .ok (.invokevirtual 141, 3) := by decide +kernel
theorem dX0_findClasses_24 : decode cX0_findClasses 24 = .ok (.iconst 0, 1) := by decide +kernel
theorem dX0_findClasses_25 : decode cX0_findClasses 25 = .ok (.istore_n 1, 1) := by decide +kernel
theorem dX0_findClasses_26 : decode cX0_findClasses 26 = .ok (.iload_n 1, 1) := by decide +kernel
theorem dX0_findClasses_27 : decode cX0_findClasses 27 = .ok (.aload_n 0, 1) := by decide +kernel
theorem dX0_findClasses_28 : decode cX0_findClasses 28 = .ok (.getfield 26, 3) := by decide +kernel
theorem dX0_findClasses_31 : decode cX0_findClasses 31 = .ok (.getfield 88, 3) := by decide +kernel
theorem dX0_findClasses_34 : decode cX0_findClasses 34 = .ok (.if_icmp .ge 125, 3) := by decide +kernel
theorem dX0_findClasses_37 : decode cX0_findClasses 37 = .ok (.aload_n 0, 1) := by decide +kernel
theorem dX0_findClasses_38 : decode cX0_findClasses 38 = .ok (.getfield 15, 3) := by decide +kernel
theorem dX0_findClasses_41 : decode cX0_findClasses 41 = .ok (.iload_n 1, 1) := by decide +kernel
theorem dX0_findClasses_42 : decode cX0_findClasses 42 = .ok (.aload_n 0, 1) := by decide +kernel
theorem dX0_findClasses_43 : decode cX0_findClasses 43 = .ok (.getfield 26, 3) := by decide +kernel
theorem dX0_findClasses_46 : decode cX0_findClasses 46 = .ok (.iload_n 1, 1) := by decide +kernel
theorem dX0_findClasses_47 : decode cX0_findClasses 47 = .ok (.invokevirtual 98, 3) := by decide +kernel
theorem dX0_findClasses_50 : decode cX0_findClasses 50 = .ok (.ifCond .eq 7, 3) := by decide +kernel
theorem dX0_findClasses_53 : decode cX0_findClasses 53 = .ok (.iload_n 1, 1) := by decide +kernel
theorem dX0_findClasses_54 : decode cX0_findClasses 54 = .ok (.goto 4, 3) := by decide +kernel
theorem dX0_findClasses_57 : decode cX0_findClasses 57 = .ok (.iconst (-1), 1) := by decide +kernel
theorem dX0_findClasses_58 : decode cX0_findClasses 58 = .ok (.iastore, 1) := by decide +kernel
theorem dX0_findClasses_59 : decode cX0_findClasses 59 = .ok (.iconst 0, 1) := by decide +kernel
theorem dX0_findClasses_60 : decode cX0_findClasses 60 = .ok (.istore_n 2, 1) := by decide +kernel
theorem dX0_findClasses_61 : decode cX0_findClasses 61 = .ok (.iload_n 2, 1) := by decide +kernel
theorem dX0_findClasses_62 : decode cX0_findClasses 62 = .ok (.iload_n 1, 1) := by decide +kernel
theorem dX0_findClasses_63 : decode cX0_findClasses 63 = .ok (.if_icmp .ge 90, 3) := by decide +kernel
theorem dX0_findClasses_66 : decode cX0_findClasses 66 = .ok (.aload_n 0, 1) := by decide +kernel
theorem dX0_findClasses_67 : decode cX0_findClasses 67 = .ok (.getfield 15, 3) := by decide +kernel
theorem dX0_findClasses_70 : decode cX0_findClasses 70 = .ok (.iload_n 1, 1) := by decide +kernel
theorem dX0_findClasses_71 : decode cX0_findClasses 71 = .ok (.iaload, 1) := by decide +kernel
theorem dX0_findClasses_72 : decode cX0_findClasses 72 = .ok (.iload_n 1, 1) := by decide +kernel
theorem dX0_findClasses_73 : decode cX0_findClasses 73 = .ok (.if_icmp .ne 80, 3) := by decide +kernel
theorem dX0_findClasses_76 : decode cX0_findClasses 76 = .ok (.aload_n 0, 1) := by decide +kernel
theorem dX0_findClasses_77 : decode cX0_findClasses 77 = .ok (.getfield 15, 3) := by decide +kernel
theorem dX0_findClasses_80 : decode cX0_findClasses 80 = .ok (.iload_n 2, 1) := by decide +kernel
theorem dX0_findClasses_81 : decode cX0_findClasses 81 = .ok (.iaload, 1) := by decide +kernel
theorem dX0_findClasses_82 : decode cX0_findClasses 82 = .ok (.iload_n 2, 1) := by decide +kernel
theorem dX0_findClasses_83 : decode cX0_findClasses 83 = .ok (.if_icmp .ne 64, 3) := by decide +kernel
theorem dX0_findClasses_86 : decode cX0_findClasses 86 = .ok (.aload_n 0, 1) := by decide +kernel
theorem dX0_findClasses_87 : decode cX0_findClasses 87 = .ok (.getfield 18, 3) := by decide +kernel
theorem dX0_findClasses_90 : decode cX0_findClasses 90 = .ok (.iload_n 2, 1) := by decide +kernel
theorem dX0_findClasses_91 : decode cX0_findClasses 91 = .ok (.iaload, 1) := by decide +kernel
theorem dX0_findClasses_92 : decode cX0_findClasses 92 = .ok (.aload_n 0, 1) := by decide +kernel
theorem dX0_findClasses_93 : decode cX0_findClasses 93 = .ok (.getfield 18, 3) := by decide +kernel
theorem dX0_findClasses_96 : decode cX0_findClasses 96 = .ok (.iload_n 1, 1) := by decide +kernel
theorem dX0_findClasses_97 : decode cX0_findClasses 97 = .ok (.iaload, 1) := by decide +kernel
theorem dX0_findClasses_98 : decode cX0_findClasses 98 = .ok (.if_icmp .eq 6, 3) := by decide +kernel
theorem dX0_findClasses_101 : decode cX0_findClasses 101 = .ok (.goto 46, 3) := by decide +kernel
theorem dX0_findClasses_104 : decode cX0_findClasses 104 = .ok (.aload_n 0, 1) := by decide +kernel
theorem dX0_findClasses_105 : decode cX0_findClasses 105 = .ok (.getfield 48, 3) := by decide +kernel
theorem dX0_findClasses_108 : decode cX0_findClasses 108 = .ok (.aload_n 0, 1) := by decide +kernel
theorem dX0_findClasses_109 : decode cX0_findClasses 109 = .ok (.getfield 30, 3) := by decide +kernel
theorem dX0_findClasses_112 : decode cX0_findClasses 112 = .ok (.invokevirtual 71, 3) := by decide +kernel
theorem dX0_findClasses_115 : decode cX0_findClasses 115 = .ok (.iload_n 2, 1) := by decide +kernel
theorem dX0_findClasses_116 : decode cX0_findClasses 116 = .ok (.iload_n 1, 1) := by decide +kernel
theorem dX0_findClasses_117 : decode cX0_findClasses 117 = .ok (.invokestatic 145, 3) := by decide +kernel
theorem dX0_findClasses_120 : decode cX0_findClasses 120 = .ok (.invokevirtual 77, 3) := by decide +kernel
theorem dX0_findClasses_123 : decode cX0_findClasses 123 = .ok (.ifCond .eq 17, 3) := by decide +kernel
theorem dX0_findClasses_126 : decode cX0_findClasses 126 = .ok (.aload_n 0, 1) := by decide +kernel
theorem dX0_findClasses_127 : decode cX0_findClasses 127 = .ok (.aload_n 0, 1) := by decide +kernel
theorem dX0_findClasses_128 : decode cX0_findClasses 128 = .ok (.getfield 48, 3) := by decide +kernel
theorem dX0_findClasses_131 : decode cX0_findClasses 131 = .ok (.getfield 87, 3) := by decide +kernel
theorem dX0_findClasses_134 : decode cX0_findClasses 134 = .ok (.invokevirtual 141, 3) := by decide +kernel
theorem dX0_findClasses_137 : decode cX0_findClasses 137 = .ok (.goto 10, 3) := by decide +kernel
theorem dX0_findClasses_140 : decode cX0_findClasses 140 = .ok (.aload_n 0, 1) := by decide +kernel
theorem dX0_findClasses_141 : decode cX0_findClasses 141 = .ok (.getfield 15, 3) := by decide +kernel
theorem dX0_findClasses_144 : decode cX0_findClasses 144 = .ok (.iload_n 1, 1) := by decide +kernel
theorem dX0_findClasses_145 : decode cX0_findClasses 145 = .ok (.iload_n 2, 1) := by decide +kernel
theorem dX0_findClasses_146 : decode cX0_findClasses 146 = .ok (.iastore, 1) := by decide +kernel
theorem dX0_findClasses_147 : decode cX0_findClasses 147 = .ok (.iinc 2 1, 3) := by decide +kernel
theorem dX0_findClasses_150 : decode cX0_findClasses 150 = .ok (.goto (-89), 3) := by decide +kernel
theorem dX0_findClasses_153 : decode cX0_findClasses 153 = .ok (.iinc 1 1, 3) := by decide +kernel
theorem dX0_findClasses_156 : decode cX0_findClasses 156 = .ok (.goto (-130), 3) := by decide +kernel
theorem dX0_findClasses_159 : decode cX0_findClasses 159 = .ok (.aload_n 0, 1) := by decide +kernel
theorem dX0_findClasses_160 : decode cX0_findClasses 160 = .ok (.iconst 1, 1) := by decide +kernel
theorem dX0_findClasses_161 : decode cX0_findClasses 161 = .ok (.putfield 59, 3) := by decide +kernel
theorem dX0_findClasses_164 : decode cX0_findClasses 164 = .ok (.return_, 1) := by decide +kernel
theorem dX0_partGroups_0 : decode cX0_partGroups 0 = .ok (.iconst 0, 1) := by decide +kernel
theorem dX0_partGroups_1 : decode cX0_partGroups 1 = .ok (.istore_n 2, 1) := by decide +kernel
theorem dX0_partGroups_2 : decode cX0_partGroups 2 = .ok (.iload_n 2, 1) := by decide +kernel
theorem dX0_partGroups_3 : decode cX0_partGroups 3 = .ok (.aload_n 0, 1) := by decide +kernel
theorem dX0_partGroups_4 : decode cX0_partGroups 4 = .ok (.getfield 26, 3) := by decide +kernel
theorem dX0_partGroups_7 : decode cX0_partGroups 7 = .ok (.getfield 88, 3) := by decide +kernel
theorem dX0_partGroups_10 : decode cX0_partGroups 10 = .ok (.if_icmp .ge 70, 3) := by decide +kernel
theorem dX0_partGroups_13 : decode cX0_partGroups 13 = .ok (.iload_n 2, 1) := by decide +kernel
theorem dX0_partGroups_14 : decode cX0_partGroups 14 = .ok (.istore_n 3, 1) := by decide +kernel
theorem dX0_partGroups_15 : decode cX0_partGroups 15 = .ok (.iload_n 2, 1) := by decide +kernel
theorem dX0_partGroups_16 : decode cX0_partGroups 16 = .ok (.iconst 1, 1) := by decide +kernel
theorem dX0_partGroups_17 : decode cX0_partGroups 17 = .ok (.iadd, 1) := by decide +kernel
theorem dX0_partGroups_18 : decode cX0_partGroups 18 = .ok (.istore 4, 2) := by decide +kernel
theorem dX0_partGroups_20 : decode cX0_partGroups 20 = .ok (.iload 4, 2) := by decide +kernel
theorem dX0_partGroups_22 : decode cX0_partGroups 22 = .ok (.aload_n 0, 1) := by decide +kernel
theorem dX0_partGroups_23 : decode cX0_partGroups 23 = .ok (.getfield 26, 3) := by decide +kernel
theorem dX0_partGroups_26 : decode cX0_partGroups 26 = .ok (.getfield 88, 3) := by decide +kernel
theorem dX0_partGroups_29 : decode cX0_partGroups 29 = .ok (.if_icmp .ge 38, 3) := by decide +kernel
theorem dX0_partGroups_32 : decode cX0_partGroups 32 = .ok (.aload_n 0, 1) := by decide +kernel
theorem dX0_partGroups_33 : decode cX0_partGroups 33 = .ok (.getfield 18, 3) := by decide +kernel
theorem dX0_partGroups_36 : decode cX0_partGroups 36 = .ok (.iload 4, 2) := by decide +kernel
theorem dX0_partGroups_38 : decode cX0_partGroups 38 = .ok (.iaload, 1) := by decide +kernel
theorem dX0_partGroups_39 : decode cX0_partGroups 39 = .ok (.aload_n 0, 1) := by decide +kernel
theorem dX0_partGroups_40 : decode cX0_partGroups 40 = .ok (.getfield 18, 3) := by decide +kernel
theorem dX0_partGroups_43 : decode cX0_partGroups 43 = .ok (.iload_n 2, 1) := by decide +kernel
theorem dX0_partGroups_44 : decode cX0_partGroups 44 = .ok (.iaload, 1) := by decide +kernel
theorem dX0_partGroups_45 : decode cX0_partGroups 45 = .ok (.if_icmp .ne 16, 3) := by decide +kernel
theorem dX0_partGroups_48 : decode cX0_partGroups 48 = .ok (.aload_n 1, 1) := by decide +kernel
theorem dX0_partGroups_49 : decode cX0_partGroups 49 = .ok (.iload 4, 2) := by decide +kernel
theorem dX0_partGroups_51 : decode cX0_partGroups 51 = .ok (.iaload, 1) := by decide +kernel
theorem dX0_partGroups_52 : decode cX0_partGroups 52 = .ok (.aload_n 1, 1) := by decide +kernel
theorem dX0_partGroups_53 : decode cX0_partGroups 53 = .ok (.iload_n 2, 1) := by decide +kernel
theorem dX0_partGroups_54 : decode cX0_partGroups 54 = .ok (.iaload, 1) := by decide +kernel
theorem dX0_partGroups_55 : decode cX0_partGroups 55 = .ok (.if_icmp .ne 6, 3) := by decide +kernel
theorem dX0_partGroups_58 : decode cX0_partGroups 58 = .ok (.iload 4, 2) := by decide +kernel
theorem dX0_partGroups_60 : decode cX0_partGroups 60 = .ok (.istore_n 3, 1) := by decide +kernel
theorem dX0_partGroups_61 : decode cX0_partGroups 61 = .ok (.iinc 4 1, 3) := by decide +kernel
theorem dX0_partGroups_64 : decode cX0_partGroups 64 = .ok (.goto (-44), 3) := by decide +kernel
theorem dX0_partGroups_67 : decode cX0_partGroups 67 = .ok (.aload_n 0, 1) := by decide +kernel
theorem dX0_partGroups_68 : decode cX0_partGroups 68 = .ok (.getfield 18, 3) := by decide +kernel
theorem dX0_partGroups_71 : decode cX0_partGroups 71 = .ok (.iload_n 2, 1) := by decide +kernel
theorem dX0_partGroups_72 : decode cX0_partGroups 72 = .ok (.iload_n 3, 1) := by decide +kernel
theorem dX0_partGroups_73 : decode cX0_partGroups 73 = .ok (.iastore, 1) := by decide +kernel
theorem dX0_partGroups_74 : decode cX0_partGroups 74 = .ok (.iinc 2 1, 3) := by decide +kernel
theorem dX0_partGroups_77 : decode cX0_partGroups 77 = .ok (.goto (-75), 3) := by decide +kernel
theorem dX0_partGroups_80 : decode cX0_partGroups 80 = .ok (.return_, 1) := by decide +kernel
theorem dX0_takeNumbers_0 : decode cX0_takeNumbers 0 = .ok (.aload_n 0, 1) := by decide +kernel
theorem dX0_takeNumbers_1 : decode cX0_takeNumbers 1 = .ok (.getfield 48, 3) := by decide +kernel
theorem dX0_takeNumbers_4 : decode cX0_takeNumbers 4 = .ok (.getfield 87, 3) := by decide +kernel
theorem dX0_takeNumbers_7 : decode cX0_takeNumbers 7 = .ok (.iconst 0, 1) := by decide +kernel
theorem dX0_takeNumbers_8 : decode cX0_takeNumbers 8 = .ok (.aload_n 0, 1) := by decide +kernel
theorem dX0_takeNumbers_9 : decode cX0_takeNumbers 9 = .ok (.getfield 9, 3) := by decide +kernel
theorem dX0_takeNumbers_12 : decode cX0_takeNumbers 12 = .ok (.iconst 0, 1) := by decide +kernel
theorem dX0_takeNumbers_13 : decode cX0_takeNumbers 13 = .ok (.aload_n 0, 1) := by decide +kernel
theorem dX0_takeNumbers_14 : decode cX0_takeNumbers 14 = .ok (.getfield 26, 3) := by decide +kernel
theorem dX0_takeNumbers_17 : decode cX0_takeNumbers 17 = .ok (.getfield 88, 3) := by decide +kernel
theorem dX0_takeNumbers_20 : decode cX0_takeNumbers 20 = .ok (.invokestatic 92, 3) := by decide +kernel
theorem dX0_takeNumbers_23 : decode cX0_takeNumbers 23 = .ok (.return_, 1) := by decide +kernel
theorem dX1_init_0 : decode cX1_init 0 = .ok (.aload_n 0, 1) := by decide +kernel
theorem dX1_init_1 : decode cX1_init 1 = .ok (.invokespecial 1, 3) := by decide +kernel
theorem dX1_init_4 : decode cX1_init 4 = .ok (.aload_n 0, 1) := by decide +kernel
theorem dX1_init_5 : decode cX1_init 5 = .ok (.sipush 128, 3) := by decide +kernel
theorem dX1_init_8 : decode cX1_init 8 = .ok (.newarray .int, 2) := by decide +kernel
theorem dX1_init_10 : decode cX1_init 10 = .ok (.putfield 7, 3) := by decide +kernel
theorem dX1_init_13 : decode cX1_init 13 = .ok (.aload_n 0, 1) := by decide +kernel
theorem dX1_init_14 : decode cX1_init 14 = .ok (.bipush 64, 2) := by decide +kernel
theorem dX1_init_16 : decode cX1_init 16 = .ok (.newarray .int, 2) := by decide +kernel
theorem dX1_init_18 : decode cX1_init 18 = .ok (.putfield 13, 3) := by decide +kernel
theorem dX1_init_21 : decode cX1_init 21 = .ok (.aload_n 0, 1) := by decide +kernel
theorem dX1_init_22 : decode cX1_init 22 = .ok (.aload_n 1, 1) := by decide +kernel
theorem dX1_init_23 : decode cX1_init 23 = .ok (.putfield 16, 3) := by decide +kernel
theorem dX1_init_26 : decode cX1_init 26 = .ok (.aload_n 0, 1) := by decide +kernel
theorem dX1_init_27 : decode cX1_init 27 = .ok (.aload_n 2, 1) := by decide +kernel
theorem dX1_init_28 : decode cX1_init 28 = .ok (.putfield 20, 3) := by decide +kernel
theorem dX1_init_31 : decode cX1_init 31 = .ok (.return_, 1) := by decide +kernel
theorem dX1_build_0 : decode cX1_build 0 = .ok (.aload_n 0, 1) := by decide +kernel
theorem dX1_build_1 : decode cX1_build 1 = .ok (.iconst 0, 1) := by decide +kernel
theorem dX1_build_2 : decode cX1_build 2 = .ok (.putfield 24, 3) := by decide +kernel
theorem dX1_build_5 : decode cX1_build 5 = .ok (.aload_n 0, 1) := by decide +kernel
theorem dX1_build_6 : decode cX1_build 6 = .ok (.iconst 0, 1) := by decide +kernel
theorem dX1_build_7 : decode cX1_build 7 = .ok (.putfield 28, 3) := by decide +kernel
theorem dX1_build_10 : decode cX1_build 10 = .ok (.aload_n 0, 1) := by decide +kernel
theorem dX1_build_11 : decode cX1_build 11 = .ok (.aload_n 0, 1) := by decide +kernel
theorem dX1_build_12 : decode cX1_build 12 = .ok (.getfield 20, 3) := by decide +kernel
theorem dX1_build_15 : decode cX1_build 15 = .ok (.getfield 31, 3) := by decide +kernel
theorem dX1_build_18 : decode cX1_build 18 = .ok (.putfield 36, 3) := by decide +kernel
theorem dX1_build_21 : decode cX1_build 21 = .ok (.iconst 0, 1) := by decide +kernel
theorem dX1_build_22 : decode cX1_build 22 = .ok (.istore_n 1, 1) := by decide +kernel
theorem dX1_build_23 : decode cX1_build 23 = .ok (.iload_n 1, 1) := by decide +kernel
theorem dX1_build_24 : decode cX1_build 24 = .ok (.aload_n 0, 1) := by decide +kernel
theorem dX1_build_25 : decode cX1_build 25 = .ok (.getfield 20, 3) := by decide +kernel
theorem dX1_build_28 : decode cX1_build 28 = .ok (.getfield 31, 3) := by decide +kernel
theorem dX1_build_31 : decode cX1_build 31 = .ok (.if_icmp .ge 14, 3) := by decide +kernel
theorem dX1_build_34 : decode cX1_build 34 = .ok (.aload_n 0, 1) := by decide +kernel
theorem dX1_build_35 : decode cX1_build 35 = .ok (.iload_n 1, 1) := by decide +kernel
theorem dX1_build_36 : decode cX1_build 36 = .ok (.invokevirtual 37, 3) := by decide +kernel
theorem dX1_build_39 : decode cX1_build 39 = .ok (.iinc 1 1, 3) := by decide +kernel
theorem dX1_build_42 : decode cX1_build 42 = .ok (.goto (-19), 3) := by decide +kernel
theorem dX1_build_45 : decode cX1_build 45 = .ok (.iconst 0, 1) := by decide +kernel
theorem dX1_build_46 : decode cX1_build 46 = .ok (.istore_n 1, 1) := by decide +kernel
theorem dX1_build_47 : decode cX1_build 47 = .ok (.iload_n 1, 1) := by decide +kernel
theorem dX1_build_48 : decode cX1_build 48 = .ok (.aload_n 0, 1) := by decide +kernel
theorem dX1_build_49 : decode cX1_build 49 = .ok (.getfield 16, 3) := by decide +kernel
theorem dX1_build_52 : decode cX1_build 52 = .ok (.getfield 41, 3) := by decide +kernel
theorem dX1_build_55 : decode cX1_build 55 = .ok (.if_icmp .ge 78, 3) := by decide +kernel
theorem dX1_build_58 : decode cX1_build 58 = .ok (.aload_n 0, 1) := by decide +kernel
theorem dX1_build_59 : decode cX1_build 59 = .ok (.getfield 16, 3) := by decide +kernel
theorem dX1_build_62 : decode cX1_build 62 = .ok (.getfield 44, 3) := by decide +kernel
theorem dX1_build_65 : decode cX1_build 65 = .ok (.iload_n 1, 1) := by decide +kernel
theorem dX1_build_66 : decode cX1_build 66 = .ok (.caload, 1) := by decide +kernel
theorem dX1_build_67 : decode cX1_build 67 = .ok (.bipush 102, 2) := by decide +kernel
theorem dX1_build_69 : decode cX1_build 69 = .ok (.if_icmp .ne 8, 3) := by decide +kernel
theorem dX1_build_72 : decode cX1_build 72 = .ok (.aload_n 0, 1) := by decide +kernel
theorem dX1_build_73 : decode cX1_build 73 = .ok (.iload_n 1, 1) := by decide +kernel
theorem dX1_build_74 : decode cX1_build 74 = .ok (.invokevirtual 48, 3) := by decide +kernel
theorem dX1_build_77 : decode cX1_build 77 = .ok (.aload_n 0, 1) := by decide +kernel
theorem dX1_build_78 : decode cX1_build 78 = .ok (.getfield 16, 3) := by decide +kernel
theorem dX1_build_81 : decode cX1_build 81 = .ok (.getfield 44, 3) := by decide +kernel
theorem dX1_build_84 : decode cX1_build 84 = .ok (.iload_n 1, 1) := by decide +kernel
theorem dX1_build_85 : decode cX1_build 85 = .ok (.caload, 1) := by decide +kernel
theorem dX1_build_86 : decode cX1_build 86 = .ok (.bipush 114, 2) := by decide +kernel
theorem dX1_build_88 : decode cX1_build 88 = .ok (.if_icmp .ne 8, 3) := by decide +kernel
theorem dX1_build_91 : decode cX1_build 91 = .ok (.aload_n 0, 1) := by decide +kernel
theorem dX1_build_92 : decode cX1_build 92 = .ok (.iload_n 1, 1) := by decide +kernel
theorem dX1_build_93 : decode cX1_build 93 = .ok (.invokevirtual 51, 3) := by decide +kernel
theorem dX1_build_96 : decode cX1_build 96 = .ok (.iconst 0, 1) := by decide +kernel
theorem dX1_build_97 : decode cX1_build 97 = .ok (.istore_n 2, 1) := by decide +kernel
theorem dX1_build_98 : decode cX1_build 98 = .ok (.iload_n 2, 1) := by decide +kernel
theorem dX1_build_99 : decode cX1_build 99 = .ok (.iload_n 1, 1) := by decide +kernel
theorem dX1_build_100 : decode cX1_build 100 = .ok (.if_icmp .ge 27, 3) := by decide +kernel
theorem dX1_build_103 : decode cX1_build 103 = .ok (.aload_n 0, 1) := by decide +kernel
theorem dX1_build_104 : decode cX1_build 104 = .ok (.getfield 16, 3) := by decide +kernel
theorem dX1_build_107 : decode cX1_build 107 = .ok (.iload_n 1, 1) := by decide +kernel
theorem dX1_build_108 : decode cX1_build 108 = .ok (.iload_n 2, 1) := by decide +kernel
theorem dX1_build_109 : decode cX1_build 109 = .ok (.invokevirtual 54, 3) := by decide +kernel
theorem dX1_build_112 : decode cX1_build 112 = .ok (.ifCond .eq 9, 3) := by decide +kernel
theorem dX1_build_115 : decode cX1_build 115 = .ok (.aload_n 0, 1) := by decide +kernel
theorem dX1_build_116 : decode cX1_build 116 = .ok (.iload_n 1, 1) := by decide +kernel
theorem dX1_build_117 : decode cX1_build 117 = .ok (.iload_n 2, 1) := by decide +kernel
theorem dX1_build_118 : decode cX1_build 118 = .ok (.invokevirtual 58, 3) := by decide +kernel
theorem dX1_build_121 : decode cX1_build 121 = .ok (.iinc 2 1, 3) := by decide +kernel
theorem dX1_build_124 : decode cX1_build 124 = .ok (.goto (-26), 3) := by decide +kernel
theorem dX1_build_127 : decode cX1_build 127 = .ok (.iinc 1 1, 3) := by decide +kernel
theorem dX1_build_130 : decode cX1_build 130 = .ok (.goto (-83), 3) := by decide +kernel
theorem dX1_build_133 : decode cX1_build 133 = .ok (.return_, 1) := by decide +kernel
theorem dX1_demandClause_0 : decode cX1_demandClause 0 = .ok (.iload_n 1, 1) := by decide +kernel
theorem dX1_demandClause_1 : decode cX1_demandClause 1 = .ok (.iconst 3, 1) := by decide +kernel
theorem dX1_demandClause_2 : decode cX1_demandClause 2 = .ok (.imul, 1) := by decide +kernel
theorem dX1_demandClause_3 : decode cX1_demandClause 3 = .ok (.istore_n 2, 1) := by decide +kernel
theorem dX1_demandClause_4 : decode cX1_demandClause 4 = .ok (.iload_n 2, 1) := by decide +kernel
theorem dX1_demandClause_5 : decode cX1_demandClause 5 = .ok (.istore_n 3, 1) := by decide +kernel
theorem dX1_demandClause_6 : decode cX1_demandClause 6 = .ok (.iload_n 3, 1) := by decide +kernel
theorem dX1_demandClause_7 : decode cX1_demandClause 7 = .ok (.iload_n 2, 1) := by decide +kernel
theorem dX1_demandClause_8 : decode cX1_demandClause 8 = .ok (.iconst 3, 1) := by decide +kernel
theorem dX1_demandClause_9 : decode cX1_demandClause 9 = .ok (.iadd, 1) := by decide +kernel
theorem dX1_demandClause_10 : decode cX1_demandClause 10 = .ok (.if_icmp .ge 39, 3) := by decide +kernel
theorem dX1_demandClause_13 : decode cX1_demandClause 13 = .ok (.aload_n 0, 1) := by decide +kernel
theorem dX1_demandClause_14 : decode cX1_demandClause 14 = .ok (.getfield 20, 3) := by decide +kernel
theorem dX1_demandClause_17 : decode cX1_demandClause 17 = .ok (.getfield 62, 3) := by decide +kernel
theorem dX1_demandClause_20 : decode cX1_demandClause 20 = .ok (.iload_n 3, 1) := by decide +kernel
theorem dX1_demandClause_21 : decode cX1_demandClause 21 = .ok (.iaload, 1) := by decide +kernel
theorem dX1_demandClause_22 : decode cX1_demandClause 22 = .ok (.istore 4, 2) := by decide +kernel
theorem dX1_demandClause_24 : decode cX1_demandClause 24 = .ok (.iload 4, 2) := by decide +kernel
theorem dX1_demandClause_26 : decode cX1_demandClause 26 = .ok (.iconst (-1), 1) := by decide +kernel
theorem dX1_demandClause_27 : decode cX1_demandClause 27 = .ok (.if_icmp .eq 16, 3) := by decide +kernel
theorem dX1_demandClause_30 : decode cX1_demandClause 30 = .ok (.aload_n 0, 1) := by decide +kernel
theorem dX1_demandClause_31 : decode cX1_demandClause 31 = .ok (.aload_n 0, 1) := by decide +kernel
theorem dX1_demandClause_32 : decode cX1_demandClause 32 = .ok (.getfield 20, 3) := by decide +kernel
theorem dX1_demandClause_35 : decode cX1_demandClause 35 = .ok (.iload 4, 2) := by decide +kernel
theorem dX1_demandClause_37 : decode cX1_demandClause 37 = .ok (.invokevirtual 65, 3) := by decide +kernel
theorem dX1_demandClause_40 : decode cX1_demandClause 40 = .ok (.invokevirtual 69, 3) := by decide +kernel
theorem dX1_demandClause_43 : decode cX1_demandClause 43 = .ok (.iinc 3 1, 3) := by decide +kernel
theorem dX1_demandClause_46 : decode cX1_demandClause 46 = .ok (.goto (-40), 3) := by decide +kernel
theorem dX1_demandClause_49 : decode cX1_demandClause 49 = .ok (.aload_n 0, 1) := by decide +kernel
theorem dX1_demandClause_50 : decode cX1_demandClause 50 = .ok (.invokevirtual 72, 3) := by decide +kernel
theorem dX1_demandClause_53 : decode cX1_demandClause 53 = .ok (.return_, 1) := by decide +kernel
theorem dX1_demandFunction_0 : decode cX1_demandFunction 0 = .ok (.aload_n 0, 1) := by decide +kernel
theorem dX1_demandFunction_1 : decode cX1_demandFunction 1 = .ok (.getfield 16, 3) := by decide +kernel
theorem dX1_demandFunction_4 : decode cX1_demandFunction 4 = .ok (.getfield 75, 3) := by decide +kernel
theorem dX1_demandFunction_7 : decode cX1_demandFunction 7 = .ok (.iload_n 1, 1) := by decide +kernel
theorem dX1_demandFunction_8 : decode cX1_demandFunction 8 = .ok (.iaload, 1) := by decide +kernel
theorem dX1_demandFunction_9 : decode cX1_demandFunction 9 = .ok (.istore_n 2, 1) := by decide +kernel
theorem dX1_demandFunction_10 : decode cX1_demandFunction 10 = .ok (.iconst 0, 1) := by decide +kernel
theorem dX1_demandFunction_11 : decode cX1_demandFunction 11 = .ok (.istore_n 3, 1) := by decide +kernel
theorem dX1_demandFunction_12 : decode cX1_demandFunction 12 = .ok (.iload_n 3, 1) := by decide +kernel
theorem dX1_demandFunction_13 : decode cX1_demandFunction 13 = .ok (.iload_n 1, 1) := by decide +kernel
theorem dX1_demandFunction_14 : decode cX1_demandFunction 14 = .ok (.if_icmp .ge 27, 3) := by decide +kernel
theorem dX1_demandFunction_17 : decode cX1_demandFunction 17 = .ok (.aload_n 0, 1) := by decide +kernel
theorem dX1_demandFunction_18 : decode cX1_demandFunction 18 = .ok (.getfield 16, 3) := by decide +kernel
theorem dX1_demandFunction_21 : decode cX1_demandFunction 21 = .ok (.iload_n 3, 1) := by decide +kernel
theorem dX1_demandFunction_22 : decode cX1_demandFunction 22 = .ok (.iload_n 2, 1) := by decide +kernel
theorem dX1_demandFunction_23 : decode cX1_demandFunction 23 = .ok (.invokevirtual 78, 3) := by decide +kernel
theorem dX1_demandFunction_26 : decode cX1_demandFunction 26 = .ok (.ifCond .eq 9, 3) := by decide +kernel
theorem dX1_demandFunction_29 : decode cX1_demandFunction 29 = .ok (.aload_n 0, 1) := by decide +kernel
theorem dX1_demandFunction_30 : decode cX1_demandFunction 30 = .ok (.iload_n 1, 1) := by decide +kernel
theorem dX1_demandFunction_31 : decode cX1_demandFunction 31 = .ok (.iload_n 3, 1) := by decide +kernel
theorem dX1_demandFunction_32 : decode cX1_demandFunction 32 = .ok (.invokevirtual 81, 3) := by decide +kernel
theorem dX1_demandFunction_35 : decode cX1_demandFunction 35 = .ok (.iinc 3 1, 3) := by decide +kernel
theorem dX1_demandFunction_38 : decode cX1_demandFunction 38 = .ok (.goto (-26), 3) := by decide +kernel
theorem dX1_demandFunction_41 : decode cX1_demandFunction 41 = .ok (.iconst 0, 1) := by decide +kernel
theorem dX1_demandFunction_42 : decode cX1_demandFunction 42 = .ok (.istore_n 3, 1) := by decide +kernel
theorem dX1_demandFunction_43 : decode cX1_demandFunction 43 = .ok (.iload_n 3, 1) := by decide +kernel
theorem dX1_demandFunction_44 : decode cX1_demandFunction 44 = .ok (.aload_n 0, 1) := by decide +kernel
theorem dX1_demandFunction_45 : decode cX1_demandFunction 45 = .ok (.getfield 20, 3) := by decide +kernel
theorem dX1_demandFunction_48 : decode cX1_demandFunction 48 = .ok (.getfield 84, 3) := by decide +kernel
theorem dX1_demandFunction_51 : decode cX1_demandFunction 51 = .ok (.if_icmp .ge 85, 3) := by decide +kernel
theorem dX1_demandFunction_54 : decode cX1_demandFunction 54 = .ok (.aload_n 0, 1) := by decide +kernel
theorem dX1_demandFunction_55 : decode cX1_demandFunction 55 = .ok (.getfield 20, 3) := by decide +kernel
theorem dX1_demandFunction_58 : decode cX1_demandFunction 58 = .ok (.getfield 87, 3) := by decide +kernel
theorem dX1_demandFunction_61 : decode cX1_demandFunction 61 = .ok (.iload_n 3, 1) := by decide +kernel
theorem dX1_demandFunction_62 : decode cX1_demandFunction 62 = .ok (.iaload, 1) := by decide +kernel
theorem dX1_demandFunction_63 : decode cX1_demandFunction 63 = .ok (.iload_n 2, 1) := by decide +kernel
theorem dX1_demandFunction_64 : decode cX1_demandFunction 64 = .ok (.if_icmp .eq 6, 3) := by decide +kernel
theorem dX1_demandFunction_67 : decode cX1_demandFunction 67 = .ok (.goto 63, 3) := by decide +kernel
theorem dX1_demandFunction_70 : decode cX1_demandFunction 70 = .ok (.aload_n 0, 1) := by decide +kernel
theorem dX1_demandFunction_71 : decode cX1_demandFunction 71 = .ok (.getfield 20, 3) := by decide +kernel
theorem dX1_demandFunction_74 : decode cX1_demandFunction 74 = .ok (.getfield 90, 3) := by decide +kernel
theorem dX1_demandFunction_77 : decode cX1_demandFunction 77 = .ok (.iload_n 3, 1) := by decide +kernel
theorem dX1_demandFunction_78 : decode cX1_demandFunction 78 = .ok (.caload, 1) := by decide +kernel
theorem dX1_demandFunction_79 : decode cX1_demandFunction 79 = .ok (.istore 4, 2) := by decide +kernel
theorem dX1_demandFunction_81 : decode cX1_demandFunction 81 = .ok (.iload 4, 2) := by decide +kernel
theorem dX1_demandFunction_83 : decode cX1_demandFunction 83 = .ok (.bipush 115, 2) := by decide +kernel
theorem dX1_demandFunction_85 : decode cX1_demandFunction 85 = .ok (.if_icmp .ne 8, 3) := by decide +kernel
theorem dX1_demandFunction_88 : decode cX1_demandFunction 88 = .ok (.aload_n 0, 1) := by decide +kernel
theorem dX1_demandFunction_89 : decode cX1_demandFunction 89 = .ok (.iload_n 1, 1) := by decide +kernel
theorem dX1_demandFunction_90 : decode cX1_demandFunction 90 = .ok (.invokevirtual 93, 3) := by decide +kernel
theorem dX1_demandFunction_93 : decode cX1_demandFunction 93 = .ok (.iconst 0, 1) := by decide +kernel
theorem dX1_demandFunction_94 : decode cX1_demandFunction 94 = .ok (.istore 5, 2) := by decide +kernel
theorem dX1_demandFunction_96 : decode cX1_demandFunction 96 = .ok (.iload 5, 2) := by decide +kernel
theorem dX1_demandFunction_98 : decode cX1_demandFunction 98 = .ok (.iload_n 1, 1) := by decide +kernel
theorem dX1_demandFunction_99 : decode cX1_demandFunction 99 = .ok (.if_icmp .ge 31, 3) := by decide +kernel
theorem dX1_demandFunction_102 : decode cX1_demandFunction 102 = .ok (.aload_n 0, 1) := by decide +kernel
theorem dX1_demandFunction_103 : decode cX1_demandFunction 103 = .ok (.getfield 16, 3) := by decide +kernel
theorem dX1_demandFunction_106 : decode cX1_demandFunction 106 = .ok (.iload 5, 2) := by decide +kernel
theorem dX1_demandFunction_108 : decode cX1_demandFunction 108 = .ok (.iload_n 2, 1) := by decide +kernel
theorem dX1_demandFunction_109 : decode cX1_demandFunction 109 = .ok (.invokevirtual 78, 3) := by decide +kernel
theorem dX1_demandFunction_112 : decode cX1_demandFunction 112 = .ok (.ifCond .eq 12, 3) := by decide +kernel
theorem dX1_demandFunction_115 : decode cX1_demandFunction 115 = .ok (.aload_n 0, 1) := by decide +kernel
theorem dX1_demandFunction_116 : decode cX1_demandFunction 116 = .ok (.iload 4, 2) := by decide +kernel
theorem dX1_demandFunction_118 : decode cX1_demandFunction 118 = .ok (.iload_n 1, 1) := by decide +kernel
theorem dX1_demandFunction_119 : decode cX1_demandFunction 119 = .ok (.iload 5, 2) := by decide +kernel
theorem dX1_demandFunction_121 : decode cX1_demandFunction 121 = .ok (.invokevirtual 96, 3) := by decide +kernel
theorem dX1_demandFunction_124 : decode cX1_demandFunction 124 = .ok (.iinc 5 1, 3) := by decide +kernel
theorem dX1_demandFunction_127 : decode cX1_demandFunction 127 = .ok (.goto (-31), 3) := by decide +kernel
theorem dX1_demandFunction_130 : decode cX1_demandFunction 130 = .ok (.iinc 3 1, 3) := by decide +kernel
theorem dX1_demandFunction_133 : decode cX1_demandFunction 133 = .ok (.goto (-90), 3) := by decide +kernel
theorem dX1_demandFunction_136 : decode cX1_demandFunction 136 = .ok (.return_, 1) := by decide +kernel
theorem dX1_demandSameForSame_0 : decode cX1_demandSameForSame 0 = .ok (.aload_n 0, 1) := by decide +kernel
theorem dX1_demandSameForSame_1 : decode cX1_demandSameForSame 1 = .ok (.iload_n 1, 1) := by decide +kernel
theorem dX1_demandSameForSame_2 : decode cX1_demandSameForSame 2 = .ok (.iload_n 2, 1) := by decide +kernel
theorem dX1_demandSameForSame_3 : decode cX1_demandSameForSame 3 = .ok (.invokestatic 100, 3) := by decide +kernel
theorem dX1_demandSameForSame_6 : decode cX1_demandSameForSame 6 = .ok (.invokevirtual 69, 3) := by decide +kernel
theorem dX1_demandSameForSame_9 : decode cX1_demandSameForSame 9 = .ok (.aload_n 0, 1) := by decide +kernel
theorem dX1_demandSameForSame_10 : decode cX1_demandSameForSame 10 = .ok (.aload_n 0, 1) := by decide +kernel
theorem dX1_demandSameForSame_11 : decode cX1_demandSameForSame 11 = .ok (.getfield 16, 3) := by decide +kernel
theorem dX1_demandSameForSame_14 : decode cX1_demandSameForSame 14 = .ok (.getfield 106, 3) := by decide +kernel
theorem dX1_demandSameForSame_17 : decode cX1_demandSameForSame 17 = .ok (.iload_n 1, 1) := by decide +kernel
theorem dX1_demandSameForSame_18 : decode cX1_demandSameForSame 18 = .ok (.iaload, 1) := by decide +kernel
theorem dX1_demandSameForSame_19 : decode cX1_demandSameForSame 19 = .ok (.aload_n 0, 1) := by decide +kernel
theorem dX1_demandSameForSame_20 : decode cX1_demandSameForSame 20 = .ok (.getfield 16, 3) := by decide +kernel
theorem dX1_demandSameForSame_23 : decode cX1_demandSameForSame 23 = .ok (.getfield 106, 3) := by decide +kernel
theorem dX1_demandSameForSame_26 : decode cX1_demandSameForSame 26 = .ok (.iload_n 2, 1) := by decide +kernel
theorem dX1_demandSameForSame_27 : decode cX1_demandSameForSame 27 = .ok (.iaload, 1) := by decide +kernel
theorem dX1_demandSameForSame_28 : decode cX1_demandSameForSame 28 = .ok (.invokestatic 109, 3) := by decide +kernel
theorem dX1_demandSameForSame_31 : decode cX1_demandSameForSame 31 = .ok (.invokevirtual 69, 3) := by decide +kernel
theorem dX1_demandSameForSame_34 : decode cX1_demandSameForSame 34 = .ok (.aload_n 0, 1) := by decide +kernel
theorem dX1_demandSameForSame_35 : decode cX1_demandSameForSame 35 = .ok (.getfield 16, 3) := by decide +kernel
theorem dX1_demandSameForSame_38 : decode cX1_demandSameForSame 38 = .ok (.getfield 112, 3) := by decide +kernel
theorem dX1_demandSameForSame_41 : decode cX1_demandSameForSame 41 = .ok (.iload_n 1, 1) := by decide +kernel
theorem dX1_demandSameForSame_42 : decode cX1_demandSameForSame 42 = .ok (.iaload, 1) := by decide +kernel
theorem dX1_demandSameForSame_43 : decode cX1_demandSameForSame 43 = .ok (.iconst (-1), 1) := by decide +kernel
theorem dX1_demandSameForSame_44 : decode cX1_demandSameForSame 44 = .ok (.if_icmp .eq 28, 3) := by decide +kernel
theorem dX1_demandSameForSame_47 : decode cX1_demandSameForSame 47 = .ok (.aload_n 0, 1) := by decide +kernel
theorem dX1_demandSameForSame_48 : decode cX1_demandSameForSame 48 = .ok (.aload_n 0, 1) := by decide +kernel
theorem dX1_demandSameForSame_49 : decode cX1_demandSameForSame 49 = .ok (.getfield 16, 3) := by decide +kernel
theorem dX1_demandSameForSame_52 : decode cX1_demandSameForSame 52 = .ok (.getfield 112, 3) := by decide +kernel
theorem dX1_demandSameForSame_55 : decode cX1_demandSameForSame 55 = .ok (.iload_n 1, 1) := by decide +kernel
theorem dX1_demandSameForSame_56 : decode cX1_demandSameForSame 56 = .ok (.iaload, 1) := by decide +kernel
theorem dX1_demandSameForSame_57 : decode cX1_demandSameForSame 57 = .ok (.aload_n 0, 1) := by decide +kernel
theorem dX1_demandSameForSame_58 : decode cX1_demandSameForSame 58 = .ok (.getfield 16, 3) := by decide +kernel
theorem dX1_demandSameForSame_61 : decode cX1_demandSameForSame 61 = .ok (.getfield 112, 3) := by decide +kernel
theorem dX1_demandSameForSame_64 : decode cX1_demandSameForSame 64 = .ok (.iload_n 2, 1) := by decide +kernel
theorem dX1_demandSameForSame_65 : decode cX1_demandSameForSame 65 = .ok (.iaload, 1) := by decide +kernel
theorem dX1_demandSameForSame_66 : decode cX1_demandSameForSame 66 = .ok (.invokestatic 109, 3) := by decide +kernel
theorem dX1_demandSameForSame_69 : decode cX1_demandSameForSame 69 = .ok (.invokevirtual 69, 3) := by decide +kernel
theorem dX1_demandSameForSame_72 : decode cX1_demandSameForSame 72 = .ok (.aload_n 0, 1) := by decide +kernel
theorem dX1_demandSameForSame_73 : decode cX1_demandSameForSame 73 = .ok (.invokevirtual 72, 3) := by decide +kernel
theorem dX1_demandSameForSame_76 : decode cX1_demandSameForSame 76 = .ok (.return_, 1) := by decide +kernel
theorem dX1_demandUndone_0 : decode cX1_demandUndone 0 = .ok (.aload_n 0, 1) := by decide +kernel
theorem dX1_demandUndone_1 : decode cX1_demandUndone 1 = .ok (.getfield 16, 3) := by decide +kernel
theorem dX1_demandUndone_4 : decode cX1_demandUndone 4 = .ok (.getfield 106, 3) := by decide +kernel
theorem dX1_demandUndone_7 : decode cX1_demandUndone 7 = .ok (.iload_n 1, 1) := by decide +kernel
theorem dX1_demandUndone_8 : decode cX1_demandUndone 8 = .ok (.iaload, 1) := by decide +kernel
theorem dX1_demandUndone_9 : decode cX1_demandUndone 9 = .ok (.istore_n 2, 1) := by decide +kernel
theorem dX1_demandUndone_10 : decode cX1_demandUndone 10 = .ok (.aload_n 0, 1) := by decide +kernel
theorem dX1_demandUndone_11 : decode cX1_demandUndone 11 = .ok (.getfield 16, 3) := by decide +kernel
theorem dX1_demandUndone_14 : decode cX1_demandUndone 14 = .ok (.iload_n 2, 1) := by decide +kernel
theorem dX1_demandUndone_15 : decode cX1_demandUndone 15 = .ok (.aload_n 0, 1) := by decide +kernel
theorem dX1_demandUndone_16 : decode cX1_demandUndone 16 = .ok (.getfield 16, 3) := by decide +kernel
theorem dX1_demandUndone_19 : decode cX1_demandUndone 19 = .ok (.getfield 75, 3) := by decide +kernel
theorem dX1_demandUndone_22 : decode cX1_demandUndone 22 = .ok (.iload_n 1, 1) := by decide +kernel
theorem dX1_demandUndone_23 : decode cX1_demandUndone 23 = .ok (.iaload, 1) := by decide +kernel
theorem dX1_demandUndone_24 : decode cX1_demandUndone 24 = .ok (.invokevirtual 78, 3) := by decide +kernel
theorem dX1_demandUndone_27 : decode cX1_demandUndone 27 = .ok (.ifCond .ne 4, 3) := by decide +kernel
theorem dX1_demandUndone_30 : decode cX1_demandUndone 30 = .ok (.return_, 1) := by decide +kernel
theorem dX1_demandUndone_31 : decode cX1_demandUndone 31 = .ok (.aload_n 0, 1) := by decide +kernel
theorem dX1_demandUndone_32 : decode cX1_demandUndone 32 = .ok (.iload_n 1, 1) := by decide +kernel
theorem dX1_demandUndone_33 : decode cX1_demandUndone 33 = .ok (.aload_n 0, 1) := by decide +kernel
theorem dX1_demandUndone_34 : decode cX1_demandUndone 34 = .ok (.getfield 16, 3) := by decide +kernel
theorem dX1_demandUndone_37 : decode cX1_demandUndone 37 = .ok (.getfield 106, 3) := by decide +kernel
theorem dX1_demandUndone_40 : decode cX1_demandUndone 40 = .ok (.iload_n 2, 1) := by decide +kernel
theorem dX1_demandUndone_41 : decode cX1_demandUndone 41 = .ok (.iaload, 1) := by decide +kernel
theorem dX1_demandUndone_42 : decode cX1_demandUndone 42 = .ok (.invokestatic 100, 3) := by decide +kernel
theorem dX1_demandUndone_45 : decode cX1_demandUndone 45 = .ok (.invokevirtual 69, 3) := by decide +kernel
theorem dX1_demandUndone_48 : decode cX1_demandUndone 48 = .ok (.aload_n 0, 1) := by decide +kernel
theorem dX1_demandUndone_49 : decode cX1_demandUndone 49 = .ok (.invokevirtual 72, 3) := by decide +kernel
theorem dX1_demandUndone_52 : decode cX1_demandUndone 52 = .ok (.return_, 1) := by decide +kernel
theorem dX1_demandRule_0 : decode cX1_demandRule 0 = .ok (.aload_n 0, 1) := by decide +kernel
theorem dX1_demandRule_1 : decode cX1_demandRule 1 = .ok (.getfield 16, 3) := by decide +kernel
theorem dX1_demandRule_4 : decode cX1_demandRule 4 = .ok (.getfield 106, 3) := by decide +kernel
theorem dX1_demandRule_7 : decode cX1_demandRule 7 = .ok (.iload_n 2, 1) := by decide +kernel
theorem dX1_demandRule_8 : decode cX1_demandRule 8 = .ok (.iaload, 1) := by decide +kernel
theorem dX1_demandRule_9 : decode cX1_demandRule 9 = .ok (.istore 4, 2) := by decide +kernel
theorem dX1_demandRule_11 : decode cX1_demandRule 11 = .ok (.aload_n 0, 1) := by decide +kernel
theorem dX1_demandRule_12 : decode cX1_demandRule 12 = .ok (.getfield 16, 3) := by decide +kernel
theorem dX1_demandRule_15 : decode cX1_demandRule 15 = .ok (.getfield 106, 3) := by decide +kernel
theorem dX1_demandRule_18 : decode cX1_demandRule 18 = .ok (.iload_n 3, 1) := by decide +kernel
theorem dX1_demandRule_19 : decode cX1_demandRule 19 = .ok (.iaload, 1) := by decide +kernel
theorem dX1_demandRule_20 : decode cX1_demandRule 20 = .ok (.istore 5, 2) := by decide +kernel
theorem dX1_demandRule_22 : decode cX1_demandRule 22 = .ok (.iload_n 1, 1) := by decide +kernel
theorem dX1_demandRule_23 : decode cX1_demandRule 23 = .ok (.bipush 105, 2) := by decide +kernel
theorem dX1_demandRule_25 : decode cX1_demandRule 25 = .ok (.if_icmp .ne 27, 3) := by decide +kernel
theorem dX1_demandRule_28 : decode cX1_demandRule 28 = .ok (.aload_n 0, 1) := by decide +kernel
theorem dX1_demandRule_29 : decode cX1_demandRule 29 = .ok (.iload 4, 2) := by decide +kernel
theorem dX1_demandRule_31 : decode cX1_demandRule 31 = .ok (.iload 5, 2) := by decide +kernel
theorem dX1_demandRule_33 : decode cX1_demandRule 33 = .ok (.invokestatic 100, 3) := by decide +kernel
theorem dX1_demandRule_36 : decode cX1_demandRule 36 = .ok (.invokevirtual 69, 3) := by decide +kernel
theorem dX1_demandRule_39 : decode cX1_demandRule 39 = .ok (.aload_n 0, 1) := by decide +kernel
theorem dX1_demandRule_40 : decode cX1_demandRule 40 = .ok (.iload_n 2, 1) := by decide +kernel
theorem dX1_demandRule_41 : decode cX1_demandRule 41 = .ok (.iload_n 3, 1) := by decide +kernel
theorem dX1_demandRule_42 : decode cX1_demandRule 42 = .ok (.invokestatic 109, 3) := by decide +kernel
theorem dX1_demandRule_45 : decode cX1_demandRule 45 = .ok (.invokevirtual 69, 3) := by decide +kernel
theorem dX1_demandRule_48 : decode cX1_demandRule 48 = .ok (.aload_n 0, 1) := by decide +kernel
theorem dX1_demandRule_49 : decode cX1_demandRule 49 = .ok (.invokevirtual 72, 3) := by decide +kernel
theorem dX1_demandRule_52 : decode cX1_demandRule 52 = .ok (.iload_n 1, 1) := by decide +kernel
theorem dX1_demandRule_53 : decode cX1_demandRule 53 = .ok (.bipush 99, 2) := by decide +kernel
theorem dX1_demandRule_55 : decode cX1_demandRule 55 = .ok (.if_icmp .ne 52, 3) := by decide +kernel
theorem dX1_demandRule_58 : decode cX1_demandRule 58 = .ok (.aload_n 0, 1) := by decide +kernel
theorem dX1_demandRule_59 : decode cX1_demandRule 59 = .ok (.iload_n 2, 1) := by decide +kernel
theorem dX1_demandRule_60 : decode cX1_demandRule 60 = .ok (.iload_n 3, 1) := by decide +kernel
theorem dX1_demandRule_61 : decode cX1_demandRule 61 = .ok (.invokestatic 100, 3) := by decide +kernel
theorem dX1_demandRule_64 : decode cX1_demandRule 64 = .ok (.invokevirtual 69, 3) := by decide +kernel
theorem dX1_demandRule_67 : decode cX1_demandRule 67 = .ok (.aload_n 0, 1) := by decide +kernel
theorem dX1_demandRule_68 : decode cX1_demandRule 68 = .ok (.iload 4, 2) := by decide +kernel
theorem dX1_demandRule_70 : decode cX1_demandRule 70 = .ok (.aload_n 0, 1) := by decide +kernel
theorem dX1_demandRule_71 : decode cX1_demandRule 71 = .ok (.getfield 16, 3) := by decide +kernel
theorem dX1_demandRule_74 : decode cX1_demandRule 74 = .ok (.getfield 112, 3) := by decide +kernel
theorem dX1_demandRule_77 : decode cX1_demandRule 77 = .ok (.iload_n 3, 1) := by decide +kernel
theorem dX1_demandRule_78 : decode cX1_demandRule 78 = .ok (.iaload, 1) := by decide +kernel
theorem dX1_demandRule_79 : decode cX1_demandRule 79 = .ok (.invokestatic 109, 3) := by decide +kernel
theorem dX1_demandRule_82 : decode cX1_demandRule 82 = .ok (.invokevirtual 69, 3) := by decide +kernel
theorem dX1_demandRule_85 : decode cX1_demandRule 85 = .ok (.aload_n 0, 1) := by decide +kernel
theorem dX1_demandRule_86 : decode cX1_demandRule 86 = .ok (.aload_n 0, 1) := by decide +kernel
theorem dX1_demandRule_87 : decode cX1_demandRule 87 = .ok (.getfield 16, 3) := by decide +kernel
theorem dX1_demandRule_90 : decode cX1_demandRule 90 = .ok (.getfield 112, 3) := by decide +kernel
theorem dX1_demandRule_93 : decode cX1_demandRule 93 = .ok (.iload_n 2, 1) := by decide +kernel
theorem dX1_demandRule_94 : decode cX1_demandRule 94 = .ok (.iaload, 1) := by decide +kernel
theorem dX1_demandRule_95 : decode cX1_demandRule 95 = .ok (.iload 5, 2) := by decide +kernel
theorem dX1_demandRule_97 : decode cX1_demandRule 97 = .ok (.invokestatic 109, 3) := by decide +kernel
theorem dX1_demandRule_100 : decode cX1_demandRule 100 = .ok (.invokevirtual 69, 3) := by decide +kernel
theorem dX1_demandRule_103 : decode cX1_demandRule 103 = .ok (.aload_n 0, 1) := by decide +kernel
theorem dX1_demandRule_104 : decode cX1_demandRule 104 = .ok (.invokevirtual 72, 3) := by decide +kernel
theorem dX1_demandRule_107 : decode cX1_demandRule 107 = .ok (.iload_n 1, 1) := by decide +kernel
theorem dX1_demandRule_108 : decode cX1_demandRule 108 = .ok (.bipush 109, 2) := by decide +kernel
theorem dX1_demandRule_110 : decode cX1_demandRule 110 = .ok (.if_icmp .ne 55, 3) := by decide +kernel
theorem dX1_demandRule_113 : decode cX1_demandRule 113 = .ok (.aload_n 0, 1) := by decide +kernel
theorem dX1_demandRule_114 : decode cX1_demandRule 114 = .ok (.iload_n 2, 1) := by decide +kernel
theorem dX1_demandRule_115 : decode cX1_demandRule 115 = .ok (.iload_n 3, 1) := by decide +kernel
theorem dX1_demandRule_116 : decode cX1_demandRule 116 = .ok (.iconst 0, 1) := by decide +kernel
theorem dX1_demandRule_117 : decode cX1_demandRule 117 = .ok (.invokestatic 115, 3) := by decide +kernel
theorem dX1_demandRule_120 : decode cX1_demandRule 120 = .ok (.invokevirtual 69, 3) := by decide +kernel
theorem dX1_demandRule_123 : decode cX1_demandRule 123 = .ok (.aload_n 0, 1) := by decide +kernel
theorem dX1_demandRule_124 : decode cX1_demandRule 124 = .ok (.iload 5, 2) := by decide +kernel
theorem dX1_demandRule_126 : decode cX1_demandRule 126 = .ok (.iload 4, 2) := by decide +kernel
theorem dX1_demandRule_128 : decode cX1_demandRule 128 = .ok (.iconst 0, 1) := by decide +kernel
theorem dX1_demandRule_129 : decode cX1_demandRule 129 = .ok (.invokestatic 115, 3) := by decide +kernel
theorem dX1_demandRule_132 : decode cX1_demandRule 132 = .ok (.invokevirtual 69, 3) := by decide +kernel
theorem dX1_demandRule_135 : decode cX1_demandRule 135 = .ok (.aload_n 0, 1) := by decide +kernel
theorem dX1_demandRule_136 : decode cX1_demandRule 136 = .ok (.invokevirtual 72, 3) := by decide +kernel
theorem dX1_demandRule_139 : decode cX1_demandRule 139 = .ok (.aload_n 0, 1) := by decide +kernel
theorem dX1_demandRule_140 : decode cX1_demandRule 140 = .ok (.iload_n 3, 1) := by decide +kernel
theorem dX1_demandRule_141 : decode cX1_demandRule 141 = .ok (.iload_n 2, 1) := by decide +kernel
theorem dX1_demandRule_142 : decode cX1_demandRule 142 = .ok (.iconst 0, 1) := by decide +kernel
theorem dX1_demandRule_143 : decode cX1_demandRule 143 = .ok (.invokestatic 115, 3) := by decide +kernel
theorem dX1_demandRule_146 : decode cX1_demandRule 146 = .ok (.invokevirtual 69, 3) := by decide +kernel
theorem dX1_demandRule_149 : decode cX1_demandRule 149 = .ok (.aload_n 0, 1) := by decide +kernel
theorem dX1_demandRule_150 : decode cX1_demandRule 150 = .ok (.iload 4, 2) := by decide +kernel
theorem dX1_demandRule_152 : decode cX1_demandRule 152 = .ok (.iload 5, 2) := by decide +kernel
theorem dX1_demandRule_154 : decode cX1_demandRule 154 = .ok (.iconst 0, 1) := by decide +kernel
theorem dX1_demandRule_155 : decode cX1_demandRule 155 = .ok (.invokestatic 115, 3) := by decide +kernel
theorem dX1_demandRule_158 : decode cX1_demandRule 158 = .ok (.invokevirtual 69, 3) := by decide +kernel
theorem dX1_demandRule_161 : decode cX1_demandRule 161 = .ok (.aload_n 0, 1) := by decide +kernel
theorem dX1_demandRule_162 : decode cX1_demandRule 162 = .ok (.invokevirtual 72, 3) := by decide +kernel
theorem dX1_demandRule_165 : decode cX1_demandRule 165 = .ok (.return_, 1) := by decide +kernel
theorem dX1_demandTold_0 : decode cX1_demandTold 0 = .ok (.aload_n 0, 1) := by decide +kernel
theorem dX1_demandTold_1 : decode cX1_demandTold 1 = .ok (.getfield 16, 3) := by decide +kernel
theorem dX1_demandTold_4 : decode cX1_demandTold 4 = .ok (.getfield 106, 3) := by decide +kernel
theorem dX1_demandTold_7 : decode cX1_demandTold 7 = .ok (.iload_n 1, 1) := by decide +kernel
theorem dX1_demandTold_8 : decode cX1_demandTold 8 = .ok (.iaload, 1) := by decide +kernel
theorem dX1_demandTold_9 : decode cX1_demandTold 9 = .ok (.istore_n 2, 1) := by decide +kernel
theorem dX1_demandTold_10 : decode cX1_demandTold 10 = .ok (.iconst 0, 1) := by decide +kernel
theorem dX1_demandTold_11 : decode cX1_demandTold 11 = .ok (.istore_n 3, 1) := by decide +kernel
theorem dX1_demandTold_12 : decode cX1_demandTold 12 = .ok (.iload_n 3, 1) := by decide +kernel
theorem dX1_demandTold_13 : decode cX1_demandTold 13 = .ok (.aload_n 0, 1) := by decide +kernel
theorem dX1_demandTold_14 : decode cX1_demandTold 14 = .ok (.getfield 16, 3) := by decide +kernel
theorem dX1_demandTold_17 : decode cX1_demandTold 17 = .ok (.getfield 41, 3) := by decide +kernel
theorem dX1_demandTold_20 : decode cX1_demandTold 20 = .ok (.if_icmp .ge 85, 3) := by decide +kernel
theorem dX1_demandTold_23 : decode cX1_demandTold 23 = .ok (.aload_n 0, 1) := by decide +kernel
theorem dX1_demandTold_24 : decode cX1_demandTold 24 = .ok (.getfield 16, 3) := by decide +kernel
theorem dX1_demandTold_27 : decode cX1_demandTold 27 = .ok (.getfield 44, 3) := by decide +kernel
theorem dX1_demandTold_30 : decode cX1_demandTold 30 = .ok (.iload_n 2, 1) := by decide +kernel
theorem dX1_demandTold_31 : decode cX1_demandTold 31 = .ok (.caload, 1) := by decide +kernel
theorem dX1_demandTold_32 : decode cX1_demandTold 32 = .ok (.bipush 119, 2) := by decide +kernel
theorem dX1_demandTold_34 : decode cX1_demandTold 34 = .ok (.if_icmp .ne 71, 3) := by decide +kernel
theorem dX1_demandTold_37 : decode cX1_demandTold 37 = .ok (.aload_n 0, 1) := by decide +kernel
theorem dX1_demandTold_38 : decode cX1_demandTold 38 = .ok (.iload_n 1, 1) := by decide +kernel
theorem dX1_demandTold_39 : decode cX1_demandTold 39 = .ok (.aload_n 0, 1) := by decide +kernel
theorem dX1_demandTold_40 : decode cX1_demandTold 40 = .ok (.getfield 16, 3) := by decide +kernel
theorem dX1_demandTold_43 : decode cX1_demandTold 43 = .ok (.getfield 119, 3) := by decide +kernel
theorem dX1_demandTold_46 : decode cX1_demandTold 46 = .ok (.iload_n 2, 1) := by decide +kernel
theorem dX1_demandTold_47 : decode cX1_demandTold 47 = .ok (.iaload, 1) := by decide +kernel
theorem dX1_demandTold_48 : decode cX1_demandTold 48 = .ok (.invokestatic 100, 3) := by decide +kernel
theorem dX1_demandTold_51 : decode cX1_demandTold 51 = .ok (.invokevirtual 69, 3) := by decide +kernel
theorem dX1_demandTold_54 : decode cX1_demandTold 54 = .ok (.aload_n 0, 1) := by decide +kernel
theorem dX1_demandTold_55 : decode cX1_demandTold 55 = .ok (.aload_n 0, 1) := by decide +kernel
theorem dX1_demandTold_56 : decode cX1_demandTold 56 = .ok (.getfield 16, 3) := by decide +kernel
theorem dX1_demandTold_59 : decode cX1_demandTold 59 = .ok (.getfield 112, 3) := by decide +kernel
theorem dX1_demandTold_62 : decode cX1_demandTold 62 = .ok (.iload_n 1, 1) := by decide +kernel
theorem dX1_demandTold_63 : decode cX1_demandTold 63 = .ok (.iaload, 1) := by decide +kernel
theorem dX1_demandTold_64 : decode cX1_demandTold 64 = .ok (.aload_n 0, 1) := by decide +kernel
theorem dX1_demandTold_65 : decode cX1_demandTold 65 = .ok (.getfield 16, 3) := by decide +kernel
theorem dX1_demandTold_68 : decode cX1_demandTold 68 = .ok (.getfield 112, 3) := by decide +kernel
theorem dX1_demandTold_71 : decode cX1_demandTold 71 = .ok (.iload_n 2, 1) := by decide +kernel
theorem dX1_demandTold_72 : decode cX1_demandTold 72 = .ok (.iaload, 1) := by decide +kernel
theorem dX1_demandTold_73 : decode cX1_demandTold 73 = .ok (.invokestatic 109, 3) := by decide +kernel
theorem dX1_demandTold_76 : decode cX1_demandTold 76 = .ok (.invokevirtual 69, 3) := by decide +kernel
theorem dX1_demandTold_79 : decode cX1_demandTold 79 = .ok (.aload_n 0, 1) := by decide +kernel
theorem dX1_demandTold_80 : decode cX1_demandTold 80 = .ok (.iload_n 1, 1) := by decide +kernel
theorem dX1_demandTold_81 : decode cX1_demandTold 81 = .ok (.iload_n 2, 1) := by decide +kernel
theorem dX1_demandTold_82 : decode cX1_demandTold 82 = .ok (.invokevirtual 122, 3) := by decide +kernel
theorem dX1_demandTold_85 : decode cX1_demandTold 85 = .ok (.aload_n 0, 1) := by decide +kernel
theorem dX1_demandTold_86 : decode cX1_demandTold 86 = .ok (.invokevirtual 72, 3) := by decide +kernel
theorem dX1_demandTold_89 : decode cX1_demandTold 89 = .ok (.aload_n 0, 1) := by decide +kernel
theorem dX1_demandTold_90 : decode cX1_demandTold 90 = .ok (.getfield 16, 3) := by decide +kernel
theorem dX1_demandTold_93 : decode cX1_demandTold 93 = .ok (.getfield 106, 3) := by decide +kernel
theorem dX1_demandTold_96 : decode cX1_demandTold 96 = .ok (.iload_n 2, 1) := by decide +kernel
theorem dX1_demandTold_97 : decode cX1_demandTold 97 = .ok (.iaload, 1) := by decide +kernel
theorem dX1_demandTold_98 : decode cX1_demandTold 98 = .ok (.istore_n 2, 1) := by decide +kernel
theorem dX1_demandTold_99 : decode cX1_demandTold 99 = .ok (.iinc 3 1, 3) := by decide +kernel
theorem dX1_demandTold_102 : decode cX1_demandTold 102 = .ok (.goto (-90), 3) := by decide +kernel
theorem dX1_demandTold_105 : decode cX1_demandTold 105 = .ok (.return_, 1) := by decide +kernel
theorem dX1_demandSameEntry_0 : decode cX1_demandSameEntry 0 = .ok (.aload_n 0, 1) := by decide +kernel
theorem dX1_demandSameEntry_1 : decode cX1_demandSameEntry 1 = .ok (.iload_n 1, 1) := by decide +kernel
theorem dX1_demandSameEntry_2 : decode cX1_demandSameEntry 2 = .ok (.iload_n 2, 1) := by decide +kernel
theorem dX1_demandSameEntry_3 : decode cX1_demandSameEntry 3 = .ok (.invokestatic 100, 3) := by decide +kernel
theorem dX1_demandSameEntry_6 : decode cX1_demandSameEntry 6 = .ok (.invokevirtual 69, 3) := by decide +kernel
theorem dX1_demandSameEntry_9 : decode cX1_demandSameEntry 9 = .ok (.aload_n 0, 1) := by decide +kernel
theorem dX1_demandSameEntry_10 : decode cX1_demandSameEntry 10 = .ok (.aload_n 0, 1) := by decide +kernel
theorem dX1_demandSameEntry_11 : decode cX1_demandSameEntry 11 = .ok (.getfield 16, 3) := by decide +kernel
theorem dX1_demandSameEntry_14 : decode cX1_demandSameEntry 14 = .ok (.getfield 112, 3) := by decide +kernel
theorem dX1_demandSameEntry_17 : decode cX1_demandSameEntry 17 = .ok (.iload_n 1, 1) := by decide +kernel
theorem dX1_demandSameEntry_18 : decode cX1_demandSameEntry 18 = .ok (.iaload, 1) := by decide +kernel
theorem dX1_demandSameEntry_19 : decode cX1_demandSameEntry 19 = .ok (.aload_n 0, 1) := by decide +kernel
theorem dX1_demandSameEntry_20 : decode cX1_demandSameEntry 20 = .ok (.getfield 16, 3) := by decide +kernel
theorem dX1_demandSameEntry_23 : decode cX1_demandSameEntry 23 = .ok (.getfield 112, 3) := by decide +kernel
theorem dX1_demandSameEntry_26 : decode cX1_demandSameEntry 26 = .ok (.iload_n 2, 1) := by decide +kernel
theorem dX1_demandSameEntry_27 : decode cX1_demandSameEntry 27 = .ok (.iaload, 1) := by decide +kernel
theorem dX1_demandSameEntry_28 : decode cX1_demandSameEntry 28 = .ok (.invokestatic 109, 3) := by decide +kernel
theorem dX1_demandSameEntry_31 : decode cX1_demandSameEntry 31 = .ok (.invokevirtual 69, 3) := by decide +kernel
theorem dX1_demandSameEntry_34 : decode cX1_demandSameEntry 34 = .ok (.aload_n 0, 1) := by decide +kernel
theorem dX1_demandSameEntry_35 : decode cX1_demandSameEntry 35 = .ok (.iload_n 1, 1) := by decide +kernel
theorem dX1_demandSameEntry_36 : decode cX1_demandSameEntry 36 = .ok (.iconst (-1), 1) := by decide +kernel
theorem dX1_demandSameEntry_37 : decode cX1_demandSameEntry 37 = .ok (.invokevirtual 122, 3) := by decide +kernel
theorem dX1_demandSameEntry_40 : decode cX1_demandSameEntry 40 = .ok (.aload_n 0, 1) := by decide +kernel
theorem dX1_demandSameEntry_41 : decode cX1_demandSameEntry 41 = .ok (.iload_n 2, 1) := by decide +kernel
theorem dX1_demandSameEntry_42 : decode cX1_demandSameEntry 42 = .ok (.iconst (-1), 1) := by decide +kernel
theorem dX1_demandSameEntry_43 : decode cX1_demandSameEntry 43 = .ok (.invokevirtual 122, 3) := by decide +kernel
theorem dX1_demandSameEntry_46 : decode cX1_demandSameEntry 46 = .ok (.aload_n 0, 1) := by decide +kernel
theorem dX1_demandSameEntry_47 : decode cX1_demandSameEntry 47 = .ok (.invokevirtual 72, 3) := by decide +kernel
theorem dX1_demandSameEntry_50 : decode cX1_demandSameEntry 50 = .ok (.return_, 1) := by decide +kernel
theorem dX1_putStopped_0 : decode cX1_putStopped 0 = .ok (.aload_n 0, 1) := by decide +kernel
theorem dX1_putStopped_1 : decode cX1_putStopped 1 = .ok (.getfield 16, 3) := by decide +kernel
theorem dX1_putStopped_4 : decode cX1_putStopped 4 = .ok (.getfield 106, 3) := by decide +kernel
theorem dX1_putStopped_7 : decode cX1_putStopped 7 = .ok (.iload_n 1, 1) := by decide +kernel
theorem dX1_putStopped_8 : decode cX1_putStopped 8 = .ok (.iaload, 1) := by decide +kernel
theorem dX1_putStopped_9 : decode cX1_putStopped 9 = .ok (.istore_n 3, 1) := by decide +kernel
theorem dX1_putStopped_10 : decode cX1_putStopped 10 = .ok (.iconst 0, 1) := by decide +kernel
theorem dX1_putStopped_11 : decode cX1_putStopped 11 = .ok (.istore 4, 2) := by decide +kernel
theorem dX1_putStopped_13 : decode cX1_putStopped 13 = .ok (.iload 4, 2) := by decide +kernel
theorem dX1_putStopped_15 : decode cX1_putStopped 15 = .ok (.aload_n 0, 1) := by decide +kernel
theorem dX1_putStopped_16 : decode cX1_putStopped 16 = .ok (.getfield 16, 3) := by decide +kernel
theorem dX1_putStopped_19 : decode cX1_putStopped 19 = .ok (.getfield 41, 3) := by decide +kernel
theorem dX1_putStopped_22 : decode cX1_putStopped 22 = .ok (.if_icmp .ge 63, 3) := by decide +kernel
theorem dX1_putStopped_25 : decode cX1_putStopped 25 = .ok (.iload_n 3, 1) := by decide +kernel
theorem dX1_putStopped_26 : decode cX1_putStopped 26 = .ok (.iload_n 2, 1) := by decide +kernel
theorem dX1_putStopped_27 : decode cX1_putStopped 27 = .ok (.if_icmp .eq 58, 3) := by decide +kernel
theorem dX1_putStopped_30 : decode cX1_putStopped 30 = .ok (.aload_n 0, 1) := by decide +kernel
theorem dX1_putStopped_31 : decode cX1_putStopped 31 = .ok (.getfield 16, 3) := by decide +kernel
theorem dX1_putStopped_34 : decode cX1_putStopped 34 = .ok (.getfield 44, 3) := by decide +kernel
theorem dX1_putStopped_37 : decode cX1_putStopped 37 = .ok (.iload_n 3, 1) := by decide +kernel
theorem dX1_putStopped_38 : decode cX1_putStopped 38 = .ok (.caload, 1) := by decide +kernel
theorem dX1_putStopped_39 : decode cX1_putStopped 39 = .ok (.bipush 119, 2) := by decide +kernel
theorem dX1_putStopped_41 : decode cX1_putStopped 41 = .ok (.if_icmp .ne 44, 3) := by decide +kernel
theorem dX1_putStopped_44 : decode cX1_putStopped 44 = .ok (.aload_n 0, 1) := by decide +kernel
theorem dX1_putStopped_45 : decode cX1_putStopped 45 = .ok (.aload_n 0, 1) := by decide +kernel
theorem dX1_putStopped_46 : decode cX1_putStopped 46 = .ok (.getfield 16, 3) := by decide +kernel
theorem dX1_putStopped_49 : decode cX1_putStopped 49 = .ok (.getfield 112, 3) := by decide +kernel
theorem dX1_putStopped_52 : decode cX1_putStopped 52 = .ok (.iload_n 1, 1) := by decide +kernel
theorem dX1_putStopped_53 : decode cX1_putStopped 53 = .ok (.iaload, 1) := by decide +kernel
theorem dX1_putStopped_54 : decode cX1_putStopped 54 = .ok (.aload_n 0, 1) := by decide +kernel
theorem dX1_putStopped_55 : decode cX1_putStopped 55 = .ok (.getfield 16, 3) := by decide +kernel
theorem dX1_putStopped_58 : decode cX1_putStopped 58 = .ok (.getfield 112, 3) := by decide +kernel
theorem dX1_putStopped_61 : decode cX1_putStopped 61 = .ok (.iload_n 3, 1) := by decide +kernel
theorem dX1_putStopped_62 : decode cX1_putStopped 62 = .ok (.iaload, 1) := by decide +kernel
theorem dX1_putStopped_63 : decode cX1_putStopped 63 = .ok (.invokestatic 100, 3) := by decide +kernel
theorem dX1_putStopped_66 : decode cX1_putStopped 66 = .ok (.invokevirtual 69, 3) := by decide +kernel
theorem dX1_putStopped_69 : decode cX1_putStopped 69 = .ok (.aload_n 0, 1) := by decide +kernel
theorem dX1_putStopped_70 : decode cX1_putStopped 70 = .ok (.getfield 16, 3) := by decide +kernel
theorem dX1_putStopped_73 : decode cX1_putStopped 73 = .ok (.getfield 106, 3) := by decide +kernel
theorem dX1_putStopped_76 : decode cX1_putStopped 76 = .ok (.iload_n 3, 1) := by decide +kernel
theorem dX1_putStopped_77 : decode cX1_putStopped 77 = .ok (.iaload, 1) := by decide +kernel
theorem dX1_putStopped_78 : decode cX1_putStopped 78 = .ok (.istore_n 3, 1) := by decide +kernel
theorem dX1_putStopped_79 : decode cX1_putStopped 79 = .ok (.iinc 4 1, 3) := by decide +kernel
theorem dX1_putStopped_82 : decode cX1_putStopped 82 = .ok (.goto (-69), 3) := by decide +kernel
theorem dX1_putStopped_85 : decode cX1_putStopped 85 = .ok (.return_, 1) := by decide +kernel
theorem dX1_put_0 : decode cX1_put 0 = .ok (.aload_n 0, 1) := by decide +kernel
theorem dX1_put_1 : decode cX1_put 1 = .ok (.getfield 28, 3) := by decide +kernel
theorem dX1_put_4 : decode cX1_put 4 = .ok (.aload_n 0, 1) := by decide +kernel
theorem dX1_put_5 : decode cX1_put 5 = .ok (.getfield 7, 3) := by decide +kernel
theorem dX1_put_8 : decode cX1_put 8 = .ok (.arraylength, 1) := by decide +kernel
theorem dX1_put_9 : decode cX1_put 9 = .ok (.if_icmp .lt 21, 3) := by decide +kernel
theorem dX1_put_12 : decode cX1_put 12 = .ok (.aload_n 0, 1) := by decide +kernel
theorem dX1_put_13 : decode cX1_put 13 = .ok (.aload_n 0, 1) := by decide +kernel
theorem dX1_put_14 : decode cX1_put 14 = .ok (.getfield 7, 3) := by decide +kernel
theorem dX1_put_17 : decode cX1_put 17 = .ok (.iconst 2, 1) := by decide +kernel
theorem dX1_put_18 : decode cX1_put 18 = .ok (.aload_n 0, 1) := by decide +kernel
theorem dX1_put_19 : decode cX1_put 19 = .ok (.getfield 7, 3) := by decide +kernel
theorem dX1_put_22 : decode cX1_put 22 = .ok (.arraylength, 1) := by decide +kernel
theorem dX1_put_23 : decode cX1_put 23 = .ok (.imul, 1) := by decide +kernel
theorem dX1_put_24 : decode cX1_put 24 = .ok (.invokestatic 125, 3) := by decide +kernel
theorem dX1_put_27 : decode cX1_put 27 = .ok (.putfield 7, 3) := by decide +kernel
theorem dX1_put_30 : decode cX1_put 30 = .ok (.aload_n 0, 1) := by decide +kernel
theorem dX1_put_31 : decode cX1_put 31 = .ok (.getfield 7, 3) := by decide +kernel
theorem dX1_put_34 : decode cX1_put 34 = .ok (.aload_n 0, 1) := by decide +kernel
theorem dX1_put_35 : decode cX1_put 35 = .ok (.getfield 28, 3) := by decide +kernel
theorem dX1_put_38 : decode cX1_put 38 = .ok (.iload_n 1, 1) := by decide +kernel
theorem dX1_put_39 : decode cX1_put 39 = .ok (.iastore, 1) := by decide +kernel
theorem dX1_put_40 : decode cX1_put 40 = .ok (.aload_n 0, 1) := by decide +kernel
theorem dX1_put_41 : decode cX1_put 41 = .ok (.dup, 1) := by decide +kernel
theorem dX1_put_42 : decode cX1_put 42 = .ok (.getfield 28, 3) := by decide +kernel
theorem dX1_put_45 : decode cX1_put 45 = .ok (.iconst 1, 1) := by decide +kernel
theorem dX1_put_46 : decode cX1_put 46 = .ok (.iadd, 1) := by decide +kernel
theorem dX1_put_47 : decode cX1_put 47 = .ok (.putfield 28, 3) := by decide +kernel
theorem dX1_put_50 : decode cX1_put 50 = .ok (.return_, 1) := by decide +kernel
theorem dX1_close_0 : decode cX1_close 0 = .ok (.aload_n 0, 1) := by decide +kernel
theorem dX1_close_1 : decode cX1_close 1 = .ok (.getfield 24, 3) := by decide +kernel
theorem dX1_close_4 : decode cX1_close 4 = .ok (.aload_n 0, 1) := by decide +kernel
theorem dX1_close_5 : decode cX1_close 5 = .ok (.getfield 13, 3) := by decide +kernel
theorem dX1_close_8 : decode cX1_close 8 = .ok (.arraylength, 1) := by decide +kernel
theorem dX1_close_9 : decode cX1_close 9 = .ok (.if_icmp .lt 21, 3) := by decide +kernel
theorem dX1_close_12 : decode cX1_close 12 = .ok (.aload_n 0, 1) := by decide +kernel
theorem dX1_close_13 : decode cX1_close 13 = .ok (.aload_n 0, 1) := by decide +kernel
theorem dX1_close_14 : decode cX1_close 14 = .ok (.getfield 13, 3) := by decide +kernel
theorem dX1_close_17 : decode cX1_close 17 = .ok (.iconst 2, 1) := by decide +kernel
theorem dX1_close_18 : decode cX1_close 18 = .ok (.aload_n 0, 1) := by decide +kernel
theorem dX1_close_19 : decode cX1_close 19 = .ok (.getfield 13, 3) := by decide +kernel
theorem dX1_close_22 : decode cX1_close 22 = .ok (.arraylength, 1) := by decide +kernel
theorem dX1_close_23 : decode cX1_close 23 = .ok (.imul, 1) := by decide +kernel
theorem dX1_close_24 : decode cX1_close 24 = .ok (.invokestatic 125, 3) := by decide +kernel
theorem dX1_close_27 : decode cX1_close 27 = .ok (.putfield 13, 3) := by decide +kernel
theorem dX1_close_30 : decode cX1_close 30 = .ok (.aload_n 0, 1) := by decide +kernel
theorem dX1_close_31 : decode cX1_close 31 = .ok (.getfield 13, 3) := by decide +kernel
theorem dX1_close_34 : decode cX1_close 34 = .ok (.aload_n 0, 1) := by decide +kernel
theorem dX1_close_35 : decode cX1_close 35 = .ok (.getfield 24, 3) := by decide +kernel
theorem dX1_close_38 : decode cX1_close 38 = .ok (.aload_n 0, 1) := by decide +kernel
theorem dX1_close_39 : decode cX1_close 39 = .ok (.getfield 28, 3) := by decide +kernel
theorem dX1_close_42 : decode cX1_close 42 = .ok (.iastore, 1) := by decide +kernel
theorem dX1_close_43 : decode cX1_close 43 = .ok (.aload_n 0, 1) := by decide +kernel
theorem dX1_close_44 : decode cX1_close 44 = .ok (.dup, 1) := by decide +kernel
theorem dX1_close_45 : decode cX1_close 45 = .ok (.getfield 24, 3) := by decide +kernel
theorem dX1_close_48 : decode cX1_close 48 = .ok (.iconst 1, 1) := by decide +kernel
theorem dX1_close_49 : decode cX1_close 49 = .ok (.iadd, 1) := by decide +kernel
theorem dX1_close_50 : decode cX1_close 50 = .ok (.putfield 24, 3) := by decide +kernel
theorem dX1_close_53 : decode cX1_close 53 = .ok (.return_, 1) := by decide +kernel
