theorem dL_constant_0 : decode cL_constant 0 = .ok (.aload_n 1, 1) := by decide +kernel
theorem dL_constant_1 : decode cL_constant 1 = .ok (.iconst 0, 1) := by decide +kernel
theorem dL_constant_2 : decode cL_constant 2 = .ok (.aload_n 0, 1) := by decide +kernel
theorem dL_constant_3 : decode cL_constant 3 = .ok (.invokevirtual 7, 3) := by decide +kernel
theorem dL_constant_6 : decode cL_constant 6 = .ok (.i2l, 1) := by decide +kernel
theorem dL_constant_7 : decode cL_constant 7 = .ok (.lastore, 1) := by decide +kernel
theorem dL_constant_8 : decode cL_constant 8 = .ok (.goto 6, 3) := by decide +kernel
theorem dL_constant_11 : decode cL_constant 11 = .ok (.astore_n 2, 1) := by decide +kernel
theorem dL_constant_12 : decode cL_constant 12 = .ok (.iconst 1, 1) := by decide +kernel
theorem dL_constant_13 : decode cL_constant 13 = .ok (.ireturn, 1) := by decide +kernel
theorem dL_constant_14 : decode cL_constant 14 = .ok (.iconst 0, 1) := by decide +kernel
theorem dL_constant_15 : decode cL_constant 15 = .ok (.ireturn, 1) := by decide +kernel
theorem dL_array_0 : decode cL_array 0 = .ok (.aload_n 1, 1) := by decide +kernel
theorem dL_array_1 : decode cL_array 1 = .ok (.iconst 0, 1) := by decide +kernel
theorem dL_array_2 : decode cL_array 2 = .ok (.aload_n 0, 1) := by decide +kernel
theorem dL_array_3 : decode cL_array 3 = .ok (.invokevirtual 15, 3) := by decide +kernel
theorem dL_array_6 : decode cL_array 6 = .ok (.i2l, 1) := by decide +kernel
theorem dL_array_7 : decode cL_array 7 = .ok (.lastore, 1) := by decide +kernel
theorem dL_array_8 : decode cL_array 8 = .ok (.goto 6, 3) := by decide +kernel
theorem dL_array_11 : decode cL_array 11 = .ok (.astore_n 2, 1) := by decide +kernel
theorem dL_array_12 : decode cL_array 12 = .ok (.iconst 1, 1) := by decide +kernel
theorem dL_array_13 : decode cL_array 13 = .ok (.ireturn, 1) := by decide +kernel
theorem dL_array_14 : decode cL_array 14 = .ok (.iconst 0, 1) := by decide +kernel
theorem dL_array_15 : decode cL_array 15 = .ok (.ireturn, 1) := by decide +kernel
theorem dL_apply_0 : decode cL_apply 0 = .ok (.aload 4, 2) := by decide +kernel
theorem dL_apply_2 : decode cL_apply 2 = .ok (.iconst 0, 1) := by decide +kernel
theorem dL_apply_3 : decode cL_apply 3 = .ok (.aload_n 0, 1) := by decide +kernel
theorem dL_apply_4 : decode cL_apply 4 = .ok (.iload_n 1, 1) := by decide +kernel
theorem dL_apply_5 : decode cL_apply 5 = .ok (.iload_n 2, 1) := by decide +kernel
theorem dL_apply_6 : decode cL_apply 6 = .ok (.iload_n 3, 1) := by decide +kernel
theorem dL_apply_7 : decode cL_apply 7 = .ok (.invokevirtual 18, 3) := by decide +kernel
theorem dL_apply_10 : decode cL_apply 10 = .ok (.i2l, 1) := by decide +kernel
theorem dL_apply_11 : decode cL_apply 11 = .ok (.lastore, 1) := by decide +kernel
theorem dL_apply_12 : decode cL_apply 12 = .ok (.goto 15, 3) := by decide +kernel
theorem dL_apply_15 : decode cL_apply 15 = .ok (.astore 5, 2) := by decide +kernel
theorem dL_apply_17 : decode cL_apply 17 = .ok (.iconst 1, 1) := by decide +kernel
theorem dL_apply_18 : decode cL_apply 18 = .ok (.ireturn, 1) := by decide +kernel
theorem dL_apply_19 : decode cL_apply 19 = .ok (.astore 5, 2) := by decide +kernel
theorem dL_apply_21 : decode cL_apply 21 = .ok (.iconst 2, 1) := by decide +kernel
theorem dL_apply_22 : decode cL_apply 22 = .ok (.ireturn, 1) := by decide +kernel
theorem dL_apply_23 : decode cL_apply 23 = .ok (.astore 5, 2) := by decide +kernel
theorem dL_apply_25 : decode cL_apply 25 = .ok (.iconst 3, 1) := by decide +kernel
theorem dL_apply_26 : decode cL_apply 26 = .ok (.ireturn, 1) := by decide +kernel
theorem dL_apply_27 : decode cL_apply 27 = .ok (.iconst 0, 1) := by decide +kernel
theorem dL_apply_28 : decode cL_apply 28 = .ok (.ireturn, 1) := by decide +kernel
theorem dL_read_0 : decode cL_read 0 = .ok (.aload_n 3, 1) := by decide +kernel
theorem dL_read_1 : decode cL_read 1 = .ok (.iconst 0, 1) := by decide +kernel
theorem dL_read_2 : decode cL_read 2 = .ok (.aload_n 0, 1) := by decide +kernel
theorem dL_read_3 : decode cL_read 3 = .ok (.iload_n 1, 1) := by decide +kernel
theorem dL_read_4 : decode cL_read 4 = .ok (.iload_n 2, 1) := by decide +kernel
theorem dL_read_5 : decode cL_read 5 = .ok (.invokevirtual 26, 3) := by decide +kernel
theorem dL_read_8 : decode cL_read 8 = .ok (.i2l, 1) := by decide +kernel
theorem dL_read_9 : decode cL_read 9 = .ok (.lastore, 1) := by decide +kernel
theorem dL_read_10 : decode cL_read 10 = .ok (.goto 11, 3) := by decide +kernel
theorem dL_read_13 : decode cL_read 13 = .ok (.astore 4, 2) := by decide +kernel
theorem dL_read_15 : decode cL_read 15 = .ok (.iconst 1, 1) := by decide +kernel
theorem dL_read_16 : decode cL_read 16 = .ok (.ireturn, 1) := by decide +kernel
theorem dL_read_17 : decode cL_read 17 = .ok (.astore 4, 2) := by decide +kernel
theorem dL_read_19 : decode cL_read 19 = .ok (.iconst 2, 1) := by decide +kernel
theorem dL_read_20 : decode cL_read 20 = .ok (.ireturn, 1) := by decide +kernel
theorem dL_read_21 : decode cL_read 21 = .ok (.iconst 0, 1) := by decide +kernel
theorem dL_read_22 : decode cL_read 22 = .ok (.ireturn, 1) := by decide +kernel
theorem dL_write_0 : decode cL_write 0 = .ok (.aload 4, 2) := by decide +kernel
theorem dL_write_2 : decode cL_write 2 = .ok (.iconst 0, 1) := by decide +kernel
theorem dL_write_3 : decode cL_write 3 = .ok (.aload_n 0, 1) := by decide +kernel
theorem dL_write_4 : decode cL_write 4 = .ok (.iload_n 1, 1) := by decide +kernel
theorem dL_write_5 : decode cL_write 5 = .ok (.iload_n 2, 1) := by decide +kernel
theorem dL_write_6 : decode cL_write 6 = .ok (.iload_n 3, 1) := by decide +kernel
theorem dL_write_7 : decode cL_write 7 = .ok (.invokevirtual 30, 3) := by decide +kernel
theorem dL_write_10 : decode cL_write 10 = .ok (.i2l, 1) := by decide +kernel
theorem dL_write_11 : decode cL_write 11 = .ok (.lastore, 1) := by decide +kernel
theorem dL_write_12 : decode cL_write 12 = .ok (.goto 11, 3) := by decide +kernel
theorem dL_write_15 : decode cL_write 15 = .ok (.astore 5, 2) := by decide +kernel
theorem dL_write_17 : decode cL_write 17 = .ok (.iconst 1, 1) := by decide +kernel
theorem dL_write_18 : decode cL_write 18 = .ok (.ireturn, 1) := by decide +kernel
theorem dL_write_19 : decode cL_write 19 = .ok (.astore 5, 2) := by decide +kernel
theorem dL_write_21 : decode cL_write 21 = .ok (.iconst 2, 1) := by decide +kernel
theorem dL_write_22 : decode cL_write 22 = .ok (.ireturn, 1) := by decide +kernel
theorem dL_write_23 : decode cL_write 23 = .ok (.iconst 0, 1) := by decide +kernel
theorem dL_write_24 : decode cL_write 24 = .ok (.ireturn, 1) := by decide +kernel
theorem dL_kindOf_0 : decode cL_kindOf 0 = .ok (.aload_n 2, 1) := by decide +kernel
theorem dL_kindOf_1 : decode cL_kindOf 1 = .ok (.iconst 0, 1) := by decide +kernel
theorem dL_kindOf_2 : decode cL_kindOf 2 = .ok (.aload_n 0, 1) := by decide +kernel
theorem dL_kindOf_3 : decode cL_kindOf 3 = .ok (.iload_n 1, 1) := by decide +kernel
theorem dL_kindOf_4 : decode cL_kindOf 4 = .ok (.invokevirtual 33, 3) := by decide +kernel
theorem dL_kindOf_7 : decode cL_kindOf 7 = .ok (.i2l, 1) := by decide +kernel
theorem dL_kindOf_8 : decode cL_kindOf 8 = .ok (.lastore, 1) := by decide +kernel
theorem dL_kindOf_9 : decode cL_kindOf 9 = .ok (.goto 6, 3) := by decide +kernel
theorem dL_kindOf_12 : decode cL_kindOf 12 = .ok (.astore_n 3, 1) := by decide +kernel
theorem dL_kindOf_13 : decode cL_kindOf 13 = .ok (.iconst 1, 1) := by decide +kernel
theorem dL_kindOf_14 : decode cL_kindOf 14 = .ok (.ireturn, 1) := by decide +kernel
theorem dL_kindOf_15 : decode cL_kindOf 15 = .ok (.iconst 0, 1) := by decide +kernel
theorem dL_kindOf_16 : decode cL_kindOf 16 = .ok (.ireturn, 1) := by decide +kernel
theorem dL_equal_0 : decode cL_equal 0 = .ok (.aload_n 3, 1) := by decide +kernel
theorem dL_equal_1 : decode cL_equal 1 = .ok (.iconst 0, 1) := by decide +kernel
theorem dL_equal_2 : decode cL_equal 2 = .ok (.aload_n 0, 1) := by decide +kernel
theorem dL_equal_3 : decode cL_equal 3 = .ok (.iload_n 1, 1) := by decide +kernel
theorem dL_equal_4 : decode cL_equal 4 = .ok (.iload_n 2, 1) := by decide +kernel
theorem dL_equal_5 : decode cL_equal 5 = .ok (.invokevirtual 37, 3) := by decide +kernel
theorem dL_equal_8 : decode cL_equal 8 = .ok (.i2l, 1) := by decide +kernel
theorem dL_equal_9 : decode cL_equal 9 = .ok (.lastore, 1) := by decide +kernel
theorem dL_equal_10 : decode cL_equal 10 = .ok (.goto 11, 3) := by decide +kernel
theorem dL_equal_13 : decode cL_equal 13 = .ok (.astore 4, 2) := by decide +kernel
theorem dL_equal_15 : decode cL_equal 15 = .ok (.iconst 1, 1) := by decide +kernel
theorem dL_equal_16 : decode cL_equal 16 = .ok (.ireturn, 1) := by decide +kernel
theorem dL_equal_17 : decode cL_equal 17 = .ok (.astore 4, 2) := by decide +kernel
theorem dL_equal_19 : decode cL_equal 19 = .ok (.iconst 2, 1) := by decide +kernel
theorem dL_equal_20 : decode cL_equal 20 = .ok (.ireturn, 1) := by decide +kernel
theorem dL_equal_21 : decode cL_equal 21 = .ok (.iconst 0, 1) := by decide +kernel
theorem dL_equal_22 : decode cL_equal 22 = .ok (.ireturn, 1) := by decide +kernel
theorem dL_atMost_0 : decode cL_atMost 0 = .ok (.aload 4, 2) := by decide +kernel
theorem dL_atMost_2 : decode cL_atMost 2 = .ok (.iconst 0, 1) := by decide +kernel
theorem dL_atMost_3 : decode cL_atMost 3 = .ok (.aload_n 0, 1) := by decide +kernel
theorem dL_atMost_4 : decode cL_atMost 4 = .ok (.iload_n 1, 1) := by decide +kernel
theorem dL_atMost_5 : decode cL_atMost 5 = .ok (.iload_n 2, 1) := by decide +kernel
theorem dL_atMost_6 : decode cL_atMost 6 = .ok (.iload_n 3, 1) := by decide +kernel
theorem dL_atMost_7 : decode cL_atMost 7 = .ok (.invokevirtual 40, 3) := by decide +kernel
theorem dL_atMost_10 : decode cL_atMost 10 = .ok (.i2l, 1) := by decide +kernel
theorem dL_atMost_11 : decode cL_atMost 11 = .ok (.lastore, 1) := by decide +kernel
theorem dL_atMost_12 : decode cL_atMost 12 = .ok (.goto 15, 3) := by decide +kernel
theorem dL_atMost_15 : decode cL_atMost 15 = .ok (.astore 5, 2) := by decide +kernel
theorem dL_atMost_17 : decode cL_atMost 17 = .ok (.iconst 1, 1) := by decide +kernel
theorem dL_atMost_18 : decode cL_atMost 18 = .ok (.ireturn, 1) := by decide +kernel
theorem dL_atMost_19 : decode cL_atMost 19 = .ok (.astore 5, 2) := by decide +kernel
theorem dL_atMost_21 : decode cL_atMost 21 = .ok (.iconst 2, 1) := by decide +kernel
theorem dL_atMost_22 : decode cL_atMost 22 = .ok (.ireturn, 1) := by decide +kernel
theorem dL_atMost_23 : decode cL_atMost 23 = .ok (.astore 5, 2) := by decide +kernel
theorem dL_atMost_25 : decode cL_atMost 25 = .ok (.iconst 3, 1) := by decide +kernel
theorem dL_atMost_26 : decode cL_atMost 26 = .ok (.ireturn, 1) := by decide +kernel
theorem dL_atMost_27 : decode cL_atMost 27 = .ok (.iconst 0, 1) := by decide +kernel
theorem dL_atMost_28 : decode cL_atMost 28 = .ok (.ireturn, 1) := by decide +kernel
theorem dL_clause_0 : decode cL_clause 0 = .ok (.aload 4, 2) := by decide +kernel
theorem dL_clause_2 : decode cL_clause 2 = .ok (.iconst 0, 1) := by decide +kernel
theorem dL_clause_3 : decode cL_clause 3 = .ok (.aload_n 0, 1) := by decide +kernel
theorem dL_clause_4 : decode cL_clause 4 = .ok (.iload_n 1, 1) := by decide +kernel
theorem dL_clause_5 : decode cL_clause 5 = .ok (.iload_n 2, 1) := by decide +kernel
theorem dL_clause_6 : decode cL_clause 6 = .ok (.iload_n 3, 1) := by decide +kernel
theorem dL_clause_7 : decode cL_clause 7 = .ok (.invokevirtual 43, 3) := by decide +kernel
theorem dL_clause_10 : decode cL_clause 10 = .ok (.i2l, 1) := by decide +kernel
theorem dL_clause_11 : decode cL_clause 11 = .ok (.lastore, 1) := by decide +kernel
theorem dL_clause_12 : decode cL_clause 12 = .ok (.goto 11, 3) := by decide +kernel
theorem dL_clause_15 : decode cL_clause 15 = .ok (.astore 5, 2) := by decide +kernel
theorem dL_clause_17 : decode cL_clause 17 = .ok (.iconst 1, 1) := by decide +kernel
theorem dL_clause_18 : decode cL_clause 18 = .ok (.ireturn, 1) := by decide +kernel
theorem dL_clause_19 : decode cL_clause 19 = .ok (.astore 5, 2) := by decide +kernel
theorem dL_clause_21 : decode cL_clause 21 = .ok (.iconst 2, 1) := by decide +kernel
theorem dL_clause_22 : decode cL_clause 22 = .ok (.ireturn, 1) := by decide +kernel
theorem dL_clause_23 : decode cL_clause 23 = .ok (.iconst 0, 1) := by decide +kernel
theorem dL_clause_24 : decode cL_clause 24 = .ok (.ireturn, 1) := by decide +kernel
theorem dL_rule_0 : decode cL_rule 0 = .ok (.aload_n 3, 1) := by decide +kernel
theorem dL_rule_1 : decode cL_rule 1 = .ok (.iconst 0, 1) := by decide +kernel
theorem dL_rule_2 : decode cL_rule 2 = .ok (.aload_n 0, 1) := by decide +kernel
theorem dL_rule_3 : decode cL_rule 3 = .ok (.iload_n 1, 1) := by decide +kernel
theorem dL_rule_4 : decode cL_rule 4 = .ok (.iload_n 2, 1) := by decide +kernel
theorem dL_rule_5 : decode cL_rule 5 = .ok (.invokevirtual 46, 3) := by decide +kernel
theorem dL_rule_8 : decode cL_rule 8 = .ok (.i2l, 1) := by decide +kernel
theorem dL_rule_9 : decode cL_rule 9 = .ok (.lastore, 1) := by decide +kernel
theorem dL_rule_10 : decode cL_rule 10 = .ok (.goto 11, 3) := by decide +kernel
theorem dL_rule_13 : decode cL_rule 13 = .ok (.astore 4, 2) := by decide +kernel
theorem dL_rule_15 : decode cL_rule 15 = .ok (.iconst 1, 1) := by decide +kernel
theorem dL_rule_16 : decode cL_rule 16 = .ok (.ireturn, 1) := by decide +kernel
theorem dL_rule_17 : decode cL_rule 17 = .ok (.astore 4, 2) := by decide +kernel
theorem dL_rule_19 : decode cL_rule 19 = .ok (.iconst 2, 1) := by decide +kernel
theorem dL_rule_20 : decode cL_rule 20 = .ok (.ireturn, 1) := by decide +kernel
theorem dL_rule_21 : decode cL_rule 21 = .ok (.iconst 0, 1) := by decide +kernel
theorem dL_rule_22 : decode cL_rule 22 = .ok (.ireturn, 1) := by decide +kernel
theorem dL_push_0 : decode cL_push 0 = .ok (.aload_n 1, 1) := by decide +kernel
theorem dL_push_1 : decode cL_push 1 = .ok (.iconst 0, 1) := by decide +kernel
theorem dL_push_2 : decode cL_push 2 = .ok (.aload_n 0, 1) := by decide +kernel
theorem dL_push_3 : decode cL_push 3 = .ok (.invokevirtual 50, 3) := by decide +kernel
theorem dL_push_6 : decode cL_push 6 = .ok (.i2l, 1) := by decide +kernel
theorem dL_push_7 : decode cL_push 7 = .ok (.lastore, 1) := by decide +kernel
theorem dL_push_8 : decode cL_push 8 = .ok (.goto 6, 3) := by decide +kernel
theorem dL_push_11 : decode cL_push 11 = .ok (.astore_n 2, 1) := by decide +kernel
theorem dL_push_12 : decode cL_push 12 = .ok (.iconst 1, 1) := by decide +kernel
theorem dL_push_13 : decode cL_push 13 = .ok (.ireturn, 1) := by decide +kernel
theorem dL_push_14 : decode cL_push 14 = .ok (.iconst 0, 1) := by decide +kernel
theorem dL_push_15 : decode cL_push 15 = .ok (.ireturn, 1) := by decide +kernel
theorem dL_pop_0 : decode cL_pop 0 = .ok (.aload_n 1, 1) := by decide +kernel
theorem dL_pop_1 : decode cL_pop 1 = .ok (.iconst 0, 1) := by decide +kernel
theorem dL_pop_2 : decode cL_pop 2 = .ok (.aload_n 0, 1) := by decide +kernel
theorem dL_pop_3 : decode cL_pop 3 = .ok (.invokevirtual 53, 3) := by decide +kernel
theorem dL_pop_6 : decode cL_pop 6 = .ok (.i2l, 1) := by decide +kernel
theorem dL_pop_7 : decode cL_pop 7 = .ok (.lastore, 1) := by decide +kernel
theorem dL_pop_8 : decode cL_pop 8 = .ok (.goto 6, 3) := by decide +kernel
theorem dL_pop_11 : decode cL_pop 11 = .ok (.astore_n 2, 1) := by decide +kernel
theorem dL_pop_12 : decode cL_pop 12 = .ok (.iconst 1, 1) := by decide +kernel
theorem dL_pop_13 : decode cL_pop 13 = .ok (.ireturn, 1) := by decide +kernel
theorem dL_pop_14 : decode cL_pop 14 = .ok (.iconst 0, 1) := by decide +kernel
theorem dL_pop_15 : decode cL_pop 15 = .ok (.ireturn, 1) := by decide +kernel
theorem dL_core_0 : decode cL_core 0 = .ok (.aload_n 1, 1) := by decide +kernel
theorem dL_core_1 : decode cL_core 1 = .ok (.iconst 0, 1) := by decide +kernel
theorem dL_core_2 : decode cL_core 2 = .ok (.aload_n 0, 1) := by decide +kernel
theorem dL_core_3 : decode cL_core 3 = .ok (.invokevirtual 56, 3) := by decide +kernel
theorem dL_core_6 : decode cL_core 6 = .ok (.i2l, 1) := by decide +kernel
theorem dL_core_7 : decode cL_core 7 = .ok (.lastore, 1) := by decide +kernel
theorem dL_core_8 : decode cL_core 8 = .ok (.goto 6, 3) := by decide +kernel
theorem dL_core_11 : decode cL_core 11 = .ok (.astore_n 2, 1) := by decide +kernel
theorem dL_core_12 : decode cL_core 12 = .ok (.iconst 1, 1) := by decide +kernel
theorem dL_core_13 : decode cL_core 13 = .ok (.ireturn, 1) := by decide +kernel
theorem dL_core_14 : decode cL_core 14 = .ok (.iconst 0, 1) := by decide +kernel
theorem dL_core_15 : decode cL_core 15 = .ok (.ireturn, 1) := by decide +kernel
theorem dL_coreAt_0 : decode cL_coreAt 0 = .ok (.aload_n 2, 1) := by decide +kernel
theorem dL_coreAt_1 : decode cL_coreAt 1 = .ok (.iconst 0, 1) := by decide +kernel
theorem dL_coreAt_2 : decode cL_coreAt 2 = .ok (.aload_n 0, 1) := by decide +kernel
theorem dL_coreAt_3 : decode cL_coreAt 3 = .ok (.iload_n 1, 1) := by decide +kernel
theorem dL_coreAt_4 : decode cL_coreAt 4 = .ok (.invokevirtual 59, 3) := by decide +kernel
theorem dL_coreAt_7 : decode cL_coreAt 7 = .ok (.i2l, 1) := by decide +kernel
theorem dL_coreAt_8 : decode cL_coreAt 8 = .ok (.lastore, 1) := by decide +kernel
theorem dL_coreAt_9 : decode cL_coreAt 9 = .ok (.goto 9, 3) := by decide +kernel
theorem dL_coreAt_12 : decode cL_coreAt 12 = .ok (.astore_n 3, 1) := by decide +kernel
theorem dL_coreAt_13 : decode cL_coreAt 13 = .ok (.iconst 1, 1) := by decide +kernel
theorem dL_coreAt_14 : decode cL_coreAt 14 = .ok (.ireturn, 1) := by decide +kernel
theorem dL_coreAt_15 : decode cL_coreAt 15 = .ok (.astore_n 3, 1) := by decide +kernel
theorem dL_coreAt_16 : decode cL_coreAt 16 = .ok (.iconst 2, 1) := by decide +kernel
theorem dL_coreAt_17 : decode cL_coreAt 17 = .ok (.ireturn, 1) := by decide +kernel
theorem dL_coreAt_18 : decode cL_coreAt 18 = .ok (.iconst 0, 1) := by decide +kernel
theorem dL_coreAt_19 : decode cL_coreAt 19 = .ok (.ireturn, 1) := by decide +kernel
theorem dL_follows_0 : decode cL_follows 0 = .ok (.aload_n 2, 1) := by decide +kernel
theorem dL_follows_1 : decode cL_follows 1 = .ok (.iconst 0, 1) := by decide +kernel
theorem dL_follows_2 : decode cL_follows 2 = .ok (.aload_n 0, 1) := by decide +kernel
theorem dL_follows_3 : decode cL_follows 3 = .ok (.iload_n 1, 1) := by decide +kernel
theorem dL_follows_4 : decode cL_follows 4 = .ok (.invokevirtual 65, 3) := by decide +kernel
theorem dL_follows_7 : decode cL_follows 7 = .ok (.ifCond .eq 7, 3) := by decide +kernel
theorem dL_follows_10 : decode cL_follows 10 = .ok (.lconst 1, 1) := by decide +kernel
theorem dL_follows_11 : decode cL_follows 11 = .ok (.goto 4, 3) := by decide +kernel
theorem dL_follows_14 : decode cL_follows 14 = .ok (.lconst 0, 1) := by decide +kernel
theorem dL_follows_15 : decode cL_follows 15 = .ok (.lastore, 1) := by decide +kernel
theorem dL_follows_16 : decode cL_follows 16 = .ok (.goto 6, 3) := by decide +kernel
theorem dL_follows_19 : decode cL_follows 19 = .ok (.astore_n 3, 1) := by decide +kernel
theorem dL_follows_20 : decode cL_follows 20 = .ok (.iconst 1, 1) := by decide +kernel
theorem dL_follows_21 : decode cL_follows 21 = .ok (.ireturn, 1) := by decide +kernel
theorem dL_follows_22 : decode cL_follows 22 = .ok (.iconst 0, 1) := by decide +kernel
theorem dL_follows_23 : decode cL_follows 23 = .ok (.ireturn, 1) := by decide +kernel
theorem dL_reasons_0 : decode cL_reasons 0 = .ok (.aload_n 2, 1) := by decide +kernel
theorem dL_reasons_1 : decode cL_reasons 1 = .ok (.iconst 0, 1) := by decide +kernel
theorem dL_reasons_2 : decode cL_reasons 2 = .ok (.aload_n 0, 1) := by decide +kernel
theorem dL_reasons_3 : decode cL_reasons 3 = .ok (.iload_n 1, 1) := by decide +kernel
theorem dL_reasons_4 : decode cL_reasons 4 = .ok (.invokevirtual 69, 3) := by decide +kernel
theorem dL_reasons_7 : decode cL_reasons 7 = .ok (.i2l, 1) := by decide +kernel
theorem dL_reasons_8 : decode cL_reasons 8 = .ok (.lastore, 1) := by decide +kernel
theorem dL_reasons_9 : decode cL_reasons 9 = .ok (.goto 9, 3) := by decide +kernel
theorem dL_reasons_12 : decode cL_reasons 12 = .ok (.astore_n 3, 1) := by decide +kernel
theorem dL_reasons_13 : decode cL_reasons 13 = .ok (.iconst 1, 1) := by decide +kernel
theorem dL_reasons_14 : decode cL_reasons 14 = .ok (.ireturn, 1) := by decide +kernel
theorem dL_reasons_15 : decode cL_reasons 15 = .ok (.astore_n 3, 1) := by decide +kernel
theorem dL_reasons_16 : decode cL_reasons 16 = .ok (.iconst 2, 1) := by decide +kernel
theorem dL_reasons_17 : decode cL_reasons 17 = .ok (.ireturn, 1) := by decide +kernel
theorem dL_reasons_18 : decode cL_reasons 18 = .ok (.iconst 0, 1) := by decide +kernel
theorem dL_reasons_19 : decode cL_reasons 19 = .ok (.ireturn, 1) := by decide +kernel
theorem dL_reasonAt_0 : decode cL_reasonAt 0 = .ok (.aload_n 3, 1) := by decide +kernel
theorem dL_reasonAt_1 : decode cL_reasonAt 1 = .ok (.iconst 0, 1) := by decide +kernel
theorem dL_reasonAt_2 : decode cL_reasonAt 2 = .ok (.aload_n 0, 1) := by decide +kernel
theorem dL_reasonAt_3 : decode cL_reasonAt 3 = .ok (.iload_n 1, 1) := by decide +kernel
theorem dL_reasonAt_4 : decode cL_reasonAt 4 = .ok (.iload_n 2, 1) := by decide +kernel
theorem dL_reasonAt_5 : decode cL_reasonAt 5 = .ok (.invokevirtual 72, 3) := by decide +kernel
theorem dL_reasonAt_8 : decode cL_reasonAt 8 = .ok (.i2l, 1) := by decide +kernel
theorem dL_reasonAt_9 : decode cL_reasonAt 9 = .ok (.lastore, 1) := by decide +kernel
theorem dL_reasonAt_10 : decode cL_reasonAt 10 = .ok (.goto 15, 3) := by decide +kernel
theorem dL_reasonAt_13 : decode cL_reasonAt 13 = .ok (.astore 4, 2) := by decide +kernel
theorem dL_reasonAt_15 : decode cL_reasonAt 15 = .ok (.iconst 1, 1) := by decide +kernel
theorem dL_reasonAt_16 : decode cL_reasonAt 16 = .ok (.ireturn, 1) := by decide +kernel
theorem dL_reasonAt_17 : decode cL_reasonAt 17 = .ok (.astore 4, 2) := by decide +kernel
theorem dL_reasonAt_19 : decode cL_reasonAt 19 = .ok (.iconst 2, 1) := by decide +kernel
theorem dL_reasonAt_20 : decode cL_reasonAt 20 = .ok (.ireturn, 1) := by decide +kernel
theorem dL_reasonAt_21 : decode cL_reasonAt 21 = .ok (.astore 4, 2) := by decide +kernel
theorem dL_reasonAt_23 : decode cL_reasonAt 23 = .ok (.iconst 3, 1) := by decide +kernel
theorem dL_reasonAt_24 : decode cL_reasonAt 24 = .ok (.ireturn, 1) := by decide +kernel
theorem dL_reasonAt_25 : decode cL_reasonAt 25 = .ok (.iconst 0, 1) := by decide +kernel
theorem dL_reasonAt_26 : decode cL_reasonAt 26 = .ok (.ireturn, 1) := by decide +kernel
theorem dL_bound_0 : decode cL_bound 0 = .ok (.aload_n 3, 1) := by decide +kernel
theorem dL_bound_1 : decode cL_bound 1 = .ok (.iconst 0, 1) := by decide +kernel
theorem dL_bound_2 : decode cL_bound 2 = .ok (.aload_n 0, 1) := by decide +kernel
theorem dL_bound_3 : decode cL_bound 3 = .ok (.iload_n 1, 1) := by decide +kernel
theorem dL_bound_4 : decode cL_bound 4 = .ok (.iload_n 2, 1) := by decide +kernel
theorem dL_bound_5 : decode cL_bound 5 = .ok (.invokevirtual 75, 3) := by decide +kernel
theorem dL_bound_8 : decode cL_bound 8 = .ok (.i2l, 1) := by decide +kernel
theorem dL_bound_9 : decode cL_bound 9 = .ok (.lastore, 1) := by decide +kernel
theorem dL_bound_10 : decode cL_bound 10 = .ok (.goto 15, 3) := by decide +kernel
theorem dL_bound_13 : decode cL_bound 13 = .ok (.astore 4, 2) := by decide +kernel
theorem dL_bound_15 : decode cL_bound 15 = .ok (.iconst 1, 1) := by decide +kernel
theorem dL_bound_16 : decode cL_bound 16 = .ok (.ireturn, 1) := by decide +kernel
theorem dL_bound_17 : decode cL_bound 17 = .ok (.astore 4, 2) := by decide +kernel
theorem dL_bound_19 : decode cL_bound 19 = .ok (.iconst 2, 1) := by decide +kernel
theorem dL_bound_20 : decode cL_bound 20 = .ok (.ireturn, 1) := by decide +kernel
theorem dL_bound_21 : decode cL_bound 21 = .ok (.astore 4, 2) := by decide +kernel
theorem dL_bound_23 : decode cL_bound 23 = .ok (.iconst 3, 1) := by decide +kernel
theorem dL_bound_24 : decode cL_bound 24 = .ok (.ireturn, 1) := by decide +kernel
theorem dL_bound_25 : decode cL_bound 25 = .ok (.iconst 0, 1) := by decide +kernel
theorem dL_bound_26 : decode cL_bound 26 = .ok (.ireturn, 1) := by decide +kernel
theorem dL_classOf_0 : decode cL_classOf 0 = .ok (.aload_n 2, 1) := by decide +kernel
theorem dL_classOf_1 : decode cL_classOf 1 = .ok (.iconst 0, 1) := by decide +kernel
theorem dL_classOf_2 : decode cL_classOf 2 = .ok (.aload_n 0, 1) := by decide +kernel
theorem dL_classOf_3 : decode cL_classOf 3 = .ok (.iload_n 1, 1) := by decide +kernel
theorem dL_classOf_4 : decode cL_classOf 4 = .ok (.invokevirtual 80, 3) := by decide +kernel
theorem dL_classOf_7 : decode cL_classOf 7 = .ok (.i2l, 1) := by decide +kernel
theorem dL_classOf_8 : decode cL_classOf 8 = .ok (.lastore, 1) := by decide +kernel
theorem dL_classOf_9 : decode cL_classOf 9 = .ok (.goto 9, 3) := by decide +kernel
theorem dL_classOf_12 : decode cL_classOf 12 = .ok (.astore_n 3, 1) := by decide +kernel
theorem dL_classOf_13 : decode cL_classOf 13 = .ok (.iconst 1, 1) := by decide +kernel
theorem dL_classOf_14 : decode cL_classOf 14 = .ok (.ireturn, 1) := by decide +kernel
theorem dL_classOf_15 : decode cL_classOf 15 = .ok (.astore_n 3, 1) := by decide +kernel
theorem dL_classOf_16 : decode cL_classOf 16 = .ok (.iconst 2, 1) := by decide +kernel
theorem dL_classOf_17 : decode cL_classOf 17 = .ok (.ireturn, 1) := by decide +kernel
theorem dL_classOf_18 : decode cL_classOf 18 = .ok (.iconst 0, 1) := by decide +kernel
theorem dL_classOf_19 : decode cL_classOf 19 = .ok (.ireturn, 1) := by decide +kernel
theorem dL_classes_0 : decode cL_classes 0 = .ok (.aload_n 1, 1) := by decide +kernel
theorem dL_classes_1 : decode cL_classes 1 = .ok (.iconst 0, 1) := by decide +kernel
theorem dL_classes_2 : decode cL_classes 2 = .ok (.aload_n 0, 1) := by decide +kernel
theorem dL_classes_3 : decode cL_classes 3 = .ok (.invokevirtual 83, 3) := by decide +kernel
theorem dL_classes_6 : decode cL_classes 6 = .ok (.i2l, 1) := by decide +kernel
theorem dL_classes_7 : decode cL_classes 7 = .ok (.lastore, 1) := by decide +kernel
theorem dL_classes_8 : decode cL_classes 8 = .ok (.goto 6, 3) := by decide +kernel
theorem dL_classes_11 : decode cL_classes 11 = .ok (.astore_n 2, 1) := by decide +kernel
theorem dL_classes_12 : decode cL_classes 12 = .ok (.iconst 1, 1) := by decide +kernel
theorem dL_classes_13 : decode cL_classes 13 = .ok (.ireturn, 1) := by decide +kernel
theorem dL_classes_14 : decode cL_classes 14 = .ok (.iconst 0, 1) := by decide +kernel
theorem dL_classes_15 : decode cL_classes 15 = .ok (.ireturn, 1) := by decide +kernel
theorem dL_valueOf_0 : decode cL_valueOf 0 = .ok (.aload_n 2, 1) := by decide +kernel
theorem dL_valueOf_1 : decode cL_valueOf 1 = .ok (.iconst 0, 1) := by decide +kernel
theorem dL_valueOf_2 : decode cL_valueOf 2 = .ok (.aload_n 0, 1) := by decide +kernel
theorem dL_valueOf_3 : decode cL_valueOf 3 = .ok (.iload_n 1, 1) := by decide +kernel
theorem dL_valueOf_4 : decode cL_valueOf 4 = .ok (.invokevirtual 86, 3) := by decide +kernel
theorem dL_valueOf_7 : decode cL_valueOf 7 = .ok (.i2l, 1) := by decide +kernel
theorem dL_valueOf_8 : decode cL_valueOf 8 = .ok (.lastore, 1) := by decide +kernel
theorem dL_valueOf_9 : decode cL_valueOf 9 = .ok (.goto 9, 3) := by decide +kernel
theorem dL_valueOf_12 : decode cL_valueOf 12 = .ok (.astore_n 3, 1) := by decide +kernel
theorem dL_valueOf_13 : decode cL_valueOf 13 = .ok (.iconst 1, 1) := by decide +kernel
theorem dL_valueOf_14 : decode cL_valueOf 14 = .ok (.ireturn, 1) := by decide +kernel
theorem dL_valueOf_15 : decode cL_valueOf 15 = .ok (.astore_n 3, 1) := by decide +kernel
theorem dL_valueOf_16 : decode cL_valueOf 16 = .ok (.iconst 2, 1) := by decide +kernel
theorem dL_valueOf_17 : decode cL_valueOf 17 = .ok (.ireturn, 1) := by decide +kernel
theorem dL_valueOf_18 : decode cL_valueOf 18 = .ok (.iconst 0, 1) := by decide +kernel
theorem dL_valueOf_19 : decode cL_valueOf 19 = .ok (.ireturn, 1) := by decide +kernel
theorem dL_functionAt_0 : decode cL_functionAt 0 = .ok (.aload 4, 2) := by decide +kernel
theorem dL_functionAt_2 : decode cL_functionAt 2 = .ok (.iconst 0, 1) := by decide +kernel
theorem dL_functionAt_3 : decode cL_functionAt 3 = .ok (.aload_n 0, 1) := by decide +kernel
theorem dL_functionAt_4 : decode cL_functionAt 4 = .ok (.iload_n 1, 1) := by decide +kernel
theorem dL_functionAt_5 : decode cL_functionAt 5 = .ok (.iload_n 2, 1) := by decide +kernel
theorem dL_functionAt_6 : decode cL_functionAt 6 = .ok (.iload_n 3, 1) := by decide +kernel
theorem dL_functionAt_7 : decode cL_functionAt 7 = .ok (.invokevirtual 89, 3) := by decide +kernel
theorem dL_functionAt_10 : decode cL_functionAt 10 = .ok (.i2l, 1) := by decide +kernel
theorem dL_functionAt_11 : decode cL_functionAt 11 = .ok (.lastore, 1) := by decide +kernel
theorem dL_functionAt_12 : decode cL_functionAt 12 = .ok (.goto 11, 3) := by decide +kernel
theorem dL_functionAt_15 : decode cL_functionAt 15 = .ok (.astore 5, 2) := by decide +kernel
theorem dL_functionAt_17 : decode cL_functionAt 17 = .ok (.iconst 1, 1) := by decide +kernel
theorem dL_functionAt_18 : decode cL_functionAt 18 = .ok (.ireturn, 1) := by decide +kernel
theorem dL_functionAt_19 : decode cL_functionAt 19 = .ok (.astore 5, 2) := by decide +kernel
theorem dL_functionAt_21 : decode cL_functionAt 21 = .ok (.iconst 2, 1) := by decide +kernel
theorem dL_functionAt_22 : decode cL_functionAt 22 = .ok (.ireturn, 1) := by decide +kernel
theorem dL_functionAt_23 : decode cL_functionAt 23 = .ok (.iconst 0, 1) := by decide +kernel
theorem dL_functionAt_24 : decode cL_functionAt 24 = .ok (.ireturn, 1) := by decide +kernel
theorem dL_entry_0 : decode cL_entry 0 = .ok (.aload_n 3, 1) := by decide +kernel
theorem dL_entry_1 : decode cL_entry 1 = .ok (.iconst 0, 1) := by decide +kernel
theorem dL_entry_2 : decode cL_entry 2 = .ok (.aload_n 0, 1) := by decide +kernel
theorem dL_entry_3 : decode cL_entry 3 = .ok (.iload_n 1, 1) := by decide +kernel
theorem dL_entry_4 : decode cL_entry 4 = .ok (.iload_n 2, 1) := by decide +kernel
theorem dL_entry_5 : decode cL_entry 5 = .ok (.invokevirtual 92, 3) := by decide +kernel
theorem dL_entry_8 : decode cL_entry 8 = .ok (.i2l, 1) := by decide +kernel
theorem dL_entry_9 : decode cL_entry 9 = .ok (.lastore, 1) := by decide +kernel
theorem dL_entry_10 : decode cL_entry 10 = .ok (.goto 11, 3) := by decide +kernel
theorem dL_entry_13 : decode cL_entry 13 = .ok (.astore 4, 2) := by decide +kernel
theorem dL_entry_15 : decode cL_entry 15 = .ok (.iconst 1, 1) := by decide +kernel
theorem dL_entry_16 : decode cL_entry 16 = .ok (.ireturn, 1) := by decide +kernel
theorem dL_entry_17 : decode cL_entry 17 = .ok (.astore 4, 2) := by decide +kernel
theorem dL_entry_19 : decode cL_entry 19 = .ok (.iconst 2, 1) := by decide +kernel
theorem dL_entry_20 : decode cL_entry 20 = .ok (.ireturn, 1) := by decide +kernel
theorem dL_entry_21 : decode cL_entry 21 = .ok (.iconst 0, 1) := by decide +kernel
theorem dL_entry_22 : decode cL_entry 22 = .ok (.ireturn, 1) := by decide +kernel
theorem dL_isTrue_0 : decode cL_isTrue 0 = .ok (.aload_n 2, 1) := by decide +kernel
theorem dL_isTrue_1 : decode cL_isTrue 1 = .ok (.iconst 0, 1) := by decide +kernel
theorem dL_isTrue_2 : decode cL_isTrue 2 = .ok (.aload_n 0, 1) := by decide +kernel
theorem dL_isTrue_3 : decode cL_isTrue 3 = .ok (.iload_n 1, 1) := by decide +kernel
theorem dL_isTrue_4 : decode cL_isTrue 4 = .ok (.invokevirtual 95, 3) := by decide +kernel
theorem dL_isTrue_7 : decode cL_isTrue 7 = .ok (.ifCond .eq 7, 3) := by decide +kernel
theorem dL_isTrue_10 : decode cL_isTrue 10 = .ok (.lconst 1, 1) := by decide +kernel
theorem dL_isTrue_11 : decode cL_isTrue 11 = .ok (.goto 4, 3) := by decide +kernel
theorem dL_isTrue_14 : decode cL_isTrue 14 = .ok (.lconst 0, 1) := by decide +kernel
theorem dL_isTrue_15 : decode cL_isTrue 15 = .ok (.lastore, 1) := by decide +kernel
theorem dL_isTrue_16 : decode cL_isTrue 16 = .ok (.goto 9, 3) := by decide +kernel
theorem dL_isTrue_19 : decode cL_isTrue 19 = .ok (.astore_n 3, 1) := by decide +kernel
theorem dL_isTrue_20 : decode cL_isTrue 20 = .ok (.iconst 1, 1) := by decide +kernel
theorem dL_isTrue_21 : decode cL_isTrue 21 = .ok (.ireturn, 1) := by decide +kernel
theorem dL_isTrue_22 : decode cL_isTrue 22 = .ok (.astore_n 3, 1) := by decide +kernel
theorem dL_isTrue_23 : decode cL_isTrue 23 = .ok (.iconst 2, 1) := by decide +kernel
theorem dL_isTrue_24 : decode cL_isTrue 24 = .ok (.ireturn, 1) := by decide +kernel
theorem dL_isTrue_25 : decode cL_isTrue 25 = .ok (.iconst 0, 1) := by decide +kernel
theorem dL_isTrue_26 : decode cL_isTrue 26 = .ok (.ireturn, 1) := by decide +kernel
theorem dL_trueLiterals_0 : decode cL_trueLiterals 0 = .ok (.aload_n 1, 1) := by decide +kernel
theorem dL_trueLiterals_1 : decode cL_trueLiterals 1 = .ok (.iconst 0, 1) := by decide +kernel
theorem dL_trueLiterals_2 : decode cL_trueLiterals 2 = .ok (.aload_n 0, 1) := by decide +kernel
theorem dL_trueLiterals_3 : decode cL_trueLiterals 3 = .ok (.invokevirtual 98, 3) := by decide +kernel
theorem dL_trueLiterals_6 : decode cL_trueLiterals 6 = .ok (.lastore, 1) := by decide +kernel
theorem dL_trueLiterals_7 : decode cL_trueLiterals 7 = .ok (.goto 6, 3) := by decide +kernel
theorem dL_trueLiterals_10 : decode cL_trueLiterals 10 = .ok (.astore_n 2, 1) := by decide +kernel
theorem dL_trueLiterals_11 : decode cL_trueLiterals 11 = .ok (.iconst 1, 1) := by decide +kernel
theorem dL_trueLiterals_12 : decode cL_trueLiterals 12 = .ok (.ireturn, 1) := by decide +kernel
theorem dL_trueLiterals_13 : decode cL_trueLiterals 13 = .ok (.iconst 0, 1) := by decide +kernel
theorem dL_trueLiterals_14 : decode cL_trueLiterals 14 = .ok (.ireturn, 1) := by decide +kernel
theorem dL_coreShare_0 : decode cL_coreShare 0 = .ok (.aload_n 1, 1) := by decide +kernel
theorem dL_coreShare_1 : decode cL_coreShare 1 = .ok (.iconst 0, 1) := by decide +kernel
theorem dL_coreShare_2 : decode cL_coreShare 2 = .ok (.aload_n 0, 1) := by decide +kernel
theorem dL_coreShare_3 : decode cL_coreShare 3 = .ok (.invokevirtual 102, 3) := by decide +kernel
theorem dL_coreShare_6 : decode cL_coreShare 6 = .ok (.f2d, 1) := by decide +kernel
theorem dL_coreShare_7 : decode cL_coreShare 7 = .ok (.dastore, 1) := by decide +kernel
theorem dL_coreShare_8 : decode cL_coreShare 8 = .ok (.goto 6, 3) := by decide +kernel
theorem dL_coreShare_11 : decode cL_coreShare 11 = .ok (.astore_n 2, 1) := by decide +kernel
theorem dL_coreShare_12 : decode cL_coreShare 12 = .ok (.iconst 1, 1) := by decide +kernel
theorem dL_coreShare_13 : decode cL_coreShare 13 = .ok (.ireturn, 1) := by decide +kernel
theorem dL_coreShare_14 : decode cL_coreShare 14 = .ok (.iconst 0, 1) := by decide +kernel
theorem dL_coreShare_15 : decode cL_coreShare 15 = .ok (.ireturn, 1) := by decide +kernel
theorem dL_meanValue_0 : decode cL_meanValue 0 = .ok (.aload_n 1, 1) := by decide +kernel
theorem dL_meanValue_1 : decode cL_meanValue 1 = .ok (.iconst 0, 1) := by decide +kernel
theorem dL_meanValue_2 : decode cL_meanValue 2 = .ok (.aload_n 0, 1) := by decide +kernel
theorem dL_meanValue_3 : decode cL_meanValue 3 = .ok (.invokevirtual 106, 3) := by decide +kernel
theorem dL_meanValue_6 : decode cL_meanValue 6 = .ok (.dastore, 1) := by decide +kernel
theorem dL_meanValue_7 : decode cL_meanValue 7 = .ok (.goto 9, 3) := by decide +kernel
theorem dL_meanValue_10 : decode cL_meanValue 10 = .ok (.astore_n 2, 1) := by decide +kernel
theorem dL_meanValue_11 : decode cL_meanValue 11 = .ok (.iconst 1, 1) := by decide +kernel
theorem dL_meanValue_12 : decode cL_meanValue 12 = .ok (.ireturn, 1) := by decide +kernel
theorem dL_meanValue_13 : decode cL_meanValue 13 = .ok (.astore_n 2, 1) := by decide +kernel
theorem dL_meanValue_14 : decode cL_meanValue 14 = .ok (.iconst 2, 1) := by decide +kernel
theorem dL_meanValue_15 : decode cL_meanValue 15 = .ok (.ireturn, 1) := by decide +kernel
theorem dL_meanValue_16 : decode cL_meanValue 16 = .ok (.iconst 0, 1) := by decide +kernel
theorem dL_meanValue_17 : decode cL_meanValue 17 = .ok (.ireturn, 1) := by decide +kernel
