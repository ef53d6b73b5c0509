theorem dLw_cell_0 : decode cLw_cell 0 = .ok (.iload_n 1, 1) := by decide +kernel
theorem dLw_cell_1 : decode cLw_cell 1 = .ok (.aload_n 0, 1) := by decide +kernel
theorem dLw_cell_2 : decode cLw_cell 2 = .ok (.arraylength, 1) := by decide +kernel
theorem dLw_cell_3 : decode cLw_cell 3 = .ok (.if_icmp .ge 9, 3) := by decide +kernel
theorem dLw_cell_6 : decode cLw_cell 6 = .ok (.aload_n 0, 1) := by decide +kernel
theorem dLw_cell_7 : decode cLw_cell 7 = .ok (.iload_n 1, 1) := by decide +kernel
theorem dLw_cell_8 : decode cLw_cell 8 = .ok (.iaload, 1) := by decide +kernel
theorem dLw_cell_9 : decode cLw_cell 9 = .ok (.goto 4, 3) := by decide +kernel
theorem dLw_cell_12 : decode cLw_cell 12 = .ok (.iconst 0, 1) := by decide +kernel
theorem dLw_cell_13 : decode cLw_cell 13 = .ok (.ireturn, 1) := by decide +kernel
theorem dLw_apply_0 : decode cLw_apply 0 = .ok (.aload_n 2, 1) := by decide +kernel
theorem dLw_apply_1 : decode cLw_apply 1 = .ok (.iconst 0, 1) := by decide +kernel
theorem dLw_apply_2 : decode cLw_apply 2 = .ok (.aload_n 0, 1) := by decide +kernel
theorem dLw_apply_3 : decode cLw_apply 3 = .ok (.iload_n 1, 1) := by decide +kernel
theorem dLw_apply_4 : decode cLw_apply 4 = .ok (.invokevirtual 7, 3) := by decide +kernel
theorem dLw_apply_7 : decode cLw_apply 7 = .ok (.i2l, 1) := by decide +kernel
theorem dLw_apply_8 : decode cLw_apply 8 = .ok (.lastore, 1) := by decide +kernel
theorem dLw_apply_9 : decode cLw_apply 9 = .ok (.goto 6, 3) := by decide +kernel
theorem dLw_apply_12 : decode cLw_apply 12 = .ok (.astore_n 3, 1) := by decide +kernel
theorem dLw_apply_13 : decode cLw_apply 13 = .ok (.iconst 1, 1) := by decide +kernel
theorem dLw_apply_14 : decode cLw_apply 14 = .ok (.ireturn, 1) := by decide +kernel
theorem dLw_apply_15 : decode cLw_apply 15 = .ok (.iconst 0, 1) := by decide +kernel
theorem dLw_apply_16 : decode cLw_apply 16 = .ok (.ireturn, 1) := by decide +kernel
theorem dLw_test_0 : decode cLw_test 0 = .ok (.aload_n 2, 1) := by decide +kernel
theorem dLw_test_1 : decode cLw_test 1 = .ok (.iconst 0, 1) := by decide +kernel
theorem dLw_test_2 : decode cLw_test 2 = .ok (.aload_n 0, 1) := by decide +kernel
theorem dLw_test_3 : decode cLw_test 3 = .ok (.iload_n 1, 1) := by decide +kernel
theorem dLw_test_4 : decode cLw_test 4 = .ok (.invokevirtual 15, 3) := by decide +kernel
theorem dLw_test_7 : decode cLw_test 7 = .ok (.i2l, 1) := by decide +kernel
theorem dLw_test_8 : decode cLw_test 8 = .ok (.lastore, 1) := by decide +kernel
theorem dLw_test_9 : decode cLw_test 9 = .ok (.goto 6, 3) := by decide +kernel
theorem dLw_test_12 : decode cLw_test 12 = .ok (.astore_n 3, 1) := by decide +kernel
theorem dLw_test_13 : decode cLw_test 13 = .ok (.iconst 1, 1) := by decide +kernel
theorem dLw_test_14 : decode cLw_test 14 = .ok (.ireturn, 1) := by decide +kernel
theorem dLw_test_15 : decode cLw_test 15 = .ok (.iconst 0, 1) := by decide +kernel
theorem dLw_test_16 : decode cLw_test 16 = .ok (.ireturn, 1) := by decide +kernel
theorem dLw_take_0 : decode cLw_take 0 = .ok (.aload_n 3, 1) := by decide +kernel
theorem dLw_take_1 : decode cLw_take 1 = .ok (.iconst 0, 1) := by decide +kernel
theorem dLw_take_2 : decode cLw_take 2 = .ok (.aload_n 0, 1) := by decide +kernel
theorem dLw_take_3 : decode cLw_take 3 = .ok (.iload_n 1, 1) := by decide +kernel
theorem dLw_take_4 : decode cLw_take 4 = .ok (.iload_n 2, 1) := by decide +kernel
theorem dLw_take_5 : decode cLw_take 5 = .ok (.invokevirtual 18, 3) := by decide +kernel
theorem dLw_take_8 : decode cLw_take 8 = .ok (.ifCond .eq 7, 3) := by decide +kernel
theorem dLw_take_11 : decode cLw_take 11 = .ok (.lconst 1, 1) := by decide +kernel
theorem dLw_take_12 : decode cLw_take 12 = .ok (.goto 4, 3) := by decide +kernel
theorem dLw_take_15 : decode cLw_take 15 = .ok (.lconst 0, 1) := by decide +kernel
theorem dLw_take_16 : decode cLw_take 16 = .ok (.lastore, 1) := by decide +kernel
theorem dLw_take_17 : decode cLw_take 17 = .ok (.goto 7, 3) := by decide +kernel
theorem dLw_take_20 : decode cLw_take 20 = .ok (.astore 4, 2) := by decide +kernel
theorem dLw_take_22 : decode cLw_take 22 = .ok (.iconst 1, 1) := by decide +kernel
theorem dLw_take_23 : decode cLw_take 23 = .ok (.ireturn, 1) := by decide +kernel
theorem dLw_take_24 : decode cLw_take 24 = .ok (.iconst 0, 1) := by decide +kernel
theorem dLw_take_25 : decode cLw_take 25 = .ok (.ireturn, 1) := by decide +kernel
theorem dLw_clear_0 : decode cLw_clear 0 = .ok (.aload_n 0, 1) := by decide +kernel
theorem dLw_clear_1 : decode cLw_clear 1 = .ok (.iload_n 1, 1) := by decide +kernel
theorem dLw_clear_2 : decode cLw_clear 2 = .ok (.invokevirtual 22, 3) := by decide +kernel
theorem dLw_clear_5 : decode cLw_clear 5 = .ok (.goto 6, 3) := by decide +kernel
theorem dLw_clear_8 : decode cLw_clear 8 = .ok (.astore_n 2, 1) := by decide +kernel
theorem dLw_clear_9 : decode cLw_clear 9 = .ok (.iconst 1, 1) := by decide +kernel
theorem dLw_clear_10 : decode cLw_clear 10 = .ok (.ireturn, 1) := by decide +kernel
theorem dLw_clear_11 : decode cLw_clear 11 = .ok (.iconst 0, 1) := by decide +kernel
theorem dLw_clear_12 : decode cLw_clear 12 = .ok (.ireturn, 1) := by decide +kernel
theorem dLw_value_0 : decode cLw_value 0 = .ok (.aload 4, 2) := by decide +kernel
theorem dLw_value_2 : decode cLw_value 2 = .ok (.iconst 0, 1) := by decide +kernel
theorem dLw_value_3 : decode cLw_value 3 = .ok (.aload_n 0, 1) := by decide +kernel
theorem dLw_value_4 : decode cLw_value 4 = .ok (.iload_n 1, 1) := by decide +kernel
theorem dLw_value_5 : decode cLw_value 5 = .ok (.iload_n 2, 1) := by decide +kernel
theorem dLw_value_6 : decode cLw_value 6 = .ok (.iload_n 3, 1) := by decide +kernel
theorem dLw_value_7 : decode cLw_value 7 = .ok (.invokevirtual 26, 3) := by decide +kernel
theorem dLw_value_10 : decode cLw_value 10 = .ok (.i2l, 1) := by decide +kernel
theorem dLw_value_11 : decode cLw_value 11 = .ok (.lastore, 1) := by decide +kernel
theorem dLw_value_12 : decode cLw_value 12 = .ok (.goto 11, 3) := by decide +kernel
theorem dLw_value_15 : decode cLw_value 15 = .ok (.astore 5, 2) := by decide +kernel
theorem dLw_value_17 : decode cLw_value 17 = .ok (.iconst 1, 1) := by decide +kernel
theorem dLw_value_18 : decode cLw_value 18 = .ok (.ireturn, 1) := by decide +kernel
theorem dLw_value_19 : decode cLw_value 19 = .ok (.astore 5, 2) := by decide +kernel
theorem dLw_value_21 : decode cLw_value 21 = .ok (.iconst 2, 1) := by decide +kernel
theorem dLw_value_22 : decode cLw_value 22 = .ok (.ireturn, 1) := by decide +kernel
theorem dLw_value_23 : decode cLw_value 23 = .ok (.iconst 0, 1) := by decide +kernel
theorem dLw_value_24 : decode cLw_value 24 = .ok (.ireturn, 1) := by decide +kernel
theorem dLw_seq_0 : decode cLw_seq 0 = .ok (.aload_n 3, 1) := by decide +kernel
theorem dLw_seq_1 : decode cLw_seq 1 = .ok (.iconst 0, 1) := by decide +kernel
theorem dLw_seq_2 : decode cLw_seq 2 = .ok (.aload_n 0, 1) := by decide +kernel
theorem dLw_seq_3 : decode cLw_seq 3 = .ok (.iload_n 1, 1) := by decide +kernel
theorem dLw_seq_4 : decode cLw_seq 4 = .ok (.iload_n 2, 1) := by decide +kernel
theorem dLw_seq_5 : decode cLw_seq 5 = .ok (.invokevirtual 32, 3) := by decide +kernel
theorem dLw_seq_8 : decode cLw_seq 8 = .ok (.i2l, 1) := by decide +kernel
theorem dLw_seq_9 : decode cLw_seq 9 = .ok (.lastore, 1) := by decide +kernel
theorem dLw_seq_10 : decode cLw_seq 10 = .ok (.goto 11, 3) := by decide +kernel
theorem dLw_seq_13 : decode cLw_seq 13 = .ok (.astore 4, 2) := by decide +kernel
theorem dLw_seq_15 : decode cLw_seq 15 = .ok (.iconst 1, 1) := by decide +kernel
theorem dLw_seq_16 : decode cLw_seq 16 = .ok (.ireturn, 1) := by decide +kernel
theorem dLw_seq_17 : decode cLw_seq 17 = .ok (.astore 4, 2) := by decide +kernel
theorem dLw_seq_19 : decode cLw_seq 19 = .ok (.iconst 2, 1) := by decide +kernel
theorem dLw_seq_20 : decode cLw_seq 20 = .ok (.ireturn, 1) := by decide +kernel
theorem dLw_seq_21 : decode cLw_seq 21 = .ok (.iconst 0, 1) := by decide +kernel
theorem dLw_seq_22 : decode cLw_seq 22 = .ok (.ireturn, 1) := by decide +kernel
theorem dLw_verdict_0 : decode cLw_verdict 0 = .ok (.aload_n 3, 1) := by decide +kernel
theorem dLw_verdict_1 : decode cLw_verdict 1 = .ok (.iconst 0, 1) := by decide +kernel
theorem dLw_verdict_2 : decode cLw_verdict 2 = .ok (.aload_n 0, 1) := by decide +kernel
theorem dLw_verdict_3 : decode cLw_verdict 3 = .ok (.iload_n 1, 1) := by decide +kernel
theorem dLw_verdict_4 : decode cLw_verdict 4 = .ok (.iload_n 2, 1) := by decide +kernel
theorem dLw_verdict_5 : decode cLw_verdict 5 = .ok (.invokevirtual 36, 3) := by decide +kernel
theorem dLw_verdict_8 : decode cLw_verdict 8 = .ok (.i2l, 1) := by decide +kernel
theorem dLw_verdict_9 : decode cLw_verdict 9 = .ok (.lastore, 1) := by decide +kernel
theorem dLw_verdict_10 : decode cLw_verdict 10 = .ok (.goto 11, 3) := by decide +kernel
theorem dLw_verdict_13 : decode cLw_verdict 13 = .ok (.astore 4, 2) := by decide +kernel
theorem dLw_verdict_15 : decode cLw_verdict 15 = .ok (.iconst 1, 1) := by decide +kernel
theorem dLw_verdict_16 : decode cLw_verdict 16 = .ok (.ireturn, 1) := by decide +kernel
theorem dLw_verdict_17 : decode cLw_verdict 17 = .ok (.astore 4, 2) := by decide +kernel
theorem dLw_verdict_19 : decode cLw_verdict 19 = .ok (.iconst 2, 1) := by decide +kernel
theorem dLw_verdict_20 : decode cLw_verdict 20 = .ok (.ireturn, 1) := by decide +kernel
theorem dLw_verdict_21 : decode cLw_verdict 21 = .ok (.iconst 0, 1) := by decide +kernel
theorem dLw_verdict_22 : decode cLw_verdict 22 = .ok (.ireturn, 1) := by decide +kernel
theorem dLw_written_0 : decode cLw_written 0 = .ok (.aload_n 3, 1) := by decide +kernel
theorem dLw_written_1 : decode cLw_written 1 = .ok (.iconst 0, 1) := by decide +kernel
theorem dLw_written_2 : decode cLw_written 2 = .ok (.aload_n 0, 1) := by decide +kernel
theorem dLw_written_3 : decode cLw_written 3 = .ok (.iload_n 1, 1) := by decide +kernel
theorem dLw_written_4 : decode cLw_written 4 = .ok (.iload_n 2, 1) := by decide +kernel
theorem dLw_written_5 : decode cLw_written 5 = .ok (.invokevirtual 39, 3) := by decide +kernel
theorem dLw_written_8 : decode cLw_written 8 = .ok (.i2l, 1) := by decide +kernel
theorem dLw_written_9 : decode cLw_written 9 = .ok (.lastore, 1) := by decide +kernel
theorem dLw_written_10 : decode cLw_written 10 = .ok (.goto 11, 3) := by decide +kernel
theorem dLw_written_13 : decode cLw_written 13 = .ok (.astore 4, 2) := by decide +kernel
theorem dLw_written_15 : decode cLw_written 15 = .ok (.iconst 1, 1) := by decide +kernel
theorem dLw_written_16 : decode cLw_written 16 = .ok (.ireturn, 1) := by decide +kernel
theorem dLw_written_17 : decode cLw_written 17 = .ok (.astore 4, 2) := by decide +kernel
theorem dLw_written_19 : decode cLw_written 19 = .ok (.iconst 2, 1) := by decide +kernel
theorem dLw_written_20 : decode cLw_written 20 = .ok (.ireturn, 1) := by decide +kernel
theorem dLw_written_21 : decode cLw_written 21 = .ok (.iconst 0, 1) := by decide +kernel
theorem dLw_written_22 : decode cLw_written 22 = .ok (.ireturn, 1) := by decide +kernel
theorem dLw_since_0 : decode cLw_since 0 = .ok (.aload_n 3, 1) := by decide +kernel
theorem dLw_since_1 : decode cLw_since 1 = .ok (.iconst 0, 1) := by decide +kernel
theorem dLw_since_2 : decode cLw_since 2 = .ok (.aload_n 0, 1) := by decide +kernel
theorem dLw_since_3 : decode cLw_since 3 = .ok (.iload_n 1, 1) := by decide +kernel
theorem dLw_since_4 : decode cLw_since 4 = .ok (.iload_n 2, 1) := by decide +kernel
theorem dLw_since_5 : decode cLw_since 5 = .ok (.invokevirtual 42, 3) := by decide +kernel
theorem dLw_since_8 : decode cLw_since 8 = .ok (.i2l, 1) := by decide +kernel
theorem dLw_since_9 : decode cLw_since 9 = .ok (.lastore, 1) := by decide +kernel
theorem dLw_since_10 : decode cLw_since 10 = .ok (.goto 11, 3) := by decide +kernel
theorem dLw_since_13 : decode cLw_since 13 = .ok (.astore 4, 2) := by decide +kernel
theorem dLw_since_15 : decode cLw_since 15 = .ok (.iconst 1, 1) := by decide +kernel
theorem dLw_since_16 : decode cLw_since 16 = .ok (.ireturn, 1) := by decide +kernel
theorem dLw_since_17 : decode cLw_since 17 = .ok (.astore 4, 2) := by decide +kernel
theorem dLw_since_19 : decode cLw_since 19 = .ok (.iconst 2, 1) := by decide +kernel
theorem dLw_since_20 : decode cLw_since 20 = .ok (.ireturn, 1) := by decide +kernel
theorem dLw_since_21 : decode cLw_since 21 = .ok (.iconst 0, 1) := by decide +kernel
theorem dLw_since_22 : decode cLw_since 22 = .ok (.ireturn, 1) := by decide +kernel
theorem dLw_same_0 : decode cLw_same 0 = .ok (.aload_n 3, 1) := by decide +kernel
theorem dLw_same_1 : decode cLw_same 1 = .ok (.iconst 0, 1) := by decide +kernel
theorem dLw_same_2 : decode cLw_same 2 = .ok (.aload_n 0, 1) := by decide +kernel
theorem dLw_same_3 : decode cLw_same 3 = .ok (.iload_n 1, 1) := by decide +kernel
theorem dLw_same_4 : decode cLw_same 4 = .ok (.iload_n 2, 1) := by decide +kernel
theorem dLw_same_5 : decode cLw_same 5 = .ok (.invokevirtual 45, 3) := by decide +kernel
theorem dLw_same_8 : decode cLw_same 8 = .ok (.ifCond .eq 7, 3) := by decide +kernel
theorem dLw_same_11 : decode cLw_same 11 = .ok (.lconst 1, 1) := by decide +kernel
theorem dLw_same_12 : decode cLw_same 12 = .ok (.goto 4, 3) := by decide +kernel
theorem dLw_same_15 : decode cLw_same 15 = .ok (.lconst 0, 1) := by decide +kernel
theorem dLw_same_16 : decode cLw_same 16 = .ok (.lastore, 1) := by decide +kernel
theorem dLw_same_17 : decode cLw_same 17 = .ok (.goto 7, 3) := by decide +kernel
theorem dLw_same_20 : decode cLw_same 20 = .ok (.astore 4, 2) := by decide +kernel
theorem dLw_same_22 : decode cLw_same 22 = .ok (.iconst 1, 1) := by decide +kernel
theorem dLw_same_23 : decode cLw_same 23 = .ok (.ireturn, 1) := by decide +kernel
theorem dLw_same_24 : decode cLw_same 24 = .ok (.iconst 0, 1) := by decide +kernel
theorem dLw_same_25 : decode cLw_same 25 = .ok (.ireturn, 1) := by decide +kernel
theorem dLw_look_0 : decode cLw_look 0 = .ok (.aload_n 3, 1) := by decide +kernel
theorem dLw_look_1 : decode cLw_look 1 = .ok (.iconst 0, 1) := by decide +kernel
theorem dLw_look_2 : decode cLw_look 2 = .ok (.aload_n 0, 1) := by decide +kernel
theorem dLw_look_3 : decode cLw_look 3 = .ok (.iload_n 1, 1) := by decide +kernel
theorem dLw_look_4 : decode cLw_look 4 = .ok (.iload_n 2, 1) := by decide +kernel
theorem dLw_look_5 : decode cLw_look 5 = .ok (.invokevirtual 48, 3) := by decide +kernel
theorem dLw_look_8 : decode cLw_look 8 = .ok (.i2l, 1) := by decide +kernel
theorem dLw_look_9 : decode cLw_look 9 = .ok (.lastore, 1) := by decide +kernel
theorem dLw_look_10 : decode cLw_look 10 = .ok (.goto 7, 3) := by decide +kernel
theorem dLw_look_13 : decode cLw_look 13 = .ok (.astore 4, 2) := by decide +kernel
theorem dLw_look_15 : decode cLw_look 15 = .ok (.iconst 1, 1) := by decide +kernel
theorem dLw_look_16 : decode cLw_look 16 = .ok (.ireturn, 1) := by decide +kernel
theorem dLw_look_17 : decode cLw_look 17 = .ok (.iconst 0, 1) := by decide +kernel
theorem dLw_look_18 : decode cLw_look 18 = .ok (.ireturn, 1) := by decide +kernel
theorem dLw_law_0 : decode cLw_law 0 = .ok (.new 8, 3) := by decide +kernel
theorem dLw_law_3 : decode cLw_law 3 = .ok (.dup, 1) := by decide +kernel
theorem dLw_law_4 : decode cLw_law 4 = .ok (.aload_n 0, 1) := by decide +kernel
theorem dLw_law_5 : decode cLw_law 5 = .ok (.iconst 0, 1) := by decide +kernel
theorem dLw_law_6 : decode cLw_law 6 = .ok (.invokestatic 51, 3) := by decide +kernel
theorem dLw_law_9 : decode cLw_law 9 = .ok (.invokespecial 57, 3) := by decide +kernel
theorem dLw_law_12 : decode cLw_law 12 = .ok (.astore_n 1, 1) := by decide +kernel
theorem dLw_law_13 : decode cLw_law 13 = .ok (.new 59, 3) := by decide +kernel
theorem dLw_law_16 : decode cLw_law 16 = .ok (.dup, 1) := by decide +kernel
theorem dLw_law_17 : decode cLw_law 17 = .ok (.aload_n 0, 1) := by decide +kernel
theorem dLw_law_18 : decode cLw_law 18 = .ok (.iconst 0, 1) := by decide +kernel
theorem dLw_law_19 : decode cLw_law 19 = .ok (.invokestatic 51, 3) := by decide +kernel
theorem dLw_law_22 : decode cLw_law 22 = .ok (.invokespecial 61, 3) := by decide +kernel
theorem dLw_law_25 : decode cLw_law 25 = .ok (.astore_n 2, 1) := by decide +kernel
theorem dLw_law_26 : decode cLw_law 26 = .ok (.iconst 1, 1) := by decide +kernel
theorem dLw_law_27 : decode cLw_law 27 = .ok (.newarray .long, 2) := by decide +kernel
theorem dLw_law_29 : decode cLw_law 29 = .ok (.astore_n 3, 1) := by decide +kernel
theorem dLw_law_30 : decode cLw_law 30 = .ok (.iconst 1, 1) := by decide +kernel
theorem dLw_law_31 : decode cLw_law 31 = .ok (.istore 4, 2) := by decide +kernel
theorem dLw_law_33 : decode cLw_law 33 = .ok (.iload 4, 2) := by decide +kernel
theorem dLw_law_35 : decode cLw_law 35 = .ok (.aload_n 0, 1) := by decide +kernel
theorem dLw_law_36 : decode cLw_law 36 = .ok (.arraylength, 1) := by decide +kernel
theorem dLw_law_37 : decode cLw_law 37 = .ok (.iconst 4, 1) := by decide +kernel
theorem dLw_law_38 : decode cLw_law 38 = .ok (.isub, 1) := by decide +kernel
theorem dLw_law_39 : decode cLw_law 39 = .ok (.if_icmp .gt 916, 3) := by decide +kernel
theorem dLw_law_42 : decode cLw_law 42 = .ok (.aload_n 0, 1) := by decide +kernel
theorem dLw_law_43 : decode cLw_law 43 = .ok (.iload 4, 2) := by decide +kernel
theorem dLw_law_45 : decode cLw_law 45 = .ok (.iaload, 1) := by decide +kernel
theorem dLw_law_46 : decode cLw_law 46 = .ok (.bipush 15, 2) := by decide +kernel
theorem dLw_law_48 : decode cLw_law 48 = .ok (.iand, 1) := by decide +kernel
theorem dLw_law_49 : decode cLw_law 49 = .ok (.tableswitch 900 0 13 #[71, 120, 145, 182, 238, 294, 369, 405, 485, 553, 621, 689, 757, 832], 71) := by decide +kernel
theorem dLw_law_120 : decode cLw_law 120 = .ok (.aload_n 1, 1) := by decide +kernel
theorem dLw_law_121 : decode cLw_law 121 = .ok (.aload_n 0, 1) := by decide +kernel
theorem dLw_law_122 : decode cLw_law 122 = .ok (.iload 4, 2) := by decide +kernel
theorem dLw_law_124 : decode cLw_law 124 = .ok (.iconst 1, 1) := by decide +kernel
theorem dLw_law_125 : decode cLw_law 125 = .ok (.iadd, 1) := by decide +kernel
theorem dLw_law_126 : decode cLw_law 126 = .ok (.iaload, 1) := by decide +kernel
theorem dLw_law_127 : decode cLw_law 127 = .ok (.aload_n 0, 1) := by decide +kernel
theorem dLw_law_128 : decode cLw_law 128 = .ok (.iload 4, 2) := by decide +kernel
theorem dLw_law_130 : decode cLw_law 130 = .ok (.iconst 2, 1) := by decide +kernel
theorem dLw_law_131 : decode cLw_law 131 = .ok (.iadd, 1) := by decide +kernel
theorem dLw_law_132 : decode cLw_law 132 = .ok (.iaload, 1) := by decide +kernel
theorem dLw_law_133 : decode cLw_law 133 = .ok (.aload_n 0, 1) := by decide +kernel
theorem dLw_law_134 : decode cLw_law 134 = .ok (.iload 4, 2) := by decide +kernel
theorem dLw_law_136 : decode cLw_law 136 = .ok (.iconst 3, 1) := by decide +kernel
theorem dLw_law_137 : decode cLw_law 137 = .ok (.iadd, 1) := by decide +kernel
theorem dLw_law_138 : decode cLw_law 138 = .ok (.iaload, 1) := by decide +kernel
theorem dLw_law_139 : decode cLw_law 139 = .ok (.invokevirtual 62, 3) := by decide +kernel
theorem dLw_law_142 : decode cLw_law 142 = .ok (.aload_n 2, 1) := by decide +kernel
theorem dLw_law_143 : decode cLw_law 143 = .ok (.aload_n 0, 1) := by decide +kernel
theorem dLw_law_144 : decode cLw_law 144 = .ok (.iload 4, 2) := by decide +kernel
theorem dLw_law_146 : decode cLw_law 146 = .ok (.iconst 1, 1) := by decide +kernel
theorem dLw_law_147 : decode cLw_law 147 = .ok (.iadd, 1) := by decide +kernel
theorem dLw_law_148 : decode cLw_law 148 = .ok (.iaload, 1) := by decide +kernel
theorem dLw_law_149 : decode cLw_law 149 = .ok (.aload_n 0, 1) := by decide +kernel
theorem dLw_law_150 : decode cLw_law 150 = .ok (.iload 4, 2) := by decide +kernel
theorem dLw_law_152 : decode cLw_law 152 = .ok (.iconst 2, 1) := by decide +kernel
theorem dLw_law_153 : decode cLw_law 153 = .ok (.iadd, 1) := by decide +kernel
theorem dLw_law_154 : decode cLw_law 154 = .ok (.iaload, 1) := by decide +kernel
theorem dLw_law_155 : decode cLw_law 155 = .ok (.aload_n 0, 1) := by decide +kernel
theorem dLw_law_156 : decode cLw_law 156 = .ok (.iload 4, 2) := by decide +kernel
theorem dLw_law_158 : decode cLw_law 158 = .ok (.iconst 3, 1) := by decide +kernel
theorem dLw_law_159 : decode cLw_law 159 = .ok (.iadd, 1) := by decide +kernel
theorem dLw_law_160 : decode cLw_law 160 = .ok (.iaload, 1) := by decide +kernel
theorem dLw_law_161 : decode cLw_law 161 = .ok (.invokevirtual 66, 3) := by decide +kernel
theorem dLw_law_164 : decode cLw_law 164 = .ok (.if_icmp .eq 785, 3) := by decide +kernel
theorem dLw_law_167 : decode cLw_law 167 = .ok (.iconst 0, 1) := by decide +kernel
theorem dLw_law_168 : decode cLw_law 168 = .ok (.ireturn, 1) := by decide +kernel
theorem dLw_law_169 : decode cLw_law 169 = .ok (.aload_n 1, 1) := by decide +kernel
theorem dLw_law_170 : decode cLw_law 170 = .ok (.aload_n 0, 1) := by decide +kernel
theorem dLw_law_171 : decode cLw_law 171 = .ok (.iload 4, 2) := by decide +kernel
theorem dLw_law_173 : decode cLw_law 173 = .ok (.iconst 1, 1) := by decide +kernel
theorem dLw_law_174 : decode cLw_law 174 = .ok (.iadd, 1) := by decide +kernel
theorem dLw_law_175 : decode cLw_law 175 = .ok (.iaload, 1) := by decide +kernel
theorem dLw_law_176 : decode cLw_law 176 = .ok (.invokevirtual 67, 3) := by decide +kernel
theorem dLw_law_179 : decode cLw_law 179 = .ok (.aload_n 2, 1) := by decide +kernel
theorem dLw_law_180 : decode cLw_law 180 = .ok (.aload_n 0, 1) := by decide +kernel
theorem dLw_law_181 : decode cLw_law 181 = .ok (.iload 4, 2) := by decide +kernel
theorem dLw_law_183 : decode cLw_law 183 = .ok (.iconst 1, 1) := by decide +kernel
theorem dLw_law_184 : decode cLw_law 184 = .ok (.iadd, 1) := by decide +kernel
theorem dLw_law_185 : decode cLw_law 185 = .ok (.iaload, 1) := by decide +kernel
theorem dLw_law_186 : decode cLw_law 186 = .ok (.invokevirtual 71, 3) := by decide +kernel
theorem dLw_law_189 : decode cLw_law 189 = .ok (.if_icmp .eq 760, 3) := by decide +kernel
theorem dLw_law_192 : decode cLw_law 192 = .ok (.iconst 0, 1) := by decide +kernel
theorem dLw_law_193 : decode cLw_law 193 = .ok (.ireturn, 1) := by decide +kernel
theorem dLw_law_194 : decode cLw_law 194 = .ok (.aload_n 1, 1) := by decide +kernel
theorem dLw_law_195 : decode cLw_law 195 = .ok (.aload_n 0, 1) := by decide +kernel
theorem dLw_law_196 : decode cLw_law 196 = .ok (.iload 4, 2) := by decide +kernel
theorem dLw_law_198 : decode cLw_law 198 = .ok (.iconst 1, 1) := by decide +kernel
theorem dLw_law_199 : decode cLw_law 199 = .ok (.iadd, 1) := by decide +kernel
theorem dLw_law_200 : decode cLw_law 200 = .ok (.iaload, 1) := by decide +kernel
theorem dLw_law_201 : decode cLw_law 201 = .ok (.aload_n 0, 1) := by decide +kernel
theorem dLw_law_202 : decode cLw_law 202 = .ok (.iload 4, 2) := by decide +kernel
theorem dLw_law_204 : decode cLw_law 204 = .ok (.iconst 2, 1) := by decide +kernel
theorem dLw_law_205 : decode cLw_law 205 = .ok (.iadd, 1) := by decide +kernel
theorem dLw_law_206 : decode cLw_law 206 = .ok (.iaload, 1) := by decide +kernel
theorem dLw_law_207 : decode cLw_law 207 = .ok (.invokevirtual 72, 3) := by decide +kernel
theorem dLw_law_210 : decode cLw_law 210 = .ok (.aload_n 2, 1) := by decide +kernel
theorem dLw_law_211 : decode cLw_law 211 = .ok (.aload_n 0, 1) := by decide +kernel
theorem dLw_law_212 : decode cLw_law 212 = .ok (.iload 4, 2) := by decide +kernel
theorem dLw_law_214 : decode cLw_law 214 = .ok (.iconst 1, 1) := by decide +kernel
theorem dLw_law_215 : decode cLw_law 215 = .ok (.iadd, 1) := by decide +kernel
theorem dLw_law_216 : decode cLw_law 216 = .ok (.iaload, 1) := by decide +kernel
theorem dLw_law_217 : decode cLw_law 217 = .ok (.aload_n 0, 1) := by decide +kernel
theorem dLw_law_218 : decode cLw_law 218 = .ok (.iload 4, 2) := by decide +kernel
theorem dLw_law_220 : decode cLw_law 220 = .ok (.iconst 2, 1) := by decide +kernel
theorem dLw_law_221 : decode cLw_law 221 = .ok (.iadd, 1) := by decide +kernel
theorem dLw_law_222 : decode cLw_law 222 = .ok (.iaload, 1) := by decide +kernel
theorem dLw_law_223 : decode cLw_law 223 = .ok (.invokevirtual 75, 3) := by decide +kernel
theorem dLw_law_226 : decode cLw_law 226 = .ok (.if_icmp .eq 723, 3) := by decide +kernel
theorem dLw_law_229 : decode cLw_law 229 = .ok (.iconst 0, 1) := by decide +kernel
theorem dLw_law_230 : decode cLw_law 230 = .ok (.ireturn, 1) := by decide +kernel
theorem dLw_law_231 : decode cLw_law 231 = .ok (.aload_n 1, 1) := by decide +kernel
theorem dLw_law_232 : decode cLw_law 232 = .ok (.aload_n 0, 1) := by decide +kernel
theorem dLw_law_233 : decode cLw_law 233 = .ok (.iload 4, 2) := by decide +kernel
theorem dLw_law_235 : decode cLw_law 235 = .ok (.iconst 1, 1) := by decide +kernel
theorem dLw_law_236 : decode cLw_law 236 = .ok (.iadd, 1) := by decide +kernel
theorem dLw_law_237 : decode cLw_law 237 = .ok (.iaload, 1) := by decide +kernel
theorem dLw_law_238 : decode cLw_law 238 = .ok (.aload_n 3, 1) := by decide +kernel
theorem dLw_law_239 : decode cLw_law 239 = .ok (.invokestatic 76, 3) := by decide +kernel
theorem dLw_law_242 : decode cLw_law 242 = .ok (.istore 5, 2) := by decide +kernel
theorem dLw_law_244 : decode cLw_law 244 = .ok (.aload_n 2, 1) := by decide +kernel
theorem dLw_law_245 : decode cLw_law 245 = .ok (.aload_n 0, 1) := by decide +kernel
theorem dLw_law_246 : decode cLw_law 246 = .ok (.iload 4, 2) := by decide +kernel
theorem dLw_law_248 : decode cLw_law 248 = .ok (.iconst 1, 1) := by decide +kernel
theorem dLw_law_249 : decode cLw_law 249 = .ok (.iadd, 1) := by decide +kernel
theorem dLw_law_250 : decode cLw_law 250 = .ok (.iaload, 1) := by decide +kernel
theorem dLw_law_251 : decode cLw_law 251 = .ok (.invokevirtual 79, 3) := by decide +kernel
theorem dLw_law_254 : decode cLw_law 254 = .ok (.istore 6, 2) := by decide +kernel
theorem dLw_law_256 : decode cLw_law 256 = .ok (.aload_n 2, 1) := by decide +kernel
theorem dLw_law_257 : decode cLw_law 257 = .ok (.invokevirtual 80, 3) := by decide +kernel
theorem dLw_law_260 : decode cLw_law 260 = .ok (.iload 5, 2) := by decide +kernel
theorem dLw_law_262 : decode cLw_law 262 = .ok (.if_icmp .eq 5, 3) := by decide +kernel
theorem dLw_law_265 : decode cLw_law 265 = .ok (.iconst 0, 1) := by decide +kernel
theorem dLw_law_266 : decode cLw_law 266 = .ok (.ireturn, 1) := by decide +kernel
theorem dLw_law_267 : decode cLw_law 267 = .ok (.iload 5, 2) := by decide +kernel
theorem dLw_law_269 : decode cLw_law 269 = .ok (.ifCond .ne 15, 3) := by decide +kernel
theorem dLw_law_272 : decode cLw_law 272 = .ok (.aload_n 3, 1) := by decide +kernel
theorem dLw_law_273 : decode cLw_law 273 = .ok (.iconst 0, 1) := by decide +kernel
theorem dLw_law_274 : decode cLw_law 274 = .ok (.laload, 1) := by decide +kernel
theorem dLw_law_275 : decode cLw_law 275 = .ok (.iload 6, 2) := by decide +kernel
theorem dLw_law_277 : decode cLw_law 277 = .ok (.i2l, 1) := by decide +kernel
theorem dLw_law_278 : decode cLw_law 278 = .ok (.lcmp, 1) := by decide +kernel
theorem dLw_law_279 : decode cLw_law 279 = .ok (.ifCond .eq 5, 3) := by decide +kernel
theorem dLw_law_282 : decode cLw_law 282 = .ok (.iconst 0, 1) := by decide +kernel
theorem dLw_law_283 : decode cLw_law 283 = .ok (.ireturn, 1) := by decide +kernel
theorem dLw_law_284 : decode cLw_law 284 = .ok (.goto 665, 3) := by decide +kernel
theorem dLw_law_287 : decode cLw_law 287 = .ok (.aload_n 1, 1) := by decide +kernel
theorem dLw_law_288 : decode cLw_law 288 = .ok (.aload_n 0, 1) := by decide +kernel
theorem dLw_law_289 : decode cLw_law 289 = .ok (.iload 4, 2) := by decide +kernel
theorem dLw_law_291 : decode cLw_law 291 = .ok (.iconst 1, 1) := by decide +kernel
theorem dLw_law_292 : decode cLw_law 292 = .ok (.iadd, 1) := by decide +kernel
theorem dLw_law_293 : decode cLw_law 293 = .ok (.iaload, 1) := by decide +kernel
theorem dLw_law_294 : decode cLw_law 294 = .ok (.aload_n 3, 1) := by decide +kernel
theorem dLw_law_295 : decode cLw_law 295 = .ok (.invokestatic 84, 3) := by decide +kernel
theorem dLw_law_298 : decode cLw_law 298 = .ok (.istore 5, 2) := by decide +kernel
theorem dLw_law_300 : decode cLw_law 300 = .ok (.aload_n 2, 1) := by decide +kernel
theorem dLw_law_301 : decode cLw_law 301 = .ok (.aload_n 0, 1) := by decide +kernel
theorem dLw_law_302 : decode cLw_law 302 = .ok (.iload 4, 2) := by decide +kernel
theorem dLw_law_304 : decode cLw_law 304 = .ok (.iconst 1, 1) := by decide +kernel
theorem dLw_law_305 : decode cLw_law 305 = .ok (.iadd, 1) := by decide +kernel
theorem dLw_law_306 : decode cLw_law 306 = .ok (.iaload, 1) := by decide +kernel
theorem dLw_law_307 : decode cLw_law 307 = .ok (.invokevirtual 86, 3) := by decide +kernel
theorem dLw_law_310 : decode cLw_law 310 = .ok (.istore 6, 2) := by decide +kernel
theorem dLw_law_312 : decode cLw_law 312 = .ok (.aload_n 2, 1) := by decide +kernel
theorem dLw_law_313 : decode cLw_law 313 = .ok (.invokevirtual 80, 3) := by decide +kernel
theorem dLw_law_316 : decode cLw_law 316 = .ok (.iload 5, 2) := by decide +kernel
theorem dLw_law_318 : decode cLw_law 318 = .ok (.if_icmp .eq 5, 3) := by decide +kernel
theorem dLw_law_321 : decode cLw_law 321 = .ok (.iconst 0, 1) := by decide +kernel
theorem dLw_law_322 : decode cLw_law 322 = .ok (.ireturn, 1) := by decide +kernel
theorem dLw_law_323 : decode cLw_law 323 = .ok (.iload 5, 2) := by decide +kernel
theorem dLw_law_325 : decode cLw_law 325 = .ok (.ifCond .ne 15, 3) := by decide +kernel
theorem dLw_law_328 : decode cLw_law 328 = .ok (.aload_n 3, 1) := by decide +kernel
theorem dLw_law_329 : decode cLw_law 329 = .ok (.iconst 0, 1) := by decide +kernel
theorem dLw_law_330 : decode cLw_law 330 = .ok (.laload, 1) := by decide +kernel
theorem dLw_law_331 : decode cLw_law 331 = .ok (.iload 6, 2) := by decide +kernel
theorem dLw_law_333 : decode cLw_law 333 = .ok (.i2l, 1) := by decide +kernel
theorem dLw_law_334 : decode cLw_law 334 = .ok (.lcmp, 1) := by decide +kernel
theorem dLw_law_335 : decode cLw_law 335 = .ok (.ifCond .eq 5, 3) := by decide +kernel
theorem dLw_law_338 : decode cLw_law 338 = .ok (.iconst 0, 1) := by decide +kernel
theorem dLw_law_339 : decode cLw_law 339 = .ok (.ireturn, 1) := by decide +kernel
theorem dLw_law_340 : decode cLw_law 340 = .ok (.goto 609, 3) := by decide +kernel
theorem dLw_law_343 : decode cLw_law 343 = .ok (.aload_n 1, 1) := by decide +kernel
theorem dLw_law_344 : decode cLw_law 344 = .ok (.aload_n 0, 1) := by decide +kernel
theorem dLw_law_345 : decode cLw_law 345 = .ok (.iload 4, 2) := by decide +kernel
theorem dLw_law_347 : decode cLw_law 347 = .ok (.iconst 1, 1) := by decide +kernel
theorem dLw_law_348 : decode cLw_law 348 = .ok (.iadd, 1) := by decide +kernel
theorem dLw_law_349 : decode cLw_law 349 = .ok (.iaload, 1) := by decide +kernel
theorem dLw_law_350 : decode cLw_law 350 = .ok (.aload_n 0, 1) := by decide +kernel
theorem dLw_law_351 : decode cLw_law 351 = .ok (.iload 4, 2) := by decide +kernel
theorem dLw_law_353 : decode cLw_law 353 = .ok (.iconst 2, 1) := by decide +kernel
theorem dLw_law_354 : decode cLw_law 354 = .ok (.iadd, 1) := by decide +kernel
theorem dLw_law_355 : decode cLw_law 355 = .ok (.iaload, 1) := by decide +kernel
theorem dLw_law_356 : decode cLw_law 356 = .ok (.aload_n 3, 1) := by decide +kernel
theorem dLw_law_357 : decode cLw_law 357 = .ok (.invokestatic 87, 3) := by decide +kernel
theorem dLw_law_360 : decode cLw_law 360 = .ok (.istore 5, 2) := by decide +kernel
theorem dLw_law_362 : decode cLw_law 362 = .ok (.aload_n 2, 1) := by decide +kernel
theorem dLw_law_363 : decode cLw_law 363 = .ok (.aload_n 0, 1) := by decide +kernel
theorem dLw_law_364 : decode cLw_law 364 = .ok (.iload 4, 2) := by decide +kernel
theorem dLw_law_366 : decode cLw_law 366 = .ok (.iconst 1, 1) := by decide +kernel
theorem dLw_law_367 : decode cLw_law 367 = .ok (.iadd, 1) := by decide +kernel
theorem dLw_law_368 : decode cLw_law 368 = .ok (.iaload, 1) := by decide +kernel
theorem dLw_law_369 : decode cLw_law 369 = .ok (.aload_n 0, 1) := by decide +kernel
theorem dLw_law_370 : decode cLw_law 370 = .ok (.iload 4, 2) := by decide +kernel
theorem dLw_law_372 : decode cLw_law 372 = .ok (.iconst 2, 1) := by decide +kernel
theorem dLw_law_373 : decode cLw_law 373 = .ok (.iadd, 1) := by decide +kernel
theorem dLw_law_374 : decode cLw_law 374 = .ok (.iaload, 1) := by decide +kernel
theorem dLw_law_375 : decode cLw_law 375 = .ok (.invokevirtual 90, 3) := by decide +kernel
theorem dLw_law_378 : decode cLw_law 378 = .ok (.istore 6, 2) := by decide +kernel
theorem dLw_law_380 : decode cLw_law 380 = .ok (.aload_n 2, 1) := by decide +kernel
theorem dLw_law_381 : decode cLw_law 381 = .ok (.invokevirtual 80, 3) := by decide +kernel
theorem dLw_law_384 : decode cLw_law 384 = .ok (.iload 5, 2) := by decide +kernel
theorem dLw_law_386 : decode cLw_law 386 = .ok (.if_icmp .eq 5, 3) := by decide +kernel
theorem dLw_law_389 : decode cLw_law 389 = .ok (.iconst 0, 1) := by decide +kernel
theorem dLw_law_390 : decode cLw_law 390 = .ok (.ireturn, 1) := by decide +kernel
theorem dLw_law_391 : decode cLw_law 391 = .ok (.iload 5, 2) := by decide +kernel
theorem dLw_law_393 : decode cLw_law 393 = .ok (.ifCond .ne 22, 3) := by decide +kernel
theorem dLw_law_396 : decode cLw_law 396 = .ok (.aload_n 3, 1) := by decide +kernel
theorem dLw_law_397 : decode cLw_law 397 = .ok (.iconst 0, 1) := by decide +kernel
theorem dLw_law_398 : decode cLw_law 398 = .ok (.laload, 1) := by decide +kernel
theorem dLw_law_399 : decode cLw_law 399 = .ok (.iload 6, 2) := by decide +kernel
theorem dLw_law_401 : decode cLw_law 401 = .ok (.ifCond .eq 7, 3) := by decide +kernel
theorem dLw_law_404 : decode cLw_law 404 = .ok (.lconst 1, 1) := by decide +kernel
theorem dLw_law_405 : decode cLw_law 405 = .ok (.goto 4, 3) := by decide +kernel
theorem dLw_law_408 : decode cLw_law 408 = .ok (.lconst 0, 1) := by decide +kernel
theorem dLw_law_409 : decode cLw_law 409 = .ok (.lcmp, 1) := by decide +kernel
theorem dLw_law_410 : decode cLw_law 410 = .ok (.ifCond .eq 5, 3) := by decide +kernel
theorem dLw_law_413 : decode cLw_law 413 = .ok (.iconst 0, 1) := by decide +kernel
theorem dLw_law_414 : decode cLw_law 414 = .ok (.ireturn, 1) := by decide +kernel
theorem dLw_law_415 : decode cLw_law 415 = .ok (.goto 534, 3) := by decide +kernel
theorem dLw_law_418 : decode cLw_law 418 = .ok (.aload_n 1, 1) := by decide +kernel
theorem dLw_law_419 : decode cLw_law 419 = .ok (.aload_n 0, 1) := by decide +kernel
theorem dLw_law_420 : decode cLw_law 420 = .ok (.iload 4, 2) := by decide +kernel
theorem dLw_law_422 : decode cLw_law 422 = .ok (.iconst 1, 1) := by decide +kernel
theorem dLw_law_423 : decode cLw_law 423 = .ok (.iadd, 1) := by decide +kernel
theorem dLw_law_424 : decode cLw_law 424 = .ok (.iaload, 1) := by decide +kernel
theorem dLw_law_425 : decode cLw_law 425 = .ok (.invokestatic 91, 3) := by decide +kernel
theorem dLw_law_428 : decode cLw_law 428 = .ok (.istore 5, 2) := by decide +kernel
theorem dLw_law_430 : decode cLw_law 430 = .ok (.aload_n 2, 1) := by decide +kernel
theorem dLw_law_431 : decode cLw_law 431 = .ok (.aload_n 0, 1) := by decide +kernel
theorem dLw_law_432 : decode cLw_law 432 = .ok (.iload 4, 2) := by decide +kernel
theorem dLw_law_434 : decode cLw_law 434 = .ok (.iconst 1, 1) := by decide +kernel
theorem dLw_law_435 : decode cLw_law 435 = .ok (.iadd, 1) := by decide +kernel
theorem dLw_law_436 : decode cLw_law 436 = .ok (.iaload, 1) := by decide +kernel
theorem dLw_law_437 : decode cLw_law 437 = .ok (.invokevirtual 94, 3) := by decide +kernel
theorem dLw_law_440 : decode cLw_law 440 = .ok (.aload_n 2, 1) := by decide +kernel
theorem dLw_law_441 : decode cLw_law 441 = .ok (.invokevirtual 80, 3) := by decide +kernel
theorem dLw_law_444 : decode cLw_law 444 = .ok (.iload 5, 2) := by decide +kernel
theorem dLw_law_446 : decode cLw_law 446 = .ok (.if_icmp .eq 5, 3) := by decide +kernel
theorem dLw_law_449 : decode cLw_law 449 = .ok (.iconst 0, 1) := by decide +kernel
theorem dLw_law_450 : decode cLw_law 450 = .ok (.ireturn, 1) := by decide +kernel
theorem dLw_law_451 : decode cLw_law 451 = .ok (.goto 498, 3) := by decide +kernel
theorem dLw_law_454 : decode cLw_law 454 = .ok (.aload_n 1, 1) := by decide +kernel
theorem dLw_law_455 : decode cLw_law 455 = .ok (.aload_n 0, 1) := by decide +kernel
theorem dLw_law_456 : decode cLw_law 456 = .ok (.iload 4, 2) := by decide +kernel
theorem dLw_law_458 : decode cLw_law 458 = .ok (.iconst 1, 1) := by decide +kernel
theorem dLw_law_459 : decode cLw_law 459 = .ok (.iadd, 1) := by decide +kernel
theorem dLw_law_460 : decode cLw_law 460 = .ok (.iaload, 1) := by decide +kernel
theorem dLw_law_461 : decode cLw_law 461 = .ok (.aload_n 0, 1) := by decide +kernel
theorem dLw_law_462 : decode cLw_law 462 = .ok (.iload 4, 2) := by decide +kernel
theorem dLw_law_464 : decode cLw_law 464 = .ok (.iconst 2, 1) := by decide +kernel
theorem dLw_law_465 : decode cLw_law 465 = .ok (.iadd, 1) := by decide +kernel
theorem dLw_law_466 : decode cLw_law 466 = .ok (.iaload, 1) := by decide +kernel
theorem dLw_law_467 : decode cLw_law 467 = .ok (.aload_n 0, 1) := by decide +kernel
theorem dLw_law_468 : decode cLw_law 468 = .ok (.iload 4, 2) := by decide +kernel
theorem dLw_law_470 : decode cLw_law 470 = .ok (.iconst 3, 1) := by decide +kernel
theorem dLw_law_471 : decode cLw_law 471 = .ok (.iadd, 1) := by decide +kernel
theorem dLw_law_472 : decode cLw_law 472 = .ok (.iaload, 1) := by decide +kernel
theorem dLw_law_473 : decode cLw_law 473 = .ok (.aload_n 3, 1) := by decide +kernel
theorem dLw_law_474 : decode cLw_law 474 = .ok (.invokestatic 95, 3) := by decide +kernel
theorem dLw_law_477 : decode cLw_law 477 = .ok (.istore 5, 2) := by decide +kernel
theorem dLw_law_479 : decode cLw_law 479 = .ok (.aload_n 2, 1) := by decide +kernel
theorem dLw_law_480 : decode cLw_law 480 = .ok (.aload_n 0, 1) := by decide +kernel
theorem dLw_law_481 : decode cLw_law 481 = .ok (.iload 4, 2) := by decide +kernel
theorem dLw_law_483 : decode cLw_law 483 = .ok (.iconst 1, 1) := by decide +kernel
theorem dLw_law_484 : decode cLw_law 484 = .ok (.iadd, 1) := by decide +kernel
theorem dLw_law_485 : decode cLw_law 485 = .ok (.iaload, 1) := by decide +kernel
theorem dLw_law_486 : decode cLw_law 486 = .ok (.aload_n 0, 1) := by decide +kernel
theorem dLw_law_487 : decode cLw_law 487 = .ok (.iload 4, 2) := by decide +kernel
theorem dLw_law_489 : decode cLw_law 489 = .ok (.iconst 2, 1) := by decide +kernel
theorem dLw_law_490 : decode cLw_law 490 = .ok (.iadd, 1) := by decide +kernel
theorem dLw_law_491 : decode cLw_law 491 = .ok (.iaload, 1) := by decide +kernel
theorem dLw_law_492 : decode cLw_law 492 = .ok (.aload_n 0, 1) := by decide +kernel
theorem dLw_law_493 : decode cLw_law 493 = .ok (.iload 4, 2) := by decide +kernel
theorem dLw_law_495 : decode cLw_law 495 = .ok (.iconst 3, 1) := by decide +kernel
theorem dLw_law_496 : decode cLw_law 496 = .ok (.iadd, 1) := by decide +kernel
theorem dLw_law_497 : decode cLw_law 497 = .ok (.iaload, 1) := by decide +kernel
theorem dLw_law_498 : decode cLw_law 498 = .ok (.invokevirtual 98, 3) := by decide +kernel
theorem dLw_law_501 : decode cLw_law 501 = .ok (.istore 6, 2) := by decide +kernel
theorem dLw_law_503 : decode cLw_law 503 = .ok (.aload_n 2, 1) := by decide +kernel
theorem dLw_law_504 : decode cLw_law 504 = .ok (.invokevirtual 80, 3) := by decide +kernel
theorem dLw_law_507 : decode cLw_law 507 = .ok (.iload 5, 2) := by decide +kernel
theorem dLw_law_509 : decode cLw_law 509 = .ok (.if_icmp .eq 5, 3) := by decide +kernel
theorem dLw_law_512 : decode cLw_law 512 = .ok (.iconst 0, 1) := by decide +kernel
theorem dLw_law_513 : decode cLw_law 513 = .ok (.ireturn, 1) := by decide +kernel
theorem dLw_law_514 : decode cLw_law 514 = .ok (.iload 5, 2) := by decide +kernel
theorem dLw_law_516 : decode cLw_law 516 = .ok (.ifCond .ne 15, 3) := by decide +kernel
theorem dLw_law_519 : decode cLw_law 519 = .ok (.aload_n 3, 1) := by decide +kernel
theorem dLw_law_520 : decode cLw_law 520 = .ok (.iconst 0, 1) := by decide +kernel
theorem dLw_law_521 : decode cLw_law 521 = .ok (.laload, 1) := by decide +kernel
theorem dLw_law_522 : decode cLw_law 522 = .ok (.iload 6, 2) := by decide +kernel
theorem dLw_law_524 : decode cLw_law 524 = .ok (.i2l, 1) := by decide +kernel
theorem dLw_law_525 : decode cLw_law 525 = .ok (.lcmp, 1) := by decide +kernel
theorem dLw_law_526 : decode cLw_law 526 = .ok (.ifCond .eq 5, 3) := by decide +kernel
theorem dLw_law_529 : decode cLw_law 529 = .ok (.iconst 0, 1) := by decide +kernel
theorem dLw_law_530 : decode cLw_law 530 = .ok (.ireturn, 1) := by decide +kernel
theorem dLw_law_531 : decode cLw_law 531 = .ok (.goto 418, 3) := by decide +kernel
theorem dLw_law_534 : decode cLw_law 534 = .ok (.aload_n 1, 1) := by decide +kernel
theorem dLw_law_535 : decode cLw_law 535 = .ok (.aload_n 0, 1) := by decide +kernel
theorem dLw_law_536 : decode cLw_law 536 = .ok (.iload 4, 2) := by decide +kernel
theorem dLw_law_538 : decode cLw_law 538 = .ok (.iconst 1, 1) := by decide +kernel
theorem dLw_law_539 : decode cLw_law 539 = .ok (.iadd, 1) := by decide +kernel
theorem dLw_law_540 : decode cLw_law 540 = .ok (.iaload, 1) := by decide +kernel
theorem dLw_law_541 : decode cLw_law 541 = .ok (.aload_n 0, 1) := by decide +kernel
theorem dLw_law_542 : decode cLw_law 542 = .ok (.iload 4, 2) := by decide +kernel
theorem dLw_law_544 : decode cLw_law 544 = .ok (.iconst 2, 1) := by decide +kernel
theorem dLw_law_545 : decode cLw_law 545 = .ok (.iadd, 1) := by decide +kernel
theorem dLw_law_546 : decode cLw_law 546 = .ok (.iaload, 1) := by decide +kernel
theorem dLw_law_547 : decode cLw_law 547 = .ok (.aload_n 3, 1) := by decide +kernel
theorem dLw_law_548 : decode cLw_law 548 = .ok (.invokestatic 99, 3) := by decide +kernel
theorem dLw_law_551 : decode cLw_law 551 = .ok (.istore 5, 2) := by decide +kernel
theorem dLw_law_553 : decode cLw_law 553 = .ok (.aload_n 2, 1) := by decide +kernel
theorem dLw_law_554 : decode cLw_law 554 = .ok (.aload_n 0, 1) := by decide +kernel
theorem dLw_law_555 : decode cLw_law 555 = .ok (.iload 4, 2) := by decide +kernel
theorem dLw_law_557 : decode cLw_law 557 = .ok (.iconst 1, 1) := by decide +kernel
theorem dLw_law_558 : decode cLw_law 558 = .ok (.iadd, 1) := by decide +kernel
theorem dLw_law_559 : decode cLw_law 559 = .ok (.iaload, 1) := by decide +kernel
theorem dLw_law_560 : decode cLw_law 560 = .ok (.aload_n 0, 1) := by decide +kernel
theorem dLw_law_561 : decode cLw_law 561 = .ok (.iload 4, 2) := by decide +kernel
theorem dLw_law_563 : decode cLw_law 563 = .ok (.iconst 2, 1) := by decide +kernel
theorem dLw_law_564 : decode cLw_law 564 = .ok (.iadd, 1) := by decide +kernel
theorem dLw_law_565 : decode cLw_law 565 = .ok (.iaload, 1) := by decide +kernel
theorem dLw_law_566 : decode cLw_law 566 = .ok (.invokevirtual 101, 3) := by decide +kernel
theorem dLw_law_569 : decode cLw_law 569 = .ok (.istore 6, 2) := by decide +kernel
theorem dLw_law_571 : decode cLw_law 571 = .ok (.aload_n 2, 1) := by decide +kernel
theorem dLw_law_572 : decode cLw_law 572 = .ok (.invokevirtual 80, 3) := by decide +kernel
theorem dLw_law_575 : decode cLw_law 575 = .ok (.iload 5, 2) := by decide +kernel
theorem dLw_law_577 : decode cLw_law 577 = .ok (.if_icmp .eq 5, 3) := by decide +kernel
theorem dLw_law_580 : decode cLw_law 580 = .ok (.iconst 0, 1) := by decide +kernel
theorem dLw_law_581 : decode cLw_law 581 = .ok (.ireturn, 1) := by decide +kernel
theorem dLw_law_582 : decode cLw_law 582 = .ok (.iload 5, 2) := by decide +kernel
theorem dLw_law_584 : decode cLw_law 584 = .ok (.ifCond .ne 15, 3) := by decide +kernel
theorem dLw_law_587 : decode cLw_law 587 = .ok (.aload_n 3, 1) := by decide +kernel
theorem dLw_law_588 : decode cLw_law 588 = .ok (.iconst 0, 1) := by decide +kernel
theorem dLw_law_589 : decode cLw_law 589 = .ok (.laload, 1) := by decide +kernel
theorem dLw_law_590 : decode cLw_law 590 = .ok (.iload 6, 2) := by decide +kernel
theorem dLw_law_592 : decode cLw_law 592 = .ok (.i2l, 1) := by decide +kernel
theorem dLw_law_593 : decode cLw_law 593 = .ok (.lcmp, 1) := by decide +kernel
theorem dLw_law_594 : decode cLw_law 594 = .ok (.ifCond .eq 5, 3) := by decide +kernel
theorem dLw_law_597 : decode cLw_law 597 = .ok (.iconst 0, 1) := by decide +kernel
theorem dLw_law_598 : decode cLw_law 598 = .ok (.ireturn, 1) := by decide +kernel
theorem dLw_law_599 : decode cLw_law 599 = .ok (.goto 350, 3) := by decide +kernel
theorem dLw_law_602 : decode cLw_law 602 = .ok (.aload_n 1, 1) := by decide +kernel
theorem dLw_law_603 : decode cLw_law 603 = .ok (.aload_n 0, 1) := by decide +kernel
theorem dLw_law_604 : decode cLw_law 604 = .ok (.iload 4, 2) := by decide +kernel
theorem dLw_law_606 : decode cLw_law 606 = .ok (.iconst 1, 1) := by decide +kernel
theorem dLw_law_607 : decode cLw_law 607 = .ok (.iadd, 1) := by decide +kernel
theorem dLw_law_608 : decode cLw_law 608 = .ok (.iaload, 1) := by decide +kernel
theorem dLw_law_609 : decode cLw_law 609 = .ok (.aload_n 0, 1) := by decide +kernel
theorem dLw_law_610 : decode cLw_law 610 = .ok (.iload 4, 2) := by decide +kernel
theorem dLw_law_612 : decode cLw_law 612 = .ok (.iconst 2, 1) := by decide +kernel
theorem dLw_law_613 : decode cLw_law 613 = .ok (.iadd, 1) := by decide +kernel
theorem dLw_law_614 : decode cLw_law 614 = .ok (.iaload, 1) := by decide +kernel
theorem dLw_law_615 : decode cLw_law 615 = .ok (.aload_n 3, 1) := by decide +kernel
theorem dLw_law_616 : decode cLw_law 616 = .ok (.invokestatic 102, 3) := by decide +kernel
theorem dLw_law_619 : decode cLw_law 619 = .ok (.istore 5, 2) := by decide +kernel
theorem dLw_law_621 : decode cLw_law 621 = .ok (.aload_n 2, 1) := by decide +kernel
theorem dLw_law_622 : decode cLw_law 622 = .ok (.aload_n 0, 1) := by decide +kernel
theorem dLw_law_623 : decode cLw_law 623 = .ok (.iload 4, 2) := by decide +kernel
theorem dLw_law_625 : decode cLw_law 625 = .ok (.iconst 1, 1) := by decide +kernel
theorem dLw_law_626 : decode cLw_law 626 = .ok (.iadd, 1) := by decide +kernel
theorem dLw_law_627 : decode cLw_law 627 = .ok (.iaload, 1) := by decide +kernel
theorem dLw_law_628 : decode cLw_law 628 = .ok (.aload_n 0, 1) := by decide +kernel
theorem dLw_law_629 : decode cLw_law 629 = .ok (.iload 4, 2) := by decide +kernel
theorem dLw_law_631 : decode cLw_law 631 = .ok (.iconst 2, 1) := by decide +kernel
theorem dLw_law_632 : decode cLw_law 632 = .ok (.iadd, 1) := by decide +kernel
theorem dLw_law_633 : decode cLw_law 633 = .ok (.iaload, 1) := by decide +kernel
theorem dLw_law_634 : decode cLw_law 634 = .ok (.invokevirtual 104, 3) := by decide +kernel
theorem dLw_law_637 : decode cLw_law 637 = .ok (.istore 6, 2) := by decide +kernel
theorem dLw_law_639 : decode cLw_law 639 = .ok (.aload_n 2, 1) := by decide +kernel
theorem dLw_law_640 : decode cLw_law 640 = .ok (.invokevirtual 80, 3) := by decide +kernel
theorem dLw_law_643 : decode cLw_law 643 = .ok (.iload 5, 2) := by decide +kernel
theorem dLw_law_645 : decode cLw_law 645 = .ok (.if_icmp .eq 5, 3) := by decide +kernel
theorem dLw_law_648 : decode cLw_law 648 = .ok (.iconst 0, 1) := by decide +kernel
theorem dLw_law_649 : decode cLw_law 649 = .ok (.ireturn, 1) := by decide +kernel
theorem dLw_law_650 : decode cLw_law 650 = .ok (.iload 5, 2) := by decide +kernel
theorem dLw_law_652 : decode cLw_law 652 = .ok (.ifCond .ne 15, 3) := by decide +kernel
theorem dLw_law_655 : decode cLw_law 655 = .ok (.aload_n 3, 1) := by decide +kernel
theorem dLw_law_656 : decode cLw_law 656 = .ok (.iconst 0, 1) := by decide +kernel
theorem dLw_law_657 : decode cLw_law 657 = .ok (.laload, 1) := by decide +kernel
theorem dLw_law_658 : decode cLw_law 658 = .ok (.iload 6, 2) := by decide +kernel
theorem dLw_law_660 : decode cLw_law 660 = .ok (.i2l, 1) := by decide +kernel
theorem dLw_law_661 : decode cLw_law 661 = .ok (.lcmp, 1) := by decide +kernel
theorem dLw_law_662 : decode cLw_law 662 = .ok (.ifCond .eq 5, 3) := by decide +kernel
theorem dLw_law_665 : decode cLw_law 665 = .ok (.iconst 0, 1) := by decide +kernel
theorem dLw_law_666 : decode cLw_law 666 = .ok (.ireturn, 1) := by decide +kernel
theorem dLw_law_667 : decode cLw_law 667 = .ok (.goto 282, 3) := by decide +kernel
theorem dLw_law_670 : decode cLw_law 670 = .ok (.aload_n 1, 1) := by decide +kernel
theorem dLw_law_671 : decode cLw_law 671 = .ok (.aload_n 0, 1) := by decide +kernel
theorem dLw_law_672 : decode cLw_law 672 = .ok (.iload 4, 2) := by decide +kernel
theorem dLw_law_674 : decode cLw_law 674 = .ok (.iconst 1, 1) := by decide +kernel
theorem dLw_law_675 : decode cLw_law 675 = .ok (.iadd, 1) := by decide +kernel
theorem dLw_law_676 : decode cLw_law 676 = .ok (.iaload, 1) := by decide +kernel
theorem dLw_law_677 : decode cLw_law 677 = .ok (.aload_n 0, 1) := by decide +kernel
theorem dLw_law_678 : decode cLw_law 678 = .ok (.iload 4, 2) := by decide +kernel
theorem dLw_law_680 : decode cLw_law 680 = .ok (.iconst 2, 1) := by decide +kernel
theorem dLw_law_681 : decode cLw_law 681 = .ok (.iadd, 1) := by decide +kernel
theorem dLw_law_682 : decode cLw_law 682 = .ok (.iaload, 1) := by decide +kernel
theorem dLw_law_683 : decode cLw_law 683 = .ok (.aload_n 3, 1) := by decide +kernel
theorem dLw_law_684 : decode cLw_law 684 = .ok (.invokestatic 105, 3) := by decide +kernel
theorem dLw_law_687 : decode cLw_law 687 = .ok (.istore 5, 2) := by decide +kernel
theorem dLw_law_689 : decode cLw_law 689 = .ok (.aload_n 2, 1) := by decide +kernel
theorem dLw_law_690 : decode cLw_law 690 = .ok (.aload_n 0, 1) := by decide +kernel
theorem dLw_law_691 : decode cLw_law 691 = .ok (.iload 4, 2) := by decide +kernel
theorem dLw_law_693 : decode cLw_law 693 = .ok (.iconst 1, 1) := by decide +kernel
theorem dLw_law_694 : decode cLw_law 694 = .ok (.iadd, 1) := by decide +kernel
theorem dLw_law_695 : decode cLw_law 695 = .ok (.iaload, 1) := by decide +kernel
theorem dLw_law_696 : decode cLw_law 696 = .ok (.aload_n 0, 1) := by decide +kernel
theorem dLw_law_697 : decode cLw_law 697 = .ok (.iload 4, 2) := by decide +kernel
theorem dLw_law_699 : decode cLw_law 699 = .ok (.iconst 2, 1) := by decide +kernel
theorem dLw_law_700 : decode cLw_law 700 = .ok (.iadd, 1) := by decide +kernel
theorem dLw_law_701 : decode cLw_law 701 = .ok (.iaload, 1) := by decide +kernel
theorem dLw_law_702 : decode cLw_law 702 = .ok (.invokevirtual 107, 3) := by decide +kernel
theorem dLw_law_705 : decode cLw_law 705 = .ok (.istore 6, 2) := by decide +kernel
theorem dLw_law_707 : decode cLw_law 707 = .ok (.aload_n 2, 1) := by decide +kernel
theorem dLw_law_708 : decode cLw_law 708 = .ok (.invokevirtual 80, 3) := by decide +kernel
theorem dLw_law_711 : decode cLw_law 711 = .ok (.iload 5, 2) := by decide +kernel
theorem dLw_law_713 : decode cLw_law 713 = .ok (.if_icmp .eq 5, 3) := by decide +kernel
theorem dLw_law_716 : decode cLw_law 716 = .ok (.iconst 0, 1) := by decide +kernel
theorem dLw_law_717 : decode cLw_law 717 = .ok (.ireturn, 1) := by decide +kernel
theorem dLw_law_718 : decode cLw_law 718 = .ok (.iload 5, 2) := by decide +kernel
theorem dLw_law_720 : decode cLw_law 720 = .ok (.ifCond .ne 15, 3) := by decide +kernel
theorem dLw_law_723 : decode cLw_law 723 = .ok (.aload_n 3, 1) := by decide +kernel
theorem dLw_law_724 : decode cLw_law 724 = .ok (.iconst 0, 1) := by decide +kernel
theorem dLw_law_725 : decode cLw_law 725 = .ok (.laload, 1) := by decide +kernel
theorem dLw_law_726 : decode cLw_law 726 = .ok (.iload 6, 2) := by decide +kernel
theorem dLw_law_728 : decode cLw_law 728 = .ok (.i2l, 1) := by decide +kernel
theorem dLw_law_729 : decode cLw_law 729 = .ok (.lcmp, 1) := by decide +kernel
theorem dLw_law_730 : decode cLw_law 730 = .ok (.ifCond .eq 5, 3) := by decide +kernel
theorem dLw_law_733 : decode cLw_law 733 = .ok (.iconst 0, 1) := by decide +kernel
theorem dLw_law_734 : decode cLw_law 734 = .ok (.ireturn, 1) := by decide +kernel
theorem dLw_law_735 : decode cLw_law 735 = .ok (.goto 214, 3) := by decide +kernel
theorem dLw_law_738 : decode cLw_law 738 = .ok (.aload_n 1, 1) := by decide +kernel
theorem dLw_law_739 : decode cLw_law 739 = .ok (.aload_n 0, 1) := by decide +kernel
theorem dLw_law_740 : decode cLw_law 740 = .ok (.iload 4, 2) := by decide +kernel
theorem dLw_law_742 : decode cLw_law 742 = .ok (.iconst 1, 1) := by decide +kernel
theorem dLw_law_743 : decode cLw_law 743 = .ok (.iadd, 1) := by decide +kernel
theorem dLw_law_744 : decode cLw_law 744 = .ok (.iaload, 1) := by decide +kernel
theorem dLw_law_745 : decode cLw_law 745 = .ok (.aload_n 0, 1) := by decide +kernel
theorem dLw_law_746 : decode cLw_law 746 = .ok (.iload 4, 2) := by decide +kernel
theorem dLw_law_748 : decode cLw_law 748 = .ok (.iconst 2, 1) := by decide +kernel
theorem dLw_law_749 : decode cLw_law 749 = .ok (.iadd, 1) := by decide +kernel
theorem dLw_law_750 : decode cLw_law 750 = .ok (.iaload, 1) := by decide +kernel
theorem dLw_law_751 : decode cLw_law 751 = .ok (.aload_n 3, 1) := by decide +kernel
theorem dLw_law_752 : decode cLw_law 752 = .ok (.invokestatic 108, 3) := by decide +kernel
theorem dLw_law_755 : decode cLw_law 755 = .ok (.istore 5, 2) := by decide +kernel
theorem dLw_law_757 : decode cLw_law 757 = .ok (.aload_n 2, 1) := by decide +kernel
theorem dLw_law_758 : decode cLw_law 758 = .ok (.aload_n 0, 1) := by decide +kernel
theorem dLw_law_759 : decode cLw_law 759 = .ok (.iload 4, 2) := by decide +kernel
theorem dLw_law_761 : decode cLw_law 761 = .ok (.iconst 1, 1) := by decide +kernel
theorem dLw_law_762 : decode cLw_law 762 = .ok (.iadd, 1) := by decide +kernel
theorem dLw_law_763 : decode cLw_law 763 = .ok (.iaload, 1) := by decide +kernel
theorem dLw_law_764 : decode cLw_law 764 = .ok (.aload_n 0, 1) := by decide +kernel
theorem dLw_law_765 : decode cLw_law 765 = .ok (.iload 4, 2) := by decide +kernel
theorem dLw_law_767 : decode cLw_law 767 = .ok (.iconst 2, 1) := by decide +kernel
theorem dLw_law_768 : decode cLw_law 768 = .ok (.iadd, 1) := by decide +kernel
theorem dLw_law_769 : decode cLw_law 769 = .ok (.iaload, 1) := by decide +kernel
theorem dLw_law_770 : decode cLw_law 770 = .ok (.invokevirtual 110, 3) := by decide +kernel
theorem dLw_law_773 : decode cLw_law 773 = .ok (.istore 6, 2) := by decide +kernel
theorem dLw_law_775 : decode cLw_law 775 = .ok (.aload_n 2, 1) := by decide +kernel
theorem dLw_law_776 : decode cLw_law 776 = .ok (.invokevirtual 80, 3) := by decide +kernel
theorem dLw_law_779 : decode cLw_law 779 = .ok (.iload 5, 2) := by decide +kernel
theorem dLw_law_781 : decode cLw_law 781 = .ok (.if_icmp .eq 5, 3) := by decide +kernel
theorem dLw_law_784 : decode cLw_law 784 = .ok (.iconst 0, 1) := by decide +kernel
theorem dLw_law_785 : decode cLw_law 785 = .ok (.ireturn, 1) := by decide +kernel
theorem dLw_law_786 : decode cLw_law 786 = .ok (.iload 5, 2) := by decide +kernel
theorem dLw_law_788 : decode cLw_law 788 = .ok (.ifCond .ne 15, 3) := by decide +kernel
theorem dLw_law_791 : decode cLw_law 791 = .ok (.aload_n 3, 1) := by decide +kernel
theorem dLw_law_792 : decode cLw_law 792 = .ok (.iconst 0, 1) := by decide +kernel
theorem dLw_law_793 : decode cLw_law 793 = .ok (.laload, 1) := by decide +kernel
theorem dLw_law_794 : decode cLw_law 794 = .ok (.iload 6, 2) := by decide +kernel
theorem dLw_law_796 : decode cLw_law 796 = .ok (.i2l, 1) := by decide +kernel
theorem dLw_law_797 : decode cLw_law 797 = .ok (.lcmp, 1) := by decide +kernel
theorem dLw_law_798 : decode cLw_law 798 = .ok (.ifCond .eq 5, 3) := by decide +kernel
theorem dLw_law_801 : decode cLw_law 801 = .ok (.iconst 0, 1) := by decide +kernel
theorem dLw_law_802 : decode cLw_law 802 = .ok (.ireturn, 1) := by decide +kernel
theorem dLw_law_803 : decode cLw_law 803 = .ok (.goto 146, 3) := by decide +kernel
theorem dLw_law_806 : decode cLw_law 806 = .ok (.aload_n 1, 1) := by decide +kernel
theorem dLw_law_807 : decode cLw_law 807 = .ok (.aload_n 0, 1) := by decide +kernel
theorem dLw_law_808 : decode cLw_law 808 = .ok (.iload 4, 2) := by decide +kernel
theorem dLw_law_810 : decode cLw_law 810 = .ok (.iconst 1, 1) := by decide +kernel
theorem dLw_law_811 : decode cLw_law 811 = .ok (.iadd, 1) := by decide +kernel
theorem dLw_law_812 : decode cLw_law 812 = .ok (.iaload, 1) := by decide +kernel
theorem dLw_law_813 : decode cLw_law 813 = .ok (.aload_n 0, 1) := by decide +kernel
theorem dLw_law_814 : decode cLw_law 814 = .ok (.iload 4, 2) := by decide +kernel
theorem dLw_law_816 : decode cLw_law 816 = .ok (.iconst 2, 1) := by decide +kernel
theorem dLw_law_817 : decode cLw_law 817 = .ok (.iadd, 1) := by decide +kernel
theorem dLw_law_818 : decode cLw_law 818 = .ok (.iaload, 1) := by decide +kernel
theorem dLw_law_819 : decode cLw_law 819 = .ok (.aload_n 3, 1) := by decide +kernel
theorem dLw_law_820 : decode cLw_law 820 = .ok (.invokestatic 111, 3) := by decide +kernel
theorem dLw_law_823 : decode cLw_law 823 = .ok (.istore 5, 2) := by decide +kernel
theorem dLw_law_825 : decode cLw_law 825 = .ok (.aload_n 2, 1) := by decide +kernel
theorem dLw_law_826 : decode cLw_law 826 = .ok (.aload_n 0, 1) := by decide +kernel
theorem dLw_law_827 : decode cLw_law 827 = .ok (.iload 4, 2) := by decide +kernel
theorem dLw_law_829 : decode cLw_law 829 = .ok (.iconst 1, 1) := by decide +kernel
theorem dLw_law_830 : decode cLw_law 830 = .ok (.iadd, 1) := by decide +kernel
theorem dLw_law_831 : decode cLw_law 831 = .ok (.iaload, 1) := by decide +kernel
theorem dLw_law_832 : decode cLw_law 832 = .ok (.aload_n 0, 1) := by decide +kernel
theorem dLw_law_833 : decode cLw_law 833 = .ok (.iload 4, 2) := by decide +kernel
theorem dLw_law_835 : decode cLw_law 835 = .ok (.iconst 2, 1) := by decide +kernel
theorem dLw_law_836 : decode cLw_law 836 = .ok (.iadd, 1) := by decide +kernel
theorem dLw_law_837 : decode cLw_law 837 = .ok (.iaload, 1) := by decide +kernel
theorem dLw_law_838 : decode cLw_law 838 = .ok (.invokevirtual 113, 3) := by decide +kernel
theorem dLw_law_841 : decode cLw_law 841 = .ok (.istore 6, 2) := by decide +kernel
theorem dLw_law_843 : decode cLw_law 843 = .ok (.aload_n 2, 1) := by decide +kernel
theorem dLw_law_844 : decode cLw_law 844 = .ok (.invokevirtual 80, 3) := by decide +kernel
theorem dLw_law_847 : decode cLw_law 847 = .ok (.iload 5, 2) := by decide +kernel
theorem dLw_law_849 : decode cLw_law 849 = .ok (.if_icmp .eq 5, 3) := by decide +kernel
theorem dLw_law_852 : decode cLw_law 852 = .ok (.iconst 0, 1) := by decide +kernel
theorem dLw_law_853 : decode cLw_law 853 = .ok (.ireturn, 1) := by decide +kernel
theorem dLw_law_854 : decode cLw_law 854 = .ok (.iload 5, 2) := by decide +kernel
theorem dLw_law_856 : decode cLw_law 856 = .ok (.ifCond .ne 22, 3) := by decide +kernel
theorem dLw_law_859 : decode cLw_law 859 = .ok (.aload_n 3, 1) := by decide +kernel
theorem dLw_law_860 : decode cLw_law 860 = .ok (.iconst 0, 1) := by decide +kernel
theorem dLw_law_861 : decode cLw_law 861 = .ok (.laload, 1) := by decide +kernel
theorem dLw_law_862 : decode cLw_law 862 = .ok (.iload 6, 2) := by decide +kernel
theorem dLw_law_864 : decode cLw_law 864 = .ok (.ifCond .eq 7, 3) := by decide +kernel
theorem dLw_law_867 : decode cLw_law 867 = .ok (.lconst 1, 1) := by decide +kernel
theorem dLw_law_868 : decode cLw_law 868 = .ok (.goto 4, 3) := by decide +kernel
theorem dLw_law_871 : decode cLw_law 871 = .ok (.lconst 0, 1) := by decide +kernel
theorem dLw_law_872 : decode cLw_law 872 = .ok (.lcmp, 1) := by decide +kernel
theorem dLw_law_873 : decode cLw_law 873 = .ok (.ifCond .eq 5, 3) := by decide +kernel
theorem dLw_law_876 : decode cLw_law 876 = .ok (.iconst 0, 1) := by decide +kernel
theorem dLw_law_877 : decode cLw_law 877 = .ok (.ireturn, 1) := by decide +kernel
theorem dLw_law_878 : decode cLw_law 878 = .ok (.goto 71, 3) := by decide +kernel
theorem dLw_law_881 : decode cLw_law 881 = .ok (.aload_n 1, 1) := by decide +kernel
theorem dLw_law_882 : decode cLw_law 882 = .ok (.aload_n 0, 1) := by decide +kernel
theorem dLw_law_883 : decode cLw_law 883 = .ok (.iload 4, 2) := by decide +kernel
theorem dLw_law_885 : decode cLw_law 885 = .ok (.iconst 1, 1) := by decide +kernel
theorem dLw_law_886 : decode cLw_law 886 = .ok (.iadd, 1) := by decide +kernel
theorem dLw_law_887 : decode cLw_law 887 = .ok (.iaload, 1) := by decide +kernel
theorem dLw_law_888 : decode cLw_law 888 = .ok (.aload_n 0, 1) := by decide +kernel
theorem dLw_law_889 : decode cLw_law 889 = .ok (.iload 4, 2) := by decide +kernel
theorem dLw_law_891 : decode cLw_law 891 = .ok (.iconst 2, 1) := by decide +kernel
theorem dLw_law_892 : decode cLw_law 892 = .ok (.iadd, 1) := by decide +kernel
theorem dLw_law_893 : decode cLw_law 893 = .ok (.iaload, 1) := by decide +kernel
theorem dLw_law_894 : decode cLw_law 894 = .ok (.aload_n 3, 1) := by decide +kernel
theorem dLw_law_895 : decode cLw_law 895 = .ok (.invokestatic 114, 3) := by decide +kernel
theorem dLw_law_898 : decode cLw_law 898 = .ok (.istore 5, 2) := by decide +kernel
theorem dLw_law_900 : decode cLw_law 900 = .ok (.aload_n 2, 1) := by decide +kernel
theorem dLw_law_901 : decode cLw_law 901 = .ok (.aload_n 0, 1) := by decide +kernel
theorem dLw_law_902 : decode cLw_law 902 = .ok (.iload 4, 2) := by decide +kernel
theorem dLw_law_904 : decode cLw_law 904 = .ok (.iconst 1, 1) := by decide +kernel
theorem dLw_law_905 : decode cLw_law 905 = .ok (.iadd, 1) := by decide +kernel
theorem dLw_law_906 : decode cLw_law 906 = .ok (.iaload, 1) := by decide +kernel
theorem dLw_law_907 : decode cLw_law 907 = .ok (.aload_n 0, 1) := by decide +kernel
theorem dLw_law_908 : decode cLw_law 908 = .ok (.iload 4, 2) := by decide +kernel
theorem dLw_law_910 : decode cLw_law 910 = .ok (.iconst 2, 1) := by decide +kernel
theorem dLw_law_911 : decode cLw_law 911 = .ok (.iadd, 1) := by decide +kernel
theorem dLw_law_912 : decode cLw_law 912 = .ok (.iaload, 1) := by decide +kernel
theorem dLw_law_913 : decode cLw_law 913 = .ok (.invokevirtual 116, 3) := by decide +kernel
theorem dLw_law_916 : decode cLw_law 916 = .ok (.istore 6, 2) := by decide +kernel
theorem dLw_law_918 : decode cLw_law 918 = .ok (.aload_n 2, 1) := by decide +kernel
theorem dLw_law_919 : decode cLw_law 919 = .ok (.invokevirtual 80, 3) := by decide +kernel
theorem dLw_law_922 : decode cLw_law 922 = .ok (.iload 5, 2) := by decide +kernel
theorem dLw_law_924 : decode cLw_law 924 = .ok (.if_icmp .eq 5, 3) := by decide +kernel
theorem dLw_law_927 : decode cLw_law 927 = .ok (.iconst 0, 1) := by decide +kernel
theorem dLw_law_928 : decode cLw_law 928 = .ok (.ireturn, 1) := by decide +kernel
theorem dLw_law_929 : decode cLw_law 929 = .ok (.iload 5, 2) := by decide +kernel
theorem dLw_law_931 : decode cLw_law 931 = .ok (.ifCond .ne 15, 3) := by decide +kernel
theorem dLw_law_934 : decode cLw_law 934 = .ok (.aload_n 3, 1) := by decide +kernel
theorem dLw_law_935 : decode cLw_law 935 = .ok (.iconst 0, 1) := by decide +kernel
theorem dLw_law_936 : decode cLw_law 936 = .ok (.laload, 1) := by decide +kernel
theorem dLw_law_937 : decode cLw_law 937 = .ok (.iload 6, 2) := by decide +kernel
theorem dLw_law_939 : decode cLw_law 939 = .ok (.i2l, 1) := by decide +kernel
theorem dLw_law_940 : decode cLw_law 940 = .ok (.lcmp, 1) := by decide +kernel
theorem dLw_law_941 : decode cLw_law 941 = .ok (.ifCond .eq 5, 3) := by decide +kernel
theorem dLw_law_944 : decode cLw_law 944 = .ok (.iconst 0, 1) := by decide +kernel
theorem dLw_law_945 : decode cLw_law 945 = .ok (.ireturn, 1) := by decide +kernel
theorem dLw_law_946 : decode cLw_law 946 = .ok (.goto 3, 3) := by decide +kernel
theorem dLw_law_949 : decode cLw_law 949 = .ok (.iinc 4 4, 3) := by decide +kernel
theorem dLw_law_952 : decode cLw_law 952 = .ok (.goto (-919), 3) := by decide +kernel
theorem dLw_law_955 : decode cLw_law 955 = .ok (.iconst 1, 1) := by decide +kernel
theorem dLw_law_956 : decode cLw_law 956 = .ok (.ireturn, 1) := by decide +kernel
