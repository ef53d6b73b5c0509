theorem dVf_init_0 : decode cVf_init 0 = .ok (.aload_n 0, 1) := by decide +kernel
theorem dVf_init_1 : decode cVf_init 1 = .ok (.invokespecial 1, 3) := by decide +kernel
theorem dVf_init_4 : decode cVf_init 4 = .ok (.iconst 1, 1) := by decide +kernel
theorem dVf_init_5 : decode cVf_init 5 = .ok (.bipush 16, 2) := by decide +kernel
theorem dVf_init_7 : decode cVf_init 7 = .ok (.iload_n 1, 1) := by decide +kernel
theorem dVf_init_8 : decode cVf_init 8 = .ok (.invokestatic 9, 3) := by decide +kernel
theorem dVf_init_11 : decode cVf_init 11 = .ok (.invokestatic 15, 3) := by decide +kernel
theorem dVf_init_14 : decode cVf_init 14 = .ok (.istore_n 2, 1) := by decide +kernel
theorem dVf_init_15 : decode cVf_init 15 = .ok (.aload_n 0, 1) := by decide +kernel
theorem dVf_init_16 : decode cVf_init 16 = .ok (.iconst 4, 1) := by decide +kernel
theorem dVf_init_17 : decode cVf_init 17 = .ok (.anewarray 18, 3) := by decide +kernel
theorem dVf_init_20 : decode cVf_init 20 = .ok (.putfield 20, 3) := by decide +kernel
theorem dVf_init_23 : decode cVf_init 23 = .ok (.iconst 0, 1) := by decide +kernel
theorem dVf_init_24 : decode cVf_init 24 = .ok (.istore_n 3, 1) := by decide +kernel
theorem dVf_init_25 : decode cVf_init 25 = .ok (.iload_n 3, 1) := by decide +kernel
theorem dVf_init_26 : decode cVf_init 26 = .ok (.iconst 4, 1) := by decide +kernel
theorem dVf_init_27 : decode cVf_init 27 = .ok (.if_icmp .ge 23, 3) := by decide +kernel
theorem dVf_init_30 : decode cVf_init 30 = .ok (.aload_n 0, 1) := by decide +kernel
theorem dVf_init_31 : decode cVf_init 31 = .ok (.getfield 20, 3) := by decide +kernel
theorem dVf_init_34 : decode cVf_init 34 = .ok (.iload_n 3, 1) := by decide +kernel
theorem dVf_init_35 : decode cVf_init 35 = .ok (.new 18, 3) := by decide +kernel
theorem dVf_init_38 : decode cVf_init 38 = .ok (.dup, 1) := by decide +kernel
theorem dVf_init_39 : decode cVf_init 39 = .ok (.iload_n 2, 1) := by decide +kernel
theorem dVf_init_40 : decode cVf_init 40 = .ok (.invokespecial 24, 3) := by decide +kernel
theorem dVf_init_43 : decode cVf_init 43 = .ok (.aastore, 1) := by decide +kernel
theorem dVf_init_44 : decode cVf_init 44 = .ok (.iinc 3 1, 3) := by decide +kernel
theorem dVf_init_47 : decode cVf_init 47 = .ok (.goto (-22), 3) := by decide +kernel
theorem dVf_init_50 : decode cVf_init 50 = .ok (.aload_n 0, 1) := by decide +kernel
theorem dVf_init_51 : decode cVf_init 51 = .ok (.new 27, 3) := by decide +kernel
theorem dVf_init_54 : decode cVf_init 54 = .ok (.dup, 1) := by decide +kernel
theorem dVf_init_55 : decode cVf_init 55 = .ok (.invokespecial 29, 3) := by decide +kernel
theorem dVf_init_58 : decode cVf_init 58 = .ok (.putfield 30, 3) := by decide +kernel
theorem dVf_init_61 : decode cVf_init 61 = .ok (.return_, 1) := by decide +kernel
theorem dVf_draft_0 : decode cVf_draft 0 = .ok (.iload_n 1, 1) := by decide +kernel
theorem dVf_draft_1 : decode cVf_draft 1 = .ok (.invokestatic 34, 3) := by decide +kernel
theorem dVf_draft_4 : decode cVf_draft 4 = .ok (.ifCond .eq 12, 3) := by decide +kernel
theorem dVf_draft_7 : decode cVf_draft 7 = .ok (.iload_n 2, 1) := by decide +kernel
theorem dVf_draft_8 : decode cVf_draft 8 = .ok (.iconst 1, 1) := by decide +kernel
theorem dVf_draft_9 : decode cVf_draft 9 = .ok (.if_icmp .lt 7, 3) := by decide +kernel
theorem dVf_draft_12 : decode cVf_draft 12 = .ok (.iload_n 3, 1) := by decide +kernel
theorem dVf_draft_13 : decode cVf_draft 13 = .ok (.ifCond .ge 5, 3) := by decide +kernel
theorem dVf_draft_16 : decode cVf_draft 16 = .ok (.iconst 0, 1) := by decide +kernel
theorem dVf_draft_17 : decode cVf_draft 17 = .ok (.ireturn, 1) := by decide +kernel
theorem dVf_draft_18 : decode cVf_draft 18 = .ok (.aload_n 0, 1) := by decide +kernel
theorem dVf_draft_19 : decode cVf_draft 19 = .ok (.getfield 30, 3) := by decide +kernel
theorem dVf_draft_22 : decode cVf_draft 22 = .ok (.iload_n 1, 1) := by decide +kernel
theorem dVf_draft_23 : decode cVf_draft 23 = .ok (.iload_n 2, 1) := by decide +kernel
theorem dVf_draft_24 : decode cVf_draft 24 = .ok (.iload_n 3, 1) := by decide +kernel
theorem dVf_draft_25 : decode cVf_draft 25 = .ok (.invokevirtual 38, 3) := by decide +kernel
theorem dVf_draft_28 : decode cVf_draft 28 = .ok (.iconst 1, 1) := by decide +kernel
theorem dVf_draft_29 : decode cVf_draft 29 = .ok (.ireturn, 1) := by decide +kernel
theorem dVf_reads_0 : decode cVf_reads 0 = .ok (.iload_n 1, 1) := by decide +kernel
theorem dVf_reads_1 : decode cVf_reads 1 = .ok (.invokestatic 42, 3) := by decide +kernel
theorem dVf_reads_4 : decode cVf_reads 4 = .ok (.ifCond .ne 5, 3) := by decide +kernel
theorem dVf_reads_7 : decode cVf_reads 7 = .ok (.iconst 0, 1) := by decide +kernel
theorem dVf_reads_8 : decode cVf_reads 8 = .ok (.ireturn, 1) := by decide +kernel
theorem dVf_reads_9 : decode cVf_reads 9 = .ok (.aload_n 0, 1) := by decide +kernel
theorem dVf_reads_10 : decode cVf_reads 10 = .ok (.getfield 30, 3) := by decide +kernel
theorem dVf_reads_13 : decode cVf_reads 13 = .ok (.iload_n 1, 1) := by decide +kernel
theorem dVf_reads_14 : decode cVf_reads 14 = .ok (.invokevirtual 45, 3) := by decide +kernel
theorem dVf_reads_17 : decode cVf_reads 17 = .ok (.iconst 1, 1) := by decide +kernel
theorem dVf_reads_18 : decode cVf_reads 18 = .ok (.ireturn, 1) := by decide +kernel
theorem dVf_writes_0 : decode cVf_writes 0 = .ok (.iload_n 1, 1) := by decide +kernel
theorem dVf_writes_1 : decode cVf_writes 1 = .ok (.invokestatic 42, 3) := by decide +kernel
theorem dVf_writes_4 : decode cVf_writes 4 = .ok (.ifCond .ne 5, 3) := by decide +kernel
theorem dVf_writes_7 : decode cVf_writes 7 = .ok (.iconst 0, 1) := by decide +kernel
theorem dVf_writes_8 : decode cVf_writes 8 = .ok (.ireturn, 1) := by decide +kernel
theorem dVf_writes_9 : decode cVf_writes 9 = .ok (.aload_n 0, 1) := by decide +kernel
theorem dVf_writes_10 : decode cVf_writes 10 = .ok (.getfield 30, 3) := by decide +kernel
theorem dVf_writes_13 : decode cVf_writes 13 = .ok (.iload_n 1, 1) := by decide +kernel
theorem dVf_writes_14 : decode cVf_writes 14 = .ok (.iload_n 2, 1) := by decide +kernel
theorem dVf_writes_15 : decode cVf_writes 15 = .ok (.invokevirtual 48, 3) := by decide +kernel
theorem dVf_writes_18 : decode cVf_writes 18 = .ok (.iconst 1, 1) := by decide +kernel
theorem dVf_writes_19 : decode cVf_writes 19 = .ok (.ireturn, 1) := by decide +kernel
theorem dVf_apply_0 : decode cVf_apply 0 = .ok (.aload_n 0, 1) := by decide +kernel
theorem dVf_apply_1 : decode cVf_apply 1 = .ok (.iload_n 1, 1) := by decide +kernel
theorem dVf_apply_2 : decode cVf_apply 2 = .ok (.invokevirtual 52, 3) := by decide +kernel
theorem dVf_apply_5 : decode cVf_apply 5 = .ok (.aload_n 0, 1) := by decide +kernel
theorem dVf_apply_6 : decode cVf_apply 6 = .ok (.getfield 30, 3) := by decide +kernel
theorem dVf_apply_9 : decode cVf_apply 9 = .ok (.invokevirtual 56, 3) := by decide +kernel
theorem dVf_apply_12 : decode cVf_apply 12 = .ok (.ireturn, 1) := by decide +kernel
theorem dVf_test_0 : decode cVf_test 0 = .ok (.aload_n 0, 1) := by decide +kernel
theorem dVf_test_1 : decode cVf_test 1 = .ok (.iload_n 1, 1) := by decide +kernel
theorem dVf_test_2 : decode cVf_test 2 = .ok (.invokevirtual 52, 3) := by decide +kernel
theorem dVf_test_5 : decode cVf_test 5 = .ok (.aload_n 0, 1) := by decide +kernel
theorem dVf_test_6 : decode cVf_test 6 = .ok (.getfield 30, 3) := by decide +kernel
theorem dVf_test_9 : decode cVf_test 9 = .ok (.invokevirtual 60, 3) := by decide +kernel
theorem dVf_test_12 : decode cVf_test 12 = .ok (.ireturn, 1) := by decide +kernel
theorem dVf_take_0 : decode cVf_take 0 = .ok (.aload_n 0, 1) := by decide +kernel
theorem dVf_take_1 : decode cVf_take 1 = .ok (.iload_n 1, 1) := by decide +kernel
theorem dVf_take_2 : decode cVf_take 2 = .ok (.invokevirtual 52, 3) := by decide +kernel
theorem dVf_take_5 : decode cVf_take 5 = .ok (.astore_n 3, 1) := by decide +kernel
theorem dVf_take_6 : decode cVf_take 6 = .ok (.aload_n 0, 1) := by decide +kernel
theorem dVf_take_7 : decode cVf_take 7 = .ok (.iload_n 2, 1) := by decide +kernel
theorem dVf_take_8 : decode cVf_take 8 = .ok (.invokevirtual 52, 3) := by decide +kernel
theorem dVf_take_11 : decode cVf_take 11 = .ok (.astore 4, 2) := by decide +kernel
theorem dVf_take_13 : decode cVf_take 13 = .ok (.aload_n 3, 1) := by decide +kernel
theorem dVf_take_14 : decode cVf_take 14 = .ok (.getfield 63, 3) := by decide +kernel
theorem dVf_take_17 : decode cVf_take 17 = .ok (.aload 4, 2) := by decide +kernel
theorem dVf_take_19 : decode cVf_take 19 = .ok (.getfield 63, 3) := by decide +kernel
theorem dVf_take_22 : decode cVf_take 22 = .ok (.if_icmp .gt 5, 3) := by decide +kernel
theorem dVf_take_25 : decode cVf_take 25 = .ok (.iconst 0, 1) := by decide +kernel
theorem dVf_take_26 : decode cVf_take 26 = .ok (.ireturn, 1) := by decide +kernel
theorem dVf_take_27 : decode cVf_take 27 = .ok (.aload 4, 2) := by decide +kernel
theorem dVf_take_29 : decode cVf_take 29 = .ok (.aload_n 3, 1) := by decide +kernel
theorem dVf_take_30 : decode cVf_take 30 = .ok (.invokevirtual 67, 3) := by decide +kernel
theorem dVf_take_33 : decode cVf_take 33 = .ok (.iconst 1, 1) := by decide +kernel
theorem dVf_take_34 : decode cVf_take 34 = .ok (.ireturn, 1) := by decide +kernel
theorem dVf_clear_0 : decode cVf_clear 0 = .ok (.aload_n 0, 1) := by decide +kernel
theorem dVf_clear_1 : decode cVf_clear 1 = .ok (.iload_n 1, 1) := by decide +kernel
theorem dVf_clear_2 : decode cVf_clear 2 = .ok (.invokevirtual 52, 3) := by decide +kernel
theorem dVf_clear_5 : decode cVf_clear 5 = .ok (.invokevirtual 71, 3) := by decide +kernel
theorem dVf_clear_8 : decode cVf_clear 8 = .ok (.return_, 1) := by decide +kernel
theorem dVf_value_0 : decode cVf_value 0 = .ok (.aload_n 0, 1) := by decide +kernel
theorem dVf_value_1 : decode cVf_value 1 = .ok (.iload_n 1, 1) := by decide +kernel
theorem dVf_value_2 : decode cVf_value 2 = .ok (.invokevirtual 52, 3) := by decide +kernel
theorem dVf_value_5 : decode cVf_value 5 = .ok (.astore 4, 2) := by decide +kernel
theorem dVf_value_7 : decode cVf_value 7 = .ok (.iload_n 2, 1) := by decide +kernel
theorem dVf_value_8 : decode cVf_value 8 = .ok (.invokestatic 74, 3) := by decide +kernel
theorem dVf_value_11 : decode cVf_value 11 = .ok (.iload_n 3, 1) := by decide +kernel
theorem dVf_value_12 : decode cVf_value 12 = .ok (.aload 4, 2) := by decide +kernel
theorem dVf_value_14 : decode cVf_value 14 = .ok (.getfield 77, 3) := by decide +kernel
theorem dVf_value_17 : decode cVf_value 17 = .ok (.if_icmp .lt 12, 3) := by decide +kernel
theorem dVf_value_20 : decode cVf_value 20 = .ok (.iload_n 3, 1) := by decide +kernel
theorem dVf_value_21 : decode cVf_value 21 = .ok (.aload 4, 2) := by decide +kernel
theorem dVf_value_23 : decode cVf_value 23 = .ok (.getfield 63, 3) := by decide +kernel
theorem dVf_value_26 : decode cVf_value 26 = .ok (.if_icmp .le 13, 3) := by decide +kernel
theorem dVf_value_29 : decode cVf_value 29 = .ok (.new 80, 3) := by decide +kernel
theorem dVf_value_32 : decode cVf_value 32 = .ok (.dup, 1) := by decide +kernel
theorem dVf_value_33 : decode cVf_value 33 = .ok (.ldc 82, 2) := by decide +kernel
theorem dVf_value_35 : decode cVf_value 35 = .ok (.invokespecial 84, 3) := by decide +kernel
theorem dVf_value_38 : decode cVf_value 38 = .ok (.athrow, 1) := by decide +kernel
theorem dVf_value_39 : decode cVf_value 39 = .ok (.aload 4, 2) := by decide +kernel
theorem dVf_value_41 : decode cVf_value 41 = .ok (.iload_n 2, 1) := by decide +kernel
theorem dVf_value_42 : decode cVf_value 42 = .ok (.iload_n 3, 1) := by decide +kernel
theorem dVf_value_43 : decode cVf_value 43 = .ok (.invokevirtual 87, 3) := by decide +kernel
theorem dVf_value_46 : decode cVf_value 46 = .ok (.ireturn, 1) := by decide +kernel
theorem dVf_seq_0 : decode cVf_seq 0 = .ok (.aload_n 0, 1) := by decide +kernel
theorem dVf_seq_1 : decode cVf_seq 1 = .ok (.iload_n 1, 1) := by decide +kernel
theorem dVf_seq_2 : decode cVf_seq 2 = .ok (.invokevirtual 52, 3) := by decide +kernel
theorem dVf_seq_5 : decode cVf_seq 5 = .ok (.astore_n 3, 1) := by decide +kernel
theorem dVf_seq_6 : decode cVf_seq 6 = .ok (.iload_n 2, 1) := by decide +kernel
theorem dVf_seq_7 : decode cVf_seq 7 = .ok (.invokestatic 90, 3) := by decide +kernel
theorem dVf_seq_10 : decode cVf_seq 10 = .ok (.aload_n 3, 1) := by decide +kernel
theorem dVf_seq_11 : decode cVf_seq 11 = .ok (.getfield 93, 3) := by decide +kernel
theorem dVf_seq_14 : decode cVf_seq 14 = .ok (.iload_n 2, 1) := by decide +kernel
theorem dVf_seq_15 : decode cVf_seq 15 = .ok (.iaload, 1) := by decide +kernel
theorem dVf_seq_16 : decode cVf_seq 16 = .ok (.ireturn, 1) := by decide +kernel
theorem dVf_verdict_0 : decode cVf_verdict 0 = .ok (.aload_n 0, 1) := by decide +kernel
theorem dVf_verdict_1 : decode cVf_verdict 1 = .ok (.iload_n 1, 1) := by decide +kernel
theorem dVf_verdict_2 : decode cVf_verdict 2 = .ok (.invokevirtual 52, 3) := by decide +kernel
theorem dVf_verdict_5 : decode cVf_verdict 5 = .ok (.astore_n 3, 1) := by decide +kernel
theorem dVf_verdict_6 : decode cVf_verdict 6 = .ok (.iload_n 2, 1) := by decide +kernel
theorem dVf_verdict_7 : decode cVf_verdict 7 = .ok (.invokestatic 90, 3) := by decide +kernel
theorem dVf_verdict_10 : decode cVf_verdict 10 = .ok (.aload_n 3, 1) := by decide +kernel
theorem dVf_verdict_11 : decode cVf_verdict 11 = .ok (.getfield 97, 3) := by decide +kernel
theorem dVf_verdict_14 : decode cVf_verdict 14 = .ok (.iload_n 2, 1) := by decide +kernel
theorem dVf_verdict_15 : decode cVf_verdict 15 = .ok (.iaload, 1) := by decide +kernel
theorem dVf_verdict_16 : decode cVf_verdict 16 = .ok (.ireturn, 1) := by decide +kernel
theorem dVf_written_0 : decode cVf_written 0 = .ok (.aload_n 0, 1) := by decide +kernel
theorem dVf_written_1 : decode cVf_written 1 = .ok (.iload_n 1, 1) := by decide +kernel
theorem dVf_written_2 : decode cVf_written 2 = .ok (.invokevirtual 52, 3) := by decide +kernel
theorem dVf_written_5 : decode cVf_written 5 = .ok (.astore_n 3, 1) := by decide +kernel
theorem dVf_written_6 : decode cVf_written 6 = .ok (.iload_n 2, 1) := by decide +kernel
theorem dVf_written_7 : decode cVf_written 7 = .ok (.invokestatic 74, 3) := by decide +kernel
theorem dVf_written_10 : decode cVf_written 10 = .ok (.aload_n 3, 1) := by decide +kernel
theorem dVf_written_11 : decode cVf_written 11 = .ok (.iload_n 2, 1) := by decide +kernel
theorem dVf_written_12 : decode cVf_written 12 = .ok (.invokevirtual 100, 3) := by decide +kernel
theorem dVf_written_15 : decode cVf_written 15 = .ok (.ireturn, 1) := by decide +kernel
theorem dVf_since_0 : decode cVf_since 0 = .ok (.aload_n 0, 1) := by decide +kernel
theorem dVf_since_1 : decode cVf_since 1 = .ok (.iload_n 1, 1) := by decide +kernel
theorem dVf_since_2 : decode cVf_since 2 = .ok (.invokevirtual 52, 3) := by decide +kernel
theorem dVf_since_5 : decode cVf_since 5 = .ok (.astore_n 3, 1) := by decide +kernel
theorem dVf_since_6 : decode cVf_since 6 = .ok (.iload_n 2, 1) := by decide +kernel
theorem dVf_since_7 : decode cVf_since 7 = .ok (.aload_n 3, 1) := by decide +kernel
theorem dVf_since_8 : decode cVf_since 8 = .ok (.invokevirtual 104, 3) := by decide +kernel
theorem dVf_since_11 : decode cVf_since 11 = .ok (.if_icmp .lt 11, 3) := by decide +kernel
theorem dVf_since_14 : decode cVf_since 14 = .ok (.iload_n 2, 1) := by decide +kernel
theorem dVf_since_15 : decode cVf_since 15 = .ok (.aload_n 3, 1) := by decide +kernel
theorem dVf_since_16 : decode cVf_since 16 = .ok (.getfield 63, 3) := by decide +kernel
theorem dVf_since_19 : decode cVf_since 19 = .ok (.if_icmp .le 13, 3) := by decide +kernel
theorem dVf_since_22 : decode cVf_since 22 = .ok (.new 80, 3) := by decide +kernel
theorem dVf_since_25 : decode cVf_since 25 = .ok (.dup, 1) := by decide +kernel
theorem dVf_since_26 : decode cVf_since 26 = .ok (.ldc 108, 2) := by decide +kernel
theorem dVf_since_28 : decode cVf_since 28 = .ok (.invokespecial 84, 3) := by decide +kernel
theorem dVf_since_31 : decode cVf_since 31 = .ok (.athrow, 1) := by decide +kernel
theorem dVf_since_32 : decode cVf_since 32 = .ok (.aload_n 3, 1) := by decide +kernel
theorem dVf_since_33 : decode cVf_since 33 = .ok (.iload_n 2, 1) := by decide +kernel
theorem dVf_since_34 : decode cVf_since 34 = .ok (.invokevirtual 110, 3) := by decide +kernel
theorem dVf_since_37 : decode cVf_since 37 = .ok (.ireturn, 1) := by decide +kernel
theorem dVf_same_0 : decode cVf_same 0 = .ok (.aload_n 0, 1) := by decide +kernel
theorem dVf_same_1 : decode cVf_same 1 = .ok (.iload_n 1, 1) := by decide +kernel
theorem dVf_same_2 : decode cVf_same 2 = .ok (.invokevirtual 52, 3) := by decide +kernel
theorem dVf_same_5 : decode cVf_same 5 = .ok (.astore_n 3, 1) := by decide +kernel
theorem dVf_same_6 : decode cVf_same 6 = .ok (.aload_n 0, 1) := by decide +kernel
theorem dVf_same_7 : decode cVf_same 7 = .ok (.iload_n 2, 1) := by decide +kernel
theorem dVf_same_8 : decode cVf_same 8 = .ok (.invokevirtual 52, 3) := by decide +kernel
theorem dVf_same_11 : decode cVf_same 11 = .ok (.astore 4, 2) := by decide +kernel
theorem dVf_same_13 : decode cVf_same 13 = .ok (.aload_n 3, 1) := by decide +kernel
theorem dVf_same_14 : decode cVf_same 14 = .ok (.aload 4, 2) := by decide +kernel
theorem dVf_same_16 : decode cVf_same 16 = .ok (.invokevirtual 113, 3) := by decide +kernel
theorem dVf_same_19 : decode cVf_same 19 = .ok (.ireturn, 1) := by decide +kernel
theorem dVf_look_0 : decode cVf_look 0 = .ok (.aload_n 0, 1) := by decide +kernel
theorem dVf_look_1 : decode cVf_look 1 = .ok (.iload_n 1, 1) := by decide +kernel
theorem dVf_look_2 : decode cVf_look 2 = .ok (.invokevirtual 52, 3) := by decide +kernel
theorem dVf_look_5 : decode cVf_look 5 = .ok (.astore_n 3, 1) := by decide +kernel
theorem dVf_look_6 : decode cVf_look 6 = .ok (.iload_n 2, 1) := by decide +kernel
theorem dVf_look_7 : decode cVf_look 7 = .ok (.tableswitch 91 0 7 #[45, 50, 55, 60, 65, 70, 75, 83], 45) := by decide +kernel
theorem dVf_look_52 : decode cVf_look 52 = .ok (.aload_n 3, 1) := by decide +kernel
theorem dVf_look_53 : decode cVf_look 53 = .ok (.getfield 63, 3) := by decide +kernel
theorem dVf_look_56 : decode cVf_look 56 = .ok (.ireturn, 1) := by decide +kernel
theorem dVf_look_57 : decode cVf_look 57 = .ok (.aload_n 3, 1) := by decide +kernel
theorem dVf_look_58 : decode cVf_look 58 = .ok (.getfield 77, 3) := by decide +kernel
theorem dVf_look_61 : decode cVf_look 61 = .ok (.ireturn, 1) := by decide +kernel
theorem dVf_look_62 : decode cVf_look 62 = .ok (.aload_n 3, 1) := by decide +kernel
theorem dVf_look_63 : decode cVf_look 63 = .ok (.getfield 117, 3) := by decide +kernel
theorem dVf_look_66 : decode cVf_look 66 = .ok (.ireturn, 1) := by decide +kernel
theorem dVf_look_67 : decode cVf_look 67 = .ok (.aload_n 3, 1) := by decide +kernel
theorem dVf_look_68 : decode cVf_look 68 = .ok (.getfield 120, 3) := by decide +kernel
theorem dVf_look_71 : decode cVf_look 71 = .ok (.ireturn, 1) := by decide +kernel
theorem dVf_look_72 : decode cVf_look 72 = .ok (.aload_n 3, 1) := by decide +kernel
theorem dVf_look_73 : decode cVf_look 73 = .ok (.getfield 123, 3) := by decide +kernel
theorem dVf_look_76 : decode cVf_look 76 = .ok (.ireturn, 1) := by decide +kernel
theorem dVf_look_77 : decode cVf_look 77 = .ok (.aload_n 3, 1) := by decide +kernel
theorem dVf_look_78 : decode cVf_look 78 = .ok (.invokevirtual 126, 3) := by decide +kernel
theorem dVf_look_81 : decode cVf_look 81 = .ok (.ireturn, 1) := by decide +kernel
theorem dVf_look_82 : decode cVf_look 82 = .ok (.aload_n 0, 1) := by decide +kernel
theorem dVf_look_83 : decode cVf_look 83 = .ok (.getfield 30, 3) := by decide +kernel
theorem dVf_look_86 : decode cVf_look 86 = .ok (.getfield 129, 3) := by decide +kernel
theorem dVf_look_89 : decode cVf_look 89 = .ok (.ireturn, 1) := by decide +kernel
theorem dVf_look_90 : decode cVf_look 90 = .ok (.aload_n 0, 1) := by decide +kernel
theorem dVf_look_91 : decode cVf_look 91 = .ok (.getfield 30, 3) := by decide +kernel
theorem dVf_look_94 : decode cVf_look 94 = .ok (.getfield 132, 3) := by decide +kernel
theorem dVf_look_97 : decode cVf_look 97 = .ok (.ireturn, 1) := by decide +kernel
theorem dVf_look_98 : decode cVf_look 98 = .ok (.iconst (-1), 1) := by decide +kernel
theorem dVf_look_99 : decode cVf_look 99 = .ok (.ireturn, 1) := by decide +kernel
theorem dVf_foldAt_0 : decode cVf_foldAt 0 = .ok (.iload_n 1, 1) := by decide +kernel
theorem dVf_foldAt_1 : decode cVf_foldAt 1 = .ok (.ifCond .lt 8, 3) := by decide +kernel
theorem dVf_foldAt_4 : decode cVf_foldAt 4 = .ok (.iload_n 1, 1) := by decide +kernel
theorem dVf_foldAt_5 : decode cVf_foldAt 5 = .ok (.iconst 4, 1) := by decide +kernel
theorem dVf_foldAt_6 : decode cVf_foldAt 6 = .ok (.if_icmp .lt 13, 3) := by decide +kernel
theorem dVf_foldAt_9 : decode cVf_foldAt 9 = .ok (.new 135, 3) := by decide +kernel
theorem dVf_foldAt_12 : decode cVf_foldAt 12 = .ok (.dup, 1) := by decide +kernel
theorem dVf_foldAt_13 : decode cVf_foldAt 13 = .ok (.ldc 137, 2) := by decide +kernel
theorem dVf_foldAt_15 : decode cVf_foldAt 15 = .ok (.invokespecial 139, 3) := by decide +kernel
theorem dVf_foldAt_18 : decode cVf_foldAt 18 = .ok (.athrow, 1) := by decide +kernel
theorem dVf_foldAt_19 : decode cVf_foldAt 19 = .ok (.aload_n 0, 1) := by decide +kernel
theorem dVf_foldAt_20 : decode cVf_foldAt 20 = .ok (.getfield 20, 3) := by decide +kernel
theorem dVf_foldAt_23 : decode cVf_foldAt 23 = .ok (.iload_n 1, 1) := by decide +kernel
theorem dVf_foldAt_24 : decode cVf_foldAt 24 = .ok (.aaload, 1) := by decide +kernel
theorem dVf_foldAt_25 : decode cVf_foldAt 25 = .ok (.areturn, 1) := by decide +kernel
theorem dVf_isKey_0 : decode cVf_isKey 0 = .ok (.iload_n 0, 1) := by decide +kernel
theorem dVf_isKey_1 : decode cVf_isKey 1 = .ok (.ifCond .lt 13, 3) := by decide +kernel
theorem dVf_isKey_4 : decode cVf_isKey 4 = .ok (.iload_n 0, 1) := by decide +kernel
theorem dVf_isKey_5 : decode cVf_isKey 5 = .ok (.bipush 16, 2) := by decide +kernel
theorem dVf_isKey_7 : decode cVf_isKey 7 = .ok (.if_icmp .ge 7, 3) := by decide +kernel
theorem dVf_isKey_10 : decode cVf_isKey 10 = .ok (.iconst 1, 1) := by decide +kernel
theorem dVf_isKey_11 : decode cVf_isKey 11 = .ok (.goto 4, 3) := by decide +kernel
theorem dVf_isKey_14 : decode cVf_isKey 14 = .ok (.iconst 0, 1) := by decide +kernel
theorem dVf_isKey_15 : decode cVf_isKey 15 = .ok (.ireturn, 1) := by decide +kernel
theorem dVf_isSession_0 : decode cVf_isSession 0 = .ok (.iload_n 0, 1) := by decide +kernel
theorem dVf_isSession_1 : decode cVf_isSession 1 = .ok (.ifCond .lt 13, 3) := by decide +kernel
theorem dVf_isSession_4 : decode cVf_isSession 4 = .ok (.iload_n 0, 1) := by decide +kernel
theorem dVf_isSession_5 : decode cVf_isSession 5 = .ok (.bipush 16, 2) := by decide +kernel
theorem dVf_isSession_7 : decode cVf_isSession 7 = .ok (.if_icmp .ge 7, 3) := by decide +kernel
theorem dVf_isSession_10 : decode cVf_isSession 10 = .ok (.iconst 1, 1) := by decide +kernel
theorem dVf_isSession_11 : decode cVf_isSession 11 = .ok (.goto 4, 3) := by decide +kernel
theorem dVf_isSession_14 : decode cVf_isSession 14 = .ok (.iconst 0, 1) := by decide +kernel
theorem dVf_isSession_15 : decode cVf_isSession 15 = .ok (.ireturn, 1) := by decide +kernel
theorem dVf_requireKey_0 : decode cVf_requireKey 0 = .ok (.iload_n 0, 1) := by decide +kernel
theorem dVf_requireKey_1 : decode cVf_requireKey 1 = .ok (.invokestatic 42, 3) := by decide +kernel
theorem dVf_requireKey_4 : decode cVf_requireKey 4 = .ok (.ifCond .ne 13, 3) := by decide +kernel
theorem dVf_requireKey_7 : decode cVf_requireKey 7 = .ok (.new 80, 3) := by decide +kernel
theorem dVf_requireKey_10 : decode cVf_requireKey 10 = .ok (.dup, 1) := by decide +kernel
theorem dVf_requireKey_11 : decode cVf_requireKey 11 = .ok (.ldc 140, 2) := by decide +kernel
theorem dVf_requireKey_13 : decode cVf_requireKey 13 = .ok (.invokespecial 84, 3) := by decide +kernel
theorem dVf_requireKey_16 : decode cVf_requireKey 16 = .ok (.athrow, 1) := by decide +kernel
theorem dVf_requireKey_17 : decode cVf_requireKey 17 = .ok (.return_, 1) := by decide +kernel
theorem dVf_requireSession_0 : decode cVf_requireSession 0 = .ok (.iload_n 0, 1) := by decide +kernel
theorem dVf_requireSession_1 : decode cVf_requireSession 1 = .ok (.invokestatic 34, 3) := by decide +kernel
theorem dVf_requireSession_4 : decode cVf_requireSession 4 = .ok (.ifCond .ne 13, 3) := by decide +kernel
theorem dVf_requireSession_7 : decode cVf_requireSession 7 = .ok (.new 80, 3) := by decide +kernel
theorem dVf_requireSession_10 : decode cVf_requireSession 10 = .ok (.dup, 1) := by decide +kernel
theorem dVf_requireSession_11 : decode cVf_requireSession 11 = .ok (.ldc 142, 2) := by decide +kernel
theorem dVf_requireSession_13 : decode cVf_requireSession 13 = .ok (.invokespecial 84, 3) := by decide +kernel
theorem dVf_requireSession_16 : decode cVf_requireSession 16 = .ok (.athrow, 1) := by decide +kernel
theorem dVf_requireSession_17 : decode cVf_requireSession 17 = .ok (.return_, 1) := by decide +kernel
