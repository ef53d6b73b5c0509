theorem dFo_init_0 : decode cFo_init 0 = .ok (.aload_n 0, 1) := by decide +kernel
theorem dFo_init_1 : decode cFo_init 1 = .ok (.invokespecial 3, 3) := by decide +kernel
theorem dFo_init_4 : decode cFo_init 4 = .ok (.aload_n 0, 1) := by decide +kernel
theorem dFo_init_5 : decode cFo_init 5 = .ok (.iconst 0, 1) := by decide +kernel
theorem dFo_init_6 : decode cFo_init 6 = .ok (.putfield 9, 3) := by decide +kernel
theorem dFo_init_9 : decode cFo_init 9 = .ok (.aload_n 0, 1) := by decide +kernel
theorem dFo_init_10 : decode cFo_init 10 = .ok (.iconst 0, 1) := by decide +kernel
theorem dFo_init_11 : decode cFo_init 11 = .ok (.putfield 15, 3) := by decide +kernel
theorem dFo_init_14 : decode cFo_init 14 = .ok (.aload_n 0, 1) := by decide +kernel
theorem dFo_init_15 : decode cFo_init 15 = .ok (.iconst 0, 1) := by decide +kernel
theorem dFo_init_16 : decode cFo_init 16 = .ok (.putfield 18, 3) := by decide +kernel
theorem dFo_init_19 : decode cFo_init 19 = .ok (.aload_n 0, 1) := by decide +kernel
theorem dFo_init_20 : decode cFo_init 20 = .ok (.iconst 0, 1) := by decide +kernel
theorem dFo_init_21 : decode cFo_init 21 = .ok (.putfield 21, 3) := by decide +kernel
theorem dFo_init_24 : decode cFo_init 24 = .ok (.aload_n 0, 1) := by decide +kernel
theorem dFo_init_25 : decode cFo_init 25 = .ok (.iconst 0, 1) := by decide +kernel
theorem dFo_init_26 : decode cFo_init 26 = .ok (.putfield 24, 3) := by decide +kernel
theorem dFo_init_29 : decode cFo_init 29 = .ok (.aload_n 0, 1) := by decide +kernel
theorem dFo_init_30 : decode cFo_init 30 = .ok (.sipush 272, 3) := by decide +kernel
theorem dFo_init_33 : decode cFo_init 33 = .ok (.newarray .int, 2) := by decide +kernel
theorem dFo_init_35 : decode cFo_init 35 = .ok (.putfield 27, 3) := by decide +kernel
theorem dFo_init_38 : decode cFo_init 38 = .ok (.aload_n 0, 1) := by decide +kernel
theorem dFo_init_39 : decode cFo_init 39 = .ok (.bipush 16, 2) := by decide +kernel
theorem dFo_init_41 : decode cFo_init 41 = .ok (.newarray .int, 2) := by decide +kernel
theorem dFo_init_43 : decode cFo_init 43 = .ok (.putfield 31, 3) := by decide +kernel
theorem dFo_init_46 : decode cFo_init 46 = .ok (.aload_n 0, 1) := by decide +kernel
theorem dFo_init_47 : decode cFo_init 47 = .ok (.bipush 16, 2) := by decide +kernel
theorem dFo_init_49 : decode cFo_init 49 = .ok (.newarray .int, 2) := by decide +kernel
theorem dFo_init_51 : decode cFo_init 51 = .ok (.putfield 34, 3) := by decide +kernel
theorem dFo_init_54 : decode cFo_init 54 = .ok (.aload_n 0, 1) := by decide +kernel
theorem dFo_init_55 : decode cFo_init 55 = .ok (.bipush 16, 2) := by decide +kernel
theorem dFo_init_57 : decode cFo_init 57 = .ok (.newarray .int, 2) := by decide +kernel
theorem dFo_init_59 : decode cFo_init 59 = .ok (.putfield 37, 3) := by decide +kernel
theorem dFo_init_62 : decode cFo_init 62 = .ok (.aload_n 0, 1) := by decide +kernel
theorem dFo_init_63 : decode cFo_init 63 = .ok (.iload_n 1, 1) := by decide +kernel
theorem dFo_init_64 : decode cFo_init 64 = .ok (.putfield 40, 3) := by decide +kernel
theorem dFo_init_67 : decode cFo_init 67 = .ok (.return_, 1) := by decide +kernel
theorem dFo_decide_0 : decode cFo_decide 0 = .ok (.aload_n 0, 1) := by decide +kernel
theorem dFo_decide_1 : decode cFo_decide 1 = .ok (.getfield 9, 3) := by decide +kernel
theorem dFo_decide_4 : decode cFo_decide 4 = .ok (.ldc 43, 2) := by decide +kernel
theorem dFo_decide_6 : decode cFo_decide 6 = .ok (.if_icmp .ge 14, 3) := by decide +kernel
theorem dFo_decide_9 : decode cFo_decide 9 = .ok (.aload_n 1, 1) := by decide +kernel
theorem dFo_decide_10 : decode cFo_decide 10 = .ok (.getfield 44, 3) := by decide +kernel
theorem dFo_decide_13 : decode cFo_decide 13 = .ok (.aload_n 0, 1) := by decide +kernel
theorem dFo_decide_14 : decode cFo_decide 14 = .ok (.getfield 9, 3) := by decide +kernel
theorem dFo_decide_17 : decode cFo_decide 17 = .ok (.if_icmp .le 5, 3) := by decide +kernel
theorem dFo_decide_20 : decode cFo_decide 20 = .ok (.iconst (-1), 1) := by decide +kernel
theorem dFo_decide_21 : decode cFo_decide 21 = .ok (.ireturn, 1) := by decide +kernel
theorem dFo_decide_22 : decode cFo_decide 22 = .ok (.aload_n 1, 1) := by decide +kernel
theorem dFo_decide_23 : decode cFo_decide 23 = .ok (.getfield 49, 3) := by decide +kernel
theorem dFo_decide_26 : decode cFo_decide 26 = .ok (.aload_n 0, 1) := by decide +kernel
theorem dFo_decide_27 : decode cFo_decide 27 = .ok (.getfield 34, 3) := by decide +kernel
theorem dFo_decide_30 : decode cFo_decide 30 = .ok (.aload_n 1, 1) := by decide +kernel
theorem dFo_decide_31 : decode cFo_decide 31 = .ok (.getfield 52, 3) := by decide +kernel
theorem dFo_decide_34 : decode cFo_decide 34 = .ok (.iaload, 1) := by decide +kernel
theorem dFo_decide_35 : decode cFo_decide 35 = .ok (.if_icmp .gt 5, 3) := by decide +kernel
theorem dFo_decide_38 : decode cFo_decide 38 = .ok (.iconst 0, 1) := by decide +kernel
theorem dFo_decide_39 : decode cFo_decide 39 = .ok (.ireturn, 1) := by decide +kernel
theorem dFo_decide_40 : decode cFo_decide 40 = .ok (.aload_n 1, 1) := by decide +kernel
theorem dFo_decide_41 : decode cFo_decide 41 = .ok (.getfield 44, 3) := by decide +kernel
theorem dFo_decide_44 : decode cFo_decide 44 = .ok (.aload_n 0, 1) := by decide +kernel
theorem dFo_decide_45 : decode cFo_decide 45 = .ok (.invokevirtual 55, 3) := by decide +kernel
theorem dFo_decide_48 : decode cFo_decide 48 = .ok (.if_icmp .ge 5, 3) := by decide +kernel
theorem dFo_decide_51 : decode cFo_decide 51 = .ok (.iconst 2, 1) := by decide +kernel
theorem dFo_decide_52 : decode cFo_decide 52 = .ok (.ireturn, 1) := by decide +kernel
theorem dFo_decide_53 : decode cFo_decide 53 = .ok (.aload_n 1, 1) := by decide +kernel
theorem dFo_decide_54 : decode cFo_decide 54 = .ok (.getfield 59, 3) := by decide +kernel
theorem dFo_decide_57 : decode cFo_decide 57 = .ok (.aload_n 0, 1) := by decide +kernel
theorem dFo_decide_58 : decode cFo_decide 58 = .ok (.aload_n 1, 1) := by decide +kernel
theorem dFo_decide_59 : decode cFo_decide 59 = .ok (.getfield 44, 3) := by decide +kernel
theorem dFo_decide_62 : decode cFo_decide 62 = .ok (.invokevirtual 62, 3) := by decide +kernel
theorem dFo_decide_65 : decode cFo_decide 65 = .ok (.iand, 1) := by decide +kernel
theorem dFo_decide_66 : decode cFo_decide 66 = .ok (.ifCond .eq 7, 3) := by decide +kernel
theorem dFo_decide_69 : decode cFo_decide 69 = .ok (.iconst 1, 1) := by decide +kernel
theorem dFo_decide_70 : decode cFo_decide 70 = .ok (.goto 4, 3) := by decide +kernel
theorem dFo_decide_73 : decode cFo_decide 73 = .ok (.iconst 0, 1) := by decide +kernel
theorem dFo_decide_74 : decode cFo_decide 74 = .ok (.istore_n 2, 1) := by decide +kernel
theorem dFo_decide_75 : decode cFo_decide 75 = .ok (.iload_n 2, 1) := by decide +kernel
theorem dFo_decide_76 : decode cFo_decide 76 = .ok (.ifCond .eq 7, 3) := by decide +kernel
theorem dFo_decide_79 : decode cFo_decide 79 = .ok (.iconst 2, 1) := by decide +kernel
theorem dFo_decide_80 : decode cFo_decide 80 = .ok (.goto 4, 3) := by decide +kernel
theorem dFo_decide_83 : decode cFo_decide 83 = .ok (.iconst 1, 1) := by decide +kernel
theorem dFo_decide_84 : decode cFo_decide 84 = .ok (.ireturn, 1) := by decide +kernel
theorem dFo_letIn_0 : decode cFo_letIn 0 = .ok (.aload_n 0, 1) := by decide +kernel
theorem dFo_letIn_1 : decode cFo_letIn 1 = .ok (.aload_n 1, 1) := by decide +kernel
theorem dFo_letIn_2 : decode cFo_letIn 2 = .ok (.invokevirtual 66, 3) := by decide +kernel
theorem dFo_letIn_5 : decode cFo_letIn 5 = .ok (.istore_n 2, 1) := by decide +kernel
theorem dFo_letIn_6 : decode cFo_letIn 6 = .ok (.iload_n 2, 1) := by decide +kernel
theorem dFo_letIn_7 : decode cFo_letIn 7 = .ok (.iconst (-1), 1) := by decide +kernel
theorem dFo_letIn_8 : decode cFo_letIn 8 = .ok (.if_icmp .ne 5, 3) := by decide +kernel
theorem dFo_letIn_11 : decode cFo_letIn 11 = .ok (.iconst (-1), 1) := by decide +kernel
theorem dFo_letIn_12 : decode cFo_letIn 12 = .ok (.ireturn, 1) := by decide +kernel
theorem dFo_letIn_13 : decode cFo_letIn 13 = .ok (.aload_n 0, 1) := by decide +kernel
theorem dFo_letIn_14 : decode cFo_letIn 14 = .ok (.invokevirtual 70, 3) := by decide +kernel
theorem dFo_letIn_17 : decode cFo_letIn 17 = .ok (.iload_n 2, 1) := by decide +kernel
theorem dFo_letIn_18 : decode cFo_letIn 18 = .ok (.ifCond .ne 15, 3) := by decide +kernel
theorem dFo_letIn_21 : decode cFo_letIn 21 = .ok (.aload_n 0, 1) := by decide +kernel
theorem dFo_letIn_22 : decode cFo_letIn 22 = .ok (.dup, 1) := by decide +kernel
theorem dFo_letIn_23 : decode cFo_letIn 23 = .ok (.getfield 24, 3) := by decide +kernel
theorem dFo_letIn_26 : decode cFo_letIn 26 = .ok (.iconst 1, 1) := by decide +kernel
theorem dFo_letIn_27 : decode cFo_letIn 27 = .ok (.iadd, 1) := by decide +kernel
theorem dFo_letIn_28 : decode cFo_letIn 28 = .ok (.putfield 24, 3) := by decide +kernel
theorem dFo_letIn_31 : decode cFo_letIn 31 = .ok (.iconst 0, 1) := by decide +kernel
theorem dFo_letIn_32 : decode cFo_letIn 32 = .ok (.ireturn, 1) := by decide +kernel
theorem dFo_letIn_33 : decode cFo_letIn 33 = .ok (.iload_n 2, 1) := by decide +kernel
theorem dFo_letIn_34 : decode cFo_letIn 34 = .ok (.iconst 1, 1) := by decide +kernel
theorem dFo_letIn_35 : decode cFo_letIn 35 = .ok (.if_icmp .ne 21, 3) := by decide +kernel
theorem dFo_letIn_38 : decode cFo_letIn 38 = .ok (.aload_n 0, 1) := by decide +kernel
theorem dFo_letIn_39 : decode cFo_letIn 39 = .ok (.dup, 1) := by decide +kernel
theorem dFo_letIn_40 : decode cFo_letIn 40 = .ok (.getfield 18, 3) := by decide +kernel
theorem dFo_letIn_43 : decode cFo_letIn 43 = .ok (.iconst 1, 1) := by decide +kernel
theorem dFo_letIn_44 : decode cFo_letIn 44 = .ok (.iadd, 1) := by decide +kernel
theorem dFo_letIn_45 : decode cFo_letIn 45 = .ok (.putfield 18, 3) := by decide +kernel
theorem dFo_letIn_48 : decode cFo_letIn 48 = .ok (.aload_n 0, 1) := by decide +kernel
theorem dFo_letIn_49 : decode cFo_letIn 49 = .ok (.aload_n 1, 1) := by decide +kernel
theorem dFo_letIn_50 : decode cFo_letIn 50 = .ok (.invokevirtual 73, 3) := by decide +kernel
theorem dFo_letIn_53 : decode cFo_letIn 53 = .ok (.goto 13, 3) := by decide +kernel
theorem dFo_letIn_56 : decode cFo_letIn 56 = .ok (.aload_n 0, 1) := by decide +kernel
theorem dFo_letIn_57 : decode cFo_letIn 57 = .ok (.dup, 1) := by decide +kernel
theorem dFo_letIn_58 : decode cFo_letIn 58 = .ok (.getfield 21, 3) := by decide +kernel
theorem dFo_letIn_61 : decode cFo_letIn 61 = .ok (.iconst 1, 1) := by decide +kernel
theorem dFo_letIn_62 : decode cFo_letIn 62 = .ok (.iadd, 1) := by decide +kernel
theorem dFo_letIn_63 : decode cFo_letIn 63 = .ok (.putfield 21, 3) := by decide +kernel
theorem dFo_letIn_66 : decode cFo_letIn 66 = .ok (.aload_n 0, 1) := by decide +kernel
theorem dFo_letIn_67 : decode cFo_letIn 67 = .ok (.getfield 34, 3) := by decide +kernel
theorem dFo_letIn_70 : decode cFo_letIn 70 = .ok (.aload_n 1, 1) := by decide +kernel
theorem dFo_letIn_71 : decode cFo_letIn 71 = .ok (.getfield 52, 3) := by decide +kernel
theorem dFo_letIn_74 : decode cFo_letIn 74 = .ok (.aload_n 1, 1) := by decide +kernel
theorem dFo_letIn_75 : decode cFo_letIn 75 = .ok (.getfield 49, 3) := by decide +kernel
theorem dFo_letIn_78 : decode cFo_letIn 78 = .ok (.iastore, 1) := by decide +kernel
theorem dFo_letIn_79 : decode cFo_letIn 79 = .ok (.aload_n 0, 1) := by decide +kernel
theorem dFo_letIn_80 : decode cFo_letIn 80 = .ok (.getfield 37, 3) := by decide +kernel
theorem dFo_letIn_83 : decode cFo_letIn 83 = .ok (.aload_n 1, 1) := by decide +kernel
theorem dFo_letIn_84 : decode cFo_letIn 84 = .ok (.getfield 52, 3) := by decide +kernel
theorem dFo_letIn_87 : decode cFo_letIn 87 = .ok (.iload_n 2, 1) := by decide +kernel
theorem dFo_letIn_88 : decode cFo_letIn 88 = .ok (.iastore, 1) := by decide +kernel
theorem dFo_letIn_89 : decode cFo_letIn 89 = .ok (.iload_n 2, 1) := by decide +kernel
theorem dFo_letIn_90 : decode cFo_letIn 90 = .ok (.ireturn, 1) := by decide +kernel
theorem dFo_openNextRow_0 : decode cFo_openNextRow 0 = .ok (.aload_n 0, 1) := by decide +kernel
theorem dFo_openNextRow_1 : decode cFo_openNextRow 1 = .ok (.getfield 9, 3) := by decide +kernel
theorem dFo_openNextRow_4 : decode cFo_openNextRow 4 = .ok (.invokestatic 77, 3) := by decide +kernel
theorem dFo_openNextRow_7 : decode cFo_openNextRow 7 = .ok (.istore_n 1, 1) := by decide +kernel
theorem dFo_openNextRow_8 : decode cFo_openNextRow 8 = .ok (.aload_n 0, 1) := by decide +kernel
theorem dFo_openNextRow_9 : decode cFo_openNextRow 9 = .ok (.dup, 1) := by decide +kernel
theorem dFo_openNextRow_10 : decode cFo_openNextRow 10 = .ok (.getfield 9, 3) := by decide +kernel
theorem dFo_openNextRow_13 : decode cFo_openNextRow 13 = .ok (.iconst 1, 1) := by decide +kernel
theorem dFo_openNextRow_14 : decode cFo_openNextRow 14 = .ok (.iadd, 1) := by decide +kernel
theorem dFo_openNextRow_15 : decode cFo_openNextRow 15 = .ok (.putfield 9, 3) := by decide +kernel
theorem dFo_openNextRow_18 : decode cFo_openNextRow 18 = .ok (.aload_n 0, 1) := by decide +kernel
theorem dFo_openNextRow_19 : decode cFo_openNextRow 19 = .ok (.getfield 27, 3) := by decide +kernel
theorem dFo_openNextRow_22 : decode cFo_openNextRow 22 = .ok (.iload_n 1, 1) := by decide +kernel
theorem dFo_openNextRow_23 : decode cFo_openNextRow 23 = .ok (.aload_n 0, 1) := by decide +kernel
theorem dFo_openNextRow_24 : decode cFo_openNextRow 24 = .ok (.getfield 27, 3) := by decide +kernel
theorem dFo_openNextRow_27 : decode cFo_openNextRow 27 = .ok (.aload_n 0, 1) := by decide +kernel
theorem dFo_openNextRow_28 : decode cFo_openNextRow 28 = .ok (.getfield 9, 3) := by decide +kernel
theorem dFo_openNextRow_31 : decode cFo_openNextRow 31 = .ok (.invokestatic 77, 3) := by decide +kernel
theorem dFo_openNextRow_34 : decode cFo_openNextRow 34 = .ok (.bipush 16, 2) := by decide +kernel
theorem dFo_openNextRow_36 : decode cFo_openNextRow 36 = .ok (.invokestatic 80, 3) := by decide +kernel
theorem dFo_openNextRow_39 : decode cFo_openNextRow 39 = .ok (.aload_n 0, 1) := by decide +kernel
theorem dFo_openNextRow_40 : decode cFo_openNextRow 40 = .ok (.aload_n 0, 1) := by decide +kernel
theorem dFo_openNextRow_41 : decode cFo_openNextRow 41 = .ok (.getfield 15, 3) := by decide +kernel
theorem dFo_openNextRow_44 : decode cFo_openNextRow 44 = .ok (.aload_n 0, 1) := by decide +kernel
theorem dFo_openNextRow_45 : decode cFo_openNextRow 45 = .ok (.getfield 9, 3) := by decide +kernel
theorem dFo_openNextRow_48 : decode cFo_openNextRow 48 = .ok (.aload_n 0, 1) := by decide +kernel
theorem dFo_openNextRow_49 : decode cFo_openNextRow 49 = .ok (.getfield 40, 3) := by decide +kernel
theorem dFo_openNextRow_52 : decode cFo_openNextRow 52 = .ok (.isub, 1) := by decide +kernel
theorem dFo_openNextRow_53 : decode cFo_openNextRow 53 = .ok (.invokestatic 86, 3) := by decide +kernel
theorem dFo_openNextRow_56 : decode cFo_openNextRow 56 = .ok (.putfield 15, 3) := by decide +kernel
theorem dFo_openNextRow_59 : decode cFo_openNextRow 59 = .ok (.return_, 1) := by decide +kernel
theorem dFo_store_0 : decode cFo_store 0 = .ok (.aload_n 0, 1) := by decide +kernel
theorem dFo_store_1 : decode cFo_store 1 = .ok (.getfield 9, 3) := by decide +kernel
theorem dFo_store_4 : decode cFo_store 4 = .ok (.invokestatic 77, 3) := by decide +kernel
theorem dFo_store_7 : decode cFo_store 7 = .ok (.istore_n 2, 1) := by decide +kernel
theorem dFo_store_8 : decode cFo_store 8 = .ok (.iconst 0, 1) := by decide +kernel
theorem dFo_store_9 : decode cFo_store 9 = .ok (.istore_n 3, 1) := by decide +kernel
theorem dFo_store_10 : decode cFo_store 10 = .ok (.iload_n 3, 1) := by decide +kernel
theorem dFo_store_11 : decode cFo_store 11 = .ok (.bipush 16, 2) := by decide +kernel
theorem dFo_store_13 : decode cFo_store 13 = .ok (.if_icmp .ge 41, 3) := by decide +kernel
theorem dFo_store_16 : decode cFo_store 16 = .ok (.aload_n 1, 1) := by decide +kernel
theorem dFo_store_17 : decode cFo_store 17 = .ok (.iload_n 3, 1) := by decide +kernel
theorem dFo_store_18 : decode cFo_store 18 = .ok (.invokevirtual 92, 3) := by decide +kernel
theorem dFo_store_21 : decode cFo_store 21 = .ok (.ifCond .eq 27, 3) := by decide +kernel
theorem dFo_store_24 : decode cFo_store 24 = .ok (.aload_n 0, 1) := by decide +kernel
theorem dFo_store_25 : decode cFo_store 25 = .ok (.getfield 27, 3) := by decide +kernel
theorem dFo_store_28 : decode cFo_store 28 = .ok (.iload_n 2, 1) := by decide +kernel
theorem dFo_store_29 : decode cFo_store 29 = .ok (.iload_n 3, 1) := by decide +kernel
theorem dFo_store_30 : decode cFo_store 30 = .ok (.iadd, 1) := by decide +kernel
theorem dFo_store_31 : decode cFo_store 31 = .ok (.aload_n 1, 1) := by decide +kernel
theorem dFo_store_32 : decode cFo_store 32 = .ok (.getfield 96, 3) := by decide +kernel
theorem dFo_store_35 : decode cFo_store 35 = .ok (.iload_n 3, 1) := by decide +kernel
theorem dFo_store_36 : decode cFo_store 36 = .ok (.iaload, 1) := by decide +kernel
theorem dFo_store_37 : decode cFo_store 37 = .ok (.iastore, 1) := by decide +kernel
theorem dFo_store_38 : decode cFo_store 38 = .ok (.aload_n 0, 1) := by decide +kernel
theorem dFo_store_39 : decode cFo_store 39 = .ok (.getfield 31, 3) := by decide +kernel
theorem dFo_store_42 : decode cFo_store 42 = .ok (.iload_n 3, 1) := by decide +kernel
theorem dFo_store_43 : decode cFo_store 43 = .ok (.aload_n 0, 1) := by decide +kernel
theorem dFo_store_44 : decode cFo_store 44 = .ok (.getfield 9, 3) := by decide +kernel
theorem dFo_store_47 : decode cFo_store 47 = .ok (.iastore, 1) := by decide +kernel
theorem dFo_store_48 : decode cFo_store 48 = .ok (.iinc 3 1, 3) := by decide +kernel
theorem dFo_store_51 : decode cFo_store 51 = .ok (.goto (-41), 3) := by decide +kernel
theorem dFo_store_54 : decode cFo_store 54 = .ok (.return_, 1) := by decide +kernel
theorem dFo_rowStart_0 : decode cFo_rowStart 0 = .ok (.iload_n 0, 1) := by decide +kernel
theorem dFo_rowStart_1 : decode cFo_rowStart 1 = .ok (.bipush 17, 2) := by decide +kernel
theorem dFo_rowStart_3 : decode cFo_rowStart 3 = .ok (.irem, 1) := by decide +kernel
theorem dFo_rowStart_4 : decode cFo_rowStart 4 = .ok (.bipush 16, 2) := by decide +kernel
theorem dFo_rowStart_6 : decode cFo_rowStart 6 = .ok (.imul, 1) := by decide +kernel
theorem dFo_rowStart_7 : decode cFo_rowStart 7 = .ok (.ireturn, 1) := by decide +kernel
theorem dFo_oldestSnapshot_0 : decode cFo_oldestSnapshot 0 = .ok (.aload_n 0, 1) := by decide +kernel
theorem dFo_oldestSnapshot_1 : decode cFo_oldestSnapshot 1 = .ok (.getfield 9, 3) := by decide +kernel
theorem dFo_oldestSnapshot_4 : decode cFo_oldestSnapshot 4 = .ok (.aload_n 0, 1) := by decide +kernel
theorem dFo_oldestSnapshot_5 : decode cFo_oldestSnapshot 5 = .ok (.getfield 40, 3) := by decide +kernel
theorem dFo_oldestSnapshot_8 : decode cFo_oldestSnapshot 8 = .ok (.isub, 1) := by decide +kernel
theorem dFo_oldestSnapshot_9 : decode cFo_oldestSnapshot 9 = .ok (.ireturn, 1) := by decide +kernel
theorem dFo_keysAfter_0 : decode cFo_keysAfter 0 = .ok (.iload_n 1, 1) := by decide +kernel
theorem dFo_keysAfter_1 : decode cFo_keysAfter 1 = .ok (.iconst 0, 1) := by decide +kernel
theorem dFo_keysAfter_2 : decode cFo_keysAfter 2 = .ok (.invokestatic 86, 3) := by decide +kernel
theorem dFo_keysAfter_5 : decode cFo_keysAfter 5 = .ok (.istore_n 2, 1) := by decide +kernel
theorem dFo_keysAfter_6 : decode cFo_keysAfter 6 = .ok (.iconst 0, 1) := by decide +kernel
theorem dFo_keysAfter_7 : decode cFo_keysAfter 7 = .ok (.istore_n 3, 1) := by decide +kernel
theorem dFo_keysAfter_8 : decode cFo_keysAfter 8 = .ok (.iconst 0, 1) := by decide +kernel
theorem dFo_keysAfter_9 : decode cFo_keysAfter 9 = .ok (.istore 4, 2) := by decide +kernel
theorem dFo_keysAfter_11 : decode cFo_keysAfter 11 = .ok (.iload 4, 2) := by decide +kernel
theorem dFo_keysAfter_13 : decode cFo_keysAfter 13 = .ok (.bipush 16, 2) := by decide +kernel
theorem dFo_keysAfter_15 : decode cFo_keysAfter 15 = .ok (.if_icmp .ge 27, 3) := by decide +kernel
theorem dFo_keysAfter_18 : decode cFo_keysAfter 18 = .ok (.aload_n 0, 1) := by decide +kernel
theorem dFo_keysAfter_19 : decode cFo_keysAfter 19 = .ok (.getfield 31, 3) := by decide +kernel
theorem dFo_keysAfter_22 : decode cFo_keysAfter 22 = .ok (.iload 4, 2) := by decide +kernel
theorem dFo_keysAfter_24 : decode cFo_keysAfter 24 = .ok (.iaload, 1) := by decide +kernel
theorem dFo_keysAfter_25 : decode cFo_keysAfter 25 = .ok (.iload_n 2, 1) := by decide +kernel
theorem dFo_keysAfter_26 : decode cFo_keysAfter 26 = .ok (.if_icmp .le 10, 3) := by decide +kernel
theorem dFo_keysAfter_29 : decode cFo_keysAfter 29 = .ok (.iload_n 3, 1) := by decide +kernel
theorem dFo_keysAfter_30 : decode cFo_keysAfter 30 = .ok (.iconst 1, 1) := by decide +kernel
theorem dFo_keysAfter_31 : decode cFo_keysAfter 31 = .ok (.iload 4, 2) := by decide +kernel
theorem dFo_keysAfter_33 : decode cFo_keysAfter 33 = .ok (.ishl, 1) := by decide +kernel
theorem dFo_keysAfter_34 : decode cFo_keysAfter 34 = .ok (.ior, 1) := by decide +kernel
theorem dFo_keysAfter_35 : decode cFo_keysAfter 35 = .ok (.istore_n 3, 1) := by decide +kernel
theorem dFo_keysAfter_36 : decode cFo_keysAfter 36 = .ok (.iinc 4 1, 3) := by decide +kernel
theorem dFo_keysAfter_39 : decode cFo_keysAfter 39 = .ok (.goto (-28), 3) := by decide +kernel
theorem dFo_keysAfter_42 : decode cFo_keysAfter 42 = .ok (.iload_n 3, 1) := by decide +kernel
theorem dFo_keysAfter_43 : decode cFo_keysAfter 43 = .ok (.ireturn, 1) := by decide +kernel
theorem dFo_keptWrite_0 : decode cFo_keptWrite 0 = .ok (.aload_n 0, 1) := by decide +kernel
theorem dFo_keptWrite_1 : decode cFo_keptWrite 1 = .ok (.getfield 31, 3) := by decide +kernel
theorem dFo_keptWrite_4 : decode cFo_keptWrite 4 = .ok (.iload_n 1, 1) := by decide +kernel
theorem dFo_keptWrite_5 : decode cFo_keptWrite 5 = .ok (.iaload, 1) := by decide +kernel
theorem dFo_keptWrite_6 : decode cFo_keptWrite 6 = .ok (.istore_n 2, 1) := by decide +kernel
theorem dFo_keptWrite_7 : decode cFo_keptWrite 7 = .ok (.iload_n 2, 1) := by decide +kernel
theorem dFo_keptWrite_8 : decode cFo_keptWrite 8 = .ok (.ifCond .le 15, 3) := by decide +kernel
theorem dFo_keptWrite_11 : decode cFo_keptWrite 11 = .ok (.iload_n 2, 1) := by decide +kernel
theorem dFo_keptWrite_12 : decode cFo_keptWrite 12 = .ok (.aload_n 0, 1) := by decide +kernel
theorem dFo_keptWrite_13 : decode cFo_keptWrite 13 = .ok (.getfield 15, 3) := by decide +kernel
theorem dFo_keptWrite_16 : decode cFo_keptWrite 16 = .ok (.if_icmp .lt 7, 3) := by decide +kernel
theorem dFo_keptWrite_19 : decode cFo_keptWrite 19 = .ok (.iload_n 2, 1) := by decide +kernel
theorem dFo_keptWrite_20 : decode cFo_keptWrite 20 = .ok (.goto 4, 3) := by decide +kernel
theorem dFo_keptWrite_23 : decode cFo_keptWrite 23 = .ok (.iconst (-1), 1) := by decide +kernel
theorem dFo_keptWrite_24 : decode cFo_keptWrite 24 = .ok (.ireturn, 1) := by decide +kernel
theorem dFo_valueAt_0 : decode cFo_valueAt 0 = .ok (.aload_n 0, 1) := by decide +kernel
theorem dFo_valueAt_1 : decode cFo_valueAt 1 = .ok (.getfield 27, 3) := by decide +kernel
theorem dFo_valueAt_4 : decode cFo_valueAt 4 = .ok (.iload_n 2, 1) := by decide +kernel
theorem dFo_valueAt_5 : decode cFo_valueAt 5 = .ok (.invokestatic 77, 3) := by decide +kernel
theorem dFo_valueAt_8 : decode cFo_valueAt 8 = .ok (.iload_n 1, 1) := by decide +kernel
theorem dFo_valueAt_9 : decode cFo_valueAt 9 = .ok (.iadd, 1) := by decide +kernel
theorem dFo_valueAt_10 : decode cFo_valueAt 10 = .ok (.iaload, 1) := by decide +kernel
theorem dFo_valueAt_11 : decode cFo_valueAt 11 = .ok (.ireturn, 1) := by decide +kernel
theorem dFo_sumOfValues_0 : decode cFo_sumOfValues 0 = .ok (.iconst 0, 1) := by decide +kernel
theorem dFo_sumOfValues_1 : decode cFo_sumOfValues 1 = .ok (.istore_n 1, 1) := by decide +kernel
theorem dFo_sumOfValues_2 : decode cFo_sumOfValues 2 = .ok (.iconst 0, 1) := by decide +kernel
theorem dFo_sumOfValues_3 : decode cFo_sumOfValues 3 = .ok (.istore_n 2, 1) := by decide +kernel
theorem dFo_sumOfValues_4 : decode cFo_sumOfValues 4 = .ok (.iload_n 2, 1) := by decide +kernel
theorem dFo_sumOfValues_5 : decode cFo_sumOfValues 5 = .ok (.bipush 16, 2) := by decide +kernel
theorem dFo_sumOfValues_7 : decode cFo_sumOfValues 7 = .ok (.if_icmp .ge 21, 3) := by decide +kernel
theorem dFo_sumOfValues_10 : decode cFo_sumOfValues 10 = .ok (.iload_n 1, 1) := by decide +kernel
theorem dFo_sumOfValues_11 : decode cFo_sumOfValues 11 = .ok (.aload_n 0, 1) := by decide +kernel
theorem dFo_sumOfValues_12 : decode cFo_sumOfValues 12 = .ok (.iload_n 2, 1) := by decide +kernel
theorem dFo_sumOfValues_13 : decode cFo_sumOfValues 13 = .ok (.aload_n 0, 1) := by decide +kernel
theorem dFo_sumOfValues_14 : decode cFo_sumOfValues 14 = .ok (.getfield 9, 3) := by decide +kernel
theorem dFo_sumOfValues_17 : decode cFo_sumOfValues 17 = .ok (.invokevirtual 99, 3) := by decide +kernel
theorem dFo_sumOfValues_20 : decode cFo_sumOfValues 20 = .ok (.iadd, 1) := by decide +kernel
theorem dFo_sumOfValues_21 : decode cFo_sumOfValues 21 = .ok (.istore_n 1, 1) := by decide +kernel
theorem dFo_sumOfValues_22 : decode cFo_sumOfValues 22 = .ok (.iinc 2 1, 3) := by decide +kernel
theorem dFo_sumOfValues_25 : decode cFo_sumOfValues 25 = .ok (.goto (-21), 3) := by decide +kernel
theorem dFo_sumOfValues_28 : decode cFo_sumOfValues 28 = .ok (.iload_n 1, 1) := by decide +kernel
theorem dFo_sumOfValues_29 : decode cFo_sumOfValues 29 = .ok (.ireturn, 1) := by decide +kernel
theorem dFo_isLike_0 : decode cFo_isLike 0 = .ok (.aload_n 0, 1) := by decide +kernel
theorem dFo_isLike_1 : decode cFo_isLike 1 = .ok (.getfield 9, 3) := by decide +kernel
theorem dFo_isLike_4 : decode cFo_isLike 4 = .ok (.aload_n 1, 1) := by decide +kernel
theorem dFo_isLike_5 : decode cFo_isLike 5 = .ok (.getfield 9, 3) := by decide +kernel
theorem dFo_isLike_8 : decode cFo_isLike 8 = .ok (.if_icmp .ne 23, 3) := by decide +kernel
theorem dFo_isLike_11 : decode cFo_isLike 11 = .ok (.aload_n 0, 1) := by decide +kernel
theorem dFo_isLike_12 : decode cFo_isLike 12 = .ok (.aload_n 1, 1) := by decide +kernel
theorem dFo_isLike_13 : decode cFo_isLike 13 = .ok (.invokevirtual 102, 3) := by decide +kernel
theorem dFo_isLike_16 : decode cFo_isLike 16 = .ok (.ifCond .eq 15, 3) := by decide +kernel
theorem dFo_isLike_19 : decode cFo_isLike 19 = .ok (.aload_n 0, 1) := by decide +kernel
theorem dFo_isLike_20 : decode cFo_isLike 20 = .ok (.aload_n 1, 1) := by decide +kernel
theorem dFo_isLike_21 : decode cFo_isLike 21 = .ok (.invokevirtual 106, 3) := by decide +kernel
theorem dFo_isLike_24 : decode cFo_isLike 24 = .ok (.ifCond .eq 7, 3) := by decide +kernel
theorem dFo_isLike_27 : decode cFo_isLike 27 = .ok (.iconst 1, 1) := by decide +kernel
theorem dFo_isLike_28 : decode cFo_isLike 28 = .ok (.goto 4, 3) := by decide +kernel
theorem dFo_isLike_31 : decode cFo_isLike 31 = .ok (.iconst 0, 1) := by decide +kernel
theorem dFo_isLike_32 : decode cFo_isLike 32 = .ok (.ireturn, 1) := by decide +kernel
theorem dFo_hasKeysOf_0 : decode cFo_hasKeysOf 0 = .ok (.aload_n 0, 1) := by decide +kernel
theorem dFo_hasKeysOf_1 : decode cFo_hasKeysOf 1 = .ok (.invokevirtual 55, 3) := by decide +kernel
theorem dFo_hasKeysOf_4 : decode cFo_hasKeysOf 4 = .ok (.istore_n 2, 1) := by decide +kernel
theorem dFo_hasKeysOf_5 : decode cFo_hasKeysOf 5 = .ok (.iconst 0, 1) := by decide +kernel
theorem dFo_hasKeysOf_6 : decode cFo_hasKeysOf 6 = .ok (.istore_n 3, 1) := by decide +kernel
theorem dFo_hasKeysOf_7 : decode cFo_hasKeysOf 7 = .ok (.iload_n 3, 1) := by decide +kernel
theorem dFo_hasKeysOf_8 : decode cFo_hasKeysOf 8 = .ok (.bipush 16, 2) := by decide +kernel
theorem dFo_hasKeysOf_10 : decode cFo_hasKeysOf 10 = .ok (.if_icmp .ge 63, 3) := by decide +kernel
theorem dFo_hasKeysOf_13 : decode cFo_hasKeysOf 13 = .ok (.aload_n 0, 1) := by decide +kernel
theorem dFo_hasKeysOf_14 : decode cFo_hasKeysOf 14 = .ok (.getfield 31, 3) := by decide +kernel
theorem dFo_hasKeysOf_17 : decode cFo_hasKeysOf 17 = .ok (.iload_n 3, 1) := by decide +kernel
theorem dFo_hasKeysOf_18 : decode cFo_hasKeysOf 18 = .ok (.iaload, 1) := by decide +kernel
theorem dFo_hasKeysOf_19 : decode cFo_hasKeysOf 19 = .ok (.iload_n 2, 1) := by decide +kernel
theorem dFo_hasKeysOf_20 : decode cFo_hasKeysOf 20 = .ok (.invokestatic 86, 3) := by decide +kernel
theorem dFo_hasKeysOf_23 : decode cFo_hasKeysOf 23 = .ok (.istore 4, 2) := by decide +kernel
theorem dFo_hasKeysOf_25 : decode cFo_hasKeysOf 25 = .ok (.aload_n 1, 1) := by decide +kernel
theorem dFo_hasKeysOf_26 : decode cFo_hasKeysOf 26 = .ok (.getfield 31, 3) := by decide +kernel
theorem dFo_hasKeysOf_29 : decode cFo_hasKeysOf 29 = .ok (.iload_n 3, 1) := by decide +kernel
theorem dFo_hasKeysOf_30 : decode cFo_hasKeysOf 30 = .ok (.iaload, 1) := by decide +kernel
theorem dFo_hasKeysOf_31 : decode cFo_hasKeysOf 31 = .ok (.iload_n 2, 1) := by decide +kernel
theorem dFo_hasKeysOf_32 : decode cFo_hasKeysOf 32 = .ok (.invokestatic 86, 3) := by decide +kernel
theorem dFo_hasKeysOf_35 : decode cFo_hasKeysOf 35 = .ok (.istore 5, 2) := by decide +kernel
theorem dFo_hasKeysOf_37 : decode cFo_hasKeysOf 37 = .ok (.iload 4, 2) := by decide +kernel
theorem dFo_hasKeysOf_39 : decode cFo_hasKeysOf 39 = .ok (.iload 5, 2) := by decide +kernel
theorem dFo_hasKeysOf_41 : decode cFo_hasKeysOf 41 = .ok (.if_icmp .ne 24, 3) := by decide +kernel
theorem dFo_hasKeysOf_44 : decode cFo_hasKeysOf 44 = .ok (.aload_n 0, 1) := by decide +kernel
theorem dFo_hasKeysOf_45 : decode cFo_hasKeysOf 45 = .ok (.iload_n 3, 1) := by decide +kernel
theorem dFo_hasKeysOf_46 : decode cFo_hasKeysOf 46 = .ok (.aload_n 0, 1) := by decide +kernel
theorem dFo_hasKeysOf_47 : decode cFo_hasKeysOf 47 = .ok (.getfield 9, 3) := by decide +kernel
theorem dFo_hasKeysOf_50 : decode cFo_hasKeysOf 50 = .ok (.invokevirtual 99, 3) := by decide +kernel
theorem dFo_hasKeysOf_53 : decode cFo_hasKeysOf 53 = .ok (.aload_n 1, 1) := by decide +kernel
theorem dFo_hasKeysOf_54 : decode cFo_hasKeysOf 54 = .ok (.iload_n 3, 1) := by decide +kernel
theorem dFo_hasKeysOf_55 : decode cFo_hasKeysOf 55 = .ok (.aload_n 0, 1) := by decide +kernel
theorem dFo_hasKeysOf_56 : decode cFo_hasKeysOf 56 = .ok (.getfield 9, 3) := by decide +kernel
theorem dFo_hasKeysOf_59 : decode cFo_hasKeysOf 59 = .ok (.invokevirtual 99, 3) := by decide +kernel
theorem dFo_hasKeysOf_62 : decode cFo_hasKeysOf 62 = .ok (.if_icmp .eq 5, 3) := by decide +kernel
theorem dFo_hasKeysOf_65 : decode cFo_hasKeysOf 65 = .ok (.iconst 0, 1) := by decide +kernel
theorem dFo_hasKeysOf_66 : decode cFo_hasKeysOf 66 = .ok (.ireturn, 1) := by decide +kernel
theorem dFo_hasKeysOf_67 : decode cFo_hasKeysOf 67 = .ok (.iinc 3 1, 3) := by decide +kernel
theorem dFo_hasKeysOf_70 : decode cFo_hasKeysOf 70 = .ok (.goto (-63), 3) := by decide +kernel
theorem dFo_hasKeysOf_73 : decode cFo_hasKeysOf 73 = .ok (.iconst 1, 1) := by decide +kernel
theorem dFo_hasKeysOf_74 : decode cFo_hasKeysOf 74 = .ok (.ireturn, 1) := by decide +kernel
theorem dFo_hasSessionsOf_0 : decode cFo_hasSessionsOf 0 = .ok (.iconst 0, 1) := by decide +kernel
theorem dFo_hasSessionsOf_1 : decode cFo_hasSessionsOf 1 = .ok (.istore_n 2, 1) := by decide +kernel
theorem dFo_hasSessionsOf_2 : decode cFo_hasSessionsOf 2 = .ok (.iload_n 2, 1) := by decide +kernel
theorem dFo_hasSessionsOf_3 : decode cFo_hasSessionsOf 3 = .ok (.bipush 16, 2) := by decide +kernel
theorem dFo_hasSessionsOf_5 : decode cFo_hasSessionsOf 5 = .ok (.if_icmp .ge 41, 3) := by decide +kernel
theorem dFo_hasSessionsOf_8 : decode cFo_hasSessionsOf 8 = .ok (.aload_n 0, 1) := by decide +kernel
theorem dFo_hasSessionsOf_9 : decode cFo_hasSessionsOf 9 = .ok (.getfield 34, 3) := by decide +kernel
theorem dFo_hasSessionsOf_12 : decode cFo_hasSessionsOf 12 = .ok (.iload_n 2, 1) := by decide +kernel
theorem dFo_hasSessionsOf_13 : decode cFo_hasSessionsOf 13 = .ok (.iaload, 1) := by decide +kernel
theorem dFo_hasSessionsOf_14 : decode cFo_hasSessionsOf 14 = .ok (.aload_n 1, 1) := by decide +kernel
theorem dFo_hasSessionsOf_15 : decode cFo_hasSessionsOf 15 = .ok (.getfield 34, 3) := by decide +kernel
theorem dFo_hasSessionsOf_18 : decode cFo_hasSessionsOf 18 = .ok (.iload_n 2, 1) := by decide +kernel
theorem dFo_hasSessionsOf_19 : decode cFo_hasSessionsOf 19 = .ok (.iaload, 1) := by decide +kernel
theorem dFo_hasSessionsOf_20 : decode cFo_hasSessionsOf 20 = .ok (.if_icmp .ne 18, 3) := by decide +kernel
theorem dFo_hasSessionsOf_23 : decode cFo_hasSessionsOf 23 = .ok (.aload_n 0, 1) := by decide +kernel
theorem dFo_hasSessionsOf_24 : decode cFo_hasSessionsOf 24 = .ok (.getfield 37, 3) := by decide +kernel
theorem dFo_hasSessionsOf_27 : decode cFo_hasSessionsOf 27 = .ok (.iload_n 2, 1) := by decide +kernel
theorem dFo_hasSessionsOf_28 : decode cFo_hasSessionsOf 28 = .ok (.iaload, 1) := by decide +kernel
theorem dFo_hasSessionsOf_29 : decode cFo_hasSessionsOf 29 = .ok (.aload_n 1, 1) := by decide +kernel
theorem dFo_hasSessionsOf_30 : decode cFo_hasSessionsOf 30 = .ok (.getfield 37, 3) := by decide +kernel
theorem dFo_hasSessionsOf_33 : decode cFo_hasSessionsOf 33 = .ok (.iload_n 2, 1) := by decide +kernel
theorem dFo_hasSessionsOf_34 : decode cFo_hasSessionsOf 34 = .ok (.iaload, 1) := by decide +kernel
theorem dFo_hasSessionsOf_35 : decode cFo_hasSessionsOf 35 = .ok (.if_icmp .eq 5, 3) := by decide +kernel
theorem dFo_hasSessionsOf_38 : decode cFo_hasSessionsOf 38 = .ok (.iconst 0, 1) := by decide +kernel
theorem dFo_hasSessionsOf_39 : decode cFo_hasSessionsOf 39 = .ok (.ireturn, 1) := by decide +kernel
theorem dFo_hasSessionsOf_40 : decode cFo_hasSessionsOf 40 = .ok (.iinc 2 1, 3) := by decide +kernel
theorem dFo_hasSessionsOf_43 : decode cFo_hasSessionsOf 43 = .ok (.goto (-41), 3) := by decide +kernel
theorem dFo_hasSessionsOf_46 : decode cFo_hasSessionsOf 46 = .ok (.iconst 1, 1) := by decide +kernel
theorem dFo_hasSessionsOf_47 : decode cFo_hasSessionsOf 47 = .ok (.ireturn, 1) := by decide +kernel
theorem dFo_become_0 : decode cFo_become 0 = .ok (.aload_n 0, 1) := by decide +kernel
theorem dFo_become_1 : decode cFo_become 1 = .ok (.aload_n 1, 1) := by decide +kernel
theorem dFo_become_2 : decode cFo_become 2 = .ok (.getfield 9, 3) := by decide +kernel
theorem dFo_become_5 : decode cFo_become 5 = .ok (.putfield 9, 3) := by decide +kernel
theorem dFo_become_8 : decode cFo_become 8 = .ok (.aload_n 0, 1) := by decide +kernel
theorem dFo_become_9 : decode cFo_become 9 = .ok (.aload_n 1, 1) := by decide +kernel
theorem dFo_become_10 : decode cFo_become 10 = .ok (.getfield 9, 3) := by decide +kernel
theorem dFo_become_13 : decode cFo_become 13 = .ok (.putfield 15, 3) := by decide +kernel
theorem dFo_become_16 : decode cFo_become 16 = .ok (.aload_n 0, 1) := by decide +kernel
theorem dFo_become_17 : decode cFo_become 17 = .ok (.aload_n 1, 1) := by decide +kernel
theorem dFo_become_18 : decode cFo_become 18 = .ok (.getfield 18, 3) := by decide +kernel
theorem dFo_become_21 : decode cFo_become 21 = .ok (.putfield 18, 3) := by decide +kernel
theorem dFo_become_24 : decode cFo_become 24 = .ok (.aload_n 0, 1) := by decide +kernel
theorem dFo_become_25 : decode cFo_become 25 = .ok (.aload_n 1, 1) := by decide +kernel
theorem dFo_become_26 : decode cFo_become 26 = .ok (.getfield 21, 3) := by decide +kernel
theorem dFo_become_29 : decode cFo_become 29 = .ok (.putfield 21, 3) := by decide +kernel
theorem dFo_become_32 : decode cFo_become 32 = .ok (.aload_n 0, 1) := by decide +kernel
theorem dFo_become_33 : decode cFo_become 33 = .ok (.aload_n 1, 1) := by decide +kernel
theorem dFo_become_34 : decode cFo_become 34 = .ok (.getfield 24, 3) := by decide +kernel
theorem dFo_become_37 : decode cFo_become 37 = .ok (.putfield 24, 3) := by decide +kernel
theorem dFo_become_40 : decode cFo_become 40 = .ok (.aload_n 1, 1) := by decide +kernel
theorem dFo_become_41 : decode cFo_become 41 = .ok (.getfield 27, 3) := by decide +kernel
theorem dFo_become_44 : decode cFo_become 44 = .ok (.iconst 0, 1) := by decide +kernel
theorem dFo_become_45 : decode cFo_become 45 = .ok (.aload_n 0, 1) := by decide +kernel
theorem dFo_become_46 : decode cFo_become 46 = .ok (.getfield 27, 3) := by decide +kernel
theorem dFo_become_49 : decode cFo_become 49 = .ok (.iconst 0, 1) := by decide +kernel
theorem dFo_become_50 : decode cFo_become 50 = .ok (.sipush 272, 3) := by decide +kernel
theorem dFo_become_53 : decode cFo_become 53 = .ok (.invokestatic 80, 3) := by decide +kernel
theorem dFo_become_56 : decode cFo_become 56 = .ok (.aload_n 1, 1) := by decide +kernel
theorem dFo_become_57 : decode cFo_become 57 = .ok (.getfield 31, 3) := by decide +kernel
theorem dFo_become_60 : decode cFo_become 60 = .ok (.iconst 0, 1) := by decide +kernel
theorem dFo_become_61 : decode cFo_become 61 = .ok (.aload_n 0, 1) := by decide +kernel
theorem dFo_become_62 : decode cFo_become 62 = .ok (.getfield 31, 3) := by decide +kernel
theorem dFo_become_65 : decode cFo_become 65 = .ok (.iconst 0, 1) := by decide +kernel
theorem dFo_become_66 : decode cFo_become 66 = .ok (.bipush 16, 2) := by decide +kernel
theorem dFo_become_68 : decode cFo_become 68 = .ok (.invokestatic 80, 3) := by decide +kernel
theorem dFo_become_71 : decode cFo_become 71 = .ok (.aload_n 1, 1) := by decide +kernel
theorem dFo_become_72 : decode cFo_become 72 = .ok (.getfield 34, 3) := by decide +kernel
theorem dFo_become_75 : decode cFo_become 75 = .ok (.iconst 0, 1) := by decide +kernel
theorem dFo_become_76 : decode cFo_become 76 = .ok (.aload_n 0, 1) := by decide +kernel
theorem dFo_become_77 : decode cFo_become 77 = .ok (.getfield 34, 3) := by decide +kernel
theorem dFo_become_80 : decode cFo_become 80 = .ok (.iconst 0, 1) := by decide +kernel
theorem dFo_become_81 : decode cFo_become 81 = .ok (.bipush 16, 2) := by decide +kernel
theorem dFo_become_83 : decode cFo_become 83 = .ok (.invokestatic 80, 3) := by decide +kernel
theorem dFo_become_86 : decode cFo_become 86 = .ok (.aload_n 1, 1) := by decide +kernel
theorem dFo_become_87 : decode cFo_become 87 = .ok (.getfield 37, 3) := by decide +kernel
theorem dFo_become_90 : decode cFo_become 90 = .ok (.iconst 0, 1) := by decide +kernel
theorem dFo_become_91 : decode cFo_become 91 = .ok (.aload_n 0, 1) := by decide +kernel
theorem dFo_become_92 : decode cFo_become 92 = .ok (.getfield 37, 3) := by decide +kernel
theorem dFo_become_95 : decode cFo_become 95 = .ok (.iconst 0, 1) := by decide +kernel
theorem dFo_become_96 : decode cFo_become 96 = .ok (.bipush 16, 2) := by decide +kernel
theorem dFo_become_98 : decode cFo_become 98 = .ok (.invokestatic 80, 3) := by decide +kernel
theorem dFo_become_101 : decode cFo_become 101 = .ok (.return_, 1) := by decide +kernel
theorem dFo_reset_0 : decode cFo_reset 0 = .ok (.aload_n 0, 1) := by decide +kernel
theorem dFo_reset_1 : decode cFo_reset 1 = .ok (.iconst 0, 1) := by decide +kernel
theorem dFo_reset_2 : decode cFo_reset 2 = .ok (.putfield 9, 3) := by decide +kernel
theorem dFo_reset_5 : decode cFo_reset 5 = .ok (.aload_n 0, 1) := by decide +kernel
theorem dFo_reset_6 : decode cFo_reset 6 = .ok (.iconst 0, 1) := by decide +kernel
theorem dFo_reset_7 : decode cFo_reset 7 = .ok (.putfield 15, 3) := by decide +kernel
theorem dFo_reset_10 : decode cFo_reset 10 = .ok (.aload_n 0, 1) := by decide +kernel
theorem dFo_reset_11 : decode cFo_reset 11 = .ok (.iconst 0, 1) := by decide +kernel
theorem dFo_reset_12 : decode cFo_reset 12 = .ok (.putfield 18, 3) := by decide +kernel
theorem dFo_reset_15 : decode cFo_reset 15 = .ok (.aload_n 0, 1) := by decide +kernel
theorem dFo_reset_16 : decode cFo_reset 16 = .ok (.iconst 0, 1) := by decide +kernel
theorem dFo_reset_17 : decode cFo_reset 17 = .ok (.putfield 21, 3) := by decide +kernel
theorem dFo_reset_20 : decode cFo_reset 20 = .ok (.aload_n 0, 1) := by decide +kernel
theorem dFo_reset_21 : decode cFo_reset 21 = .ok (.iconst 0, 1) := by decide +kernel
theorem dFo_reset_22 : decode cFo_reset 22 = .ok (.putfield 24, 3) := by decide +kernel
theorem dFo_reset_25 : decode cFo_reset 25 = .ok (.aload_n 0, 1) := by decide +kernel
theorem dFo_reset_26 : decode cFo_reset 26 = .ok (.getfield 27, 3) := by decide +kernel
theorem dFo_reset_29 : decode cFo_reset 29 = .ok (.iconst 0, 1) := by decide +kernel
theorem dFo_reset_30 : decode cFo_reset 30 = .ok (.invokestatic 109, 3) := by decide +kernel
theorem dFo_reset_33 : decode cFo_reset 33 = .ok (.aload_n 0, 1) := by decide +kernel
theorem dFo_reset_34 : decode cFo_reset 34 = .ok (.getfield 31, 3) := by decide +kernel
theorem dFo_reset_37 : decode cFo_reset 37 = .ok (.iconst 0, 1) := by decide +kernel
theorem dFo_reset_38 : decode cFo_reset 38 = .ok (.invokestatic 109, 3) := by decide +kernel
theorem dFo_reset_41 : decode cFo_reset 41 = .ok (.aload_n 0, 1) := by decide +kernel
theorem dFo_reset_42 : decode cFo_reset 42 = .ok (.getfield 34, 3) := by decide +kernel
theorem dFo_reset_45 : decode cFo_reset 45 = .ok (.iconst 0, 1) := by decide +kernel
theorem dFo_reset_46 : decode cFo_reset 46 = .ok (.invokestatic 109, 3) := by decide +kernel
theorem dFo_reset_49 : decode cFo_reset 49 = .ok (.aload_n 0, 1) := by decide +kernel
theorem dFo_reset_50 : decode cFo_reset 50 = .ok (.getfield 37, 3) := by decide +kernel
theorem dFo_reset_53 : decode cFo_reset 53 = .ok (.iconst 0, 1) := by decide +kernel
theorem dFo_reset_54 : decode cFo_reset 54 = .ok (.invokestatic 109, 3) := by decide +kernel
theorem dFo_reset_57 : decode cFo_reset 57 = .ok (.return_, 1) := by decide +kernel
