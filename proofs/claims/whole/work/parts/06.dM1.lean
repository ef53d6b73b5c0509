theorem dMd_init_0 : decode cMd_init 0 = .ok (.aload_n 0, 1) := by decide +kernel
theorem dMd_init_1 : decode cMd_init 1 = .ok (.invokespecial 1, 3) := by decide +kernel
theorem dMd_init_4 : decode cMd_init 4 = .ok (.aload_n 0, 1) := by decide +kernel
theorem dMd_init_5 : decode cMd_init 5 = .ok (.iconst 4, 1) := by decide +kernel
theorem dMd_init_6 : decode cMd_init 6 = .ok (.newarray .int, 2) := by decide +kernel
theorem dMd_init_8 : decode cMd_init 8 = .ok (.putfield 7, 3) := by decide +kernel
theorem dMd_init_11 : decode cMd_init 11 = .ok (.aload_n 0, 1) := by decide +kernel
theorem dMd_init_12 : decode cMd_init 12 = .ok (.iconst 4, 1) := by decide +kernel
theorem dMd_init_13 : decode cMd_init 13 = .ok (.newarray .int, 2) := by decide +kernel
theorem dMd_init_15 : decode cMd_init 15 = .ok (.putfield 13, 3) := by decide +kernel
theorem dMd_init_18 : decode cMd_init 18 = .ok (.aload_n 0, 1) := by decide +kernel
theorem dMd_init_19 : decode cMd_init 19 = .ok (.iconst 4, 1) := by decide +kernel
theorem dMd_init_20 : decode cMd_init 20 = .ok (.newarray .int, 2) := by decide +kernel
theorem dMd_init_22 : decode cMd_init 22 = .ok (.putfield 16, 3) := by decide +kernel
theorem dMd_init_25 : decode cMd_init 25 = .ok (.aload_n 0, 1) := by decide +kernel
theorem dMd_init_26 : decode cMd_init 26 = .ok (.iconst 4, 1) := by decide +kernel
theorem dMd_init_27 : decode cMd_init 27 = .ok (.newarray .int, 2) := by decide +kernel
theorem dMd_init_29 : decode cMd_init 29 = .ok (.putfield 19, 3) := by decide +kernel
theorem dMd_init_32 : decode cMd_init 32 = .ok (.aload_n 0, 1) := by decide +kernel
theorem dMd_init_33 : decode cMd_init 33 = .ok (.iconst 4, 1) := by decide +kernel
theorem dMd_init_34 : decode cMd_init 34 = .ok (.newarray .int, 2) := by decide +kernel
theorem dMd_init_36 : decode cMd_init 36 = .ok (.putfield 22, 3) := by decide +kernel
theorem dMd_init_39 : decode cMd_init 39 = .ok (.aload_n 0, 1) := by decide +kernel
theorem dMd_init_40 : decode cMd_init 40 = .ok (.bipush 64, 2) := by decide +kernel
theorem dMd_init_42 : decode cMd_init 42 = .ok (.newarray .int, 2) := by decide +kernel
theorem dMd_init_44 : decode cMd_init 44 = .ok (.putfield 25, 3) := by decide +kernel
theorem dMd_init_47 : decode cMd_init 47 = .ok (.aload_n 0, 1) := by decide +kernel
theorem dMd_init_48 : decode cMd_init 48 = .ok (.bipush 64, 2) := by decide +kernel
theorem dMd_init_50 : decode cMd_init 50 = .ok (.newarray .int, 2) := by decide +kernel
theorem dMd_init_52 : decode cMd_init 52 = .ok (.putfield 28, 3) := by decide +kernel
theorem dMd_init_55 : decode cMd_init 55 = .ok (.aload_n 0, 1) := by decide +kernel
theorem dMd_init_56 : decode cMd_init 56 = .ok (.sipush 256, 3) := by decide +kernel
theorem dMd_init_59 : decode cMd_init 59 = .ok (.newarray .int, 2) := by decide +kernel
theorem dMd_init_61 : decode cMd_init 61 = .ok (.putfield 31, 3) := by decide +kernel
theorem dMd_init_64 : decode cMd_init 64 = .ok (.aload_n 0, 1) := by decide +kernel
theorem dMd_init_65 : decode cMd_init 65 = .ok (.sipush 4096, 3) := by decide +kernel
theorem dMd_init_68 : decode cMd_init 68 = .ok (.newarray .int, 2) := by decide +kernel
theorem dMd_init_70 : decode cMd_init 70 = .ok (.putfield 34, 3) := by decide +kernel
theorem dMd_init_73 : decode cMd_init 73 = .ok (.aload_n 0, 1) := by decide +kernel
theorem dMd_init_74 : decode cMd_init 74 = .ok (.iconst 1, 1) := by decide +kernel
theorem dMd_init_75 : decode cMd_init 75 = .ok (.putfield 37, 3) := by decide +kernel
theorem dMd_init_78 : decode cMd_init 78 = .ok (.aload_n 0, 1) := by decide +kernel
theorem dMd_init_79 : decode cMd_init 79 = .ok (.bipush 16, 2) := by decide +kernel
theorem dMd_init_81 : decode cMd_init 81 = .ok (.newarray .int, 2) := by decide +kernel
theorem dMd_init_83 : decode cMd_init 83 = .ok (.putfield 41, 3) := by decide +kernel
theorem dMd_init_86 : decode cMd_init 86 = .ok (.aload_n 0, 1) := by decide +kernel
theorem dMd_init_87 : decode cMd_init 87 = .ok (.iload_n 1, 1) := by decide +kernel
theorem dMd_init_88 : decode cMd_init 88 = .ok (.iconst 1, 1) := by decide +kernel
theorem dMd_init_89 : decode cMd_init 89 = .ok (.if_icmp .ge 7, 3) := by decide +kernel
theorem dMd_init_92 : decode cMd_init 92 = .ok (.iconst 1, 1) := by decide +kernel
theorem dMd_init_93 : decode cMd_init 93 = .ok (.goto 15, 3) := by decide +kernel
theorem dMd_init_96 : decode cMd_init 96 = .ok (.iload_n 1, 1) := by decide +kernel
theorem dMd_init_97 : decode cMd_init 97 = .ok (.bipush 16, 2) := by decide +kernel
theorem dMd_init_99 : decode cMd_init 99 = .ok (.if_icmp .le 8, 3) := by decide +kernel
theorem dMd_init_102 : decode cMd_init 102 = .ok (.bipush 16, 2) := by decide +kernel
theorem dMd_init_104 : decode cMd_init 104 = .ok (.goto 4, 3) := by decide +kernel
theorem dMd_init_107 : decode cMd_init 107 = .ok (.iload_n 1, 1) := by decide +kernel
theorem dMd_init_108 : decode cMd_init 108 = .ok (.putfield 44, 3) := by decide +kernel
theorem dMd_init_111 : decode cMd_init 111 = .ok (.return_, 1) := by decide +kernel
theorem dMd_thrown_0 : decode cMd_thrown 0 = .ok (.aload_n 0, 1) := by decide +kernel
theorem dMd_thrown_1 : decode cMd_thrown 1 = .ok (.getfield 47, 3) := by decide +kernel
theorem dMd_thrown_4 : decode cMd_thrown 4 = .ok (.ireturn, 1) := by decide +kernel
theorem dMd_is16_0 : decode cMd_is16 0 = .ok (.iload_n 0, 1) := by decide +kernel
theorem dMd_is16_1 : decode cMd_is16 1 = .ok (.ifCond .lt 13, 3) := by decide +kernel
theorem dMd_is16_4 : decode cMd_is16 4 = .ok (.iload_n 0, 1) := by decide +kernel
theorem dMd_is16_5 : decode cMd_is16 5 = .ok (.bipush 16, 2) := by decide +kernel
theorem dMd_is16_7 : decode cMd_is16 7 = .ok (.if_icmp .ge 7, 3) := by decide +kernel
theorem dMd_is16_10 : decode cMd_is16 10 = .ok (.iconst 1, 1) := by decide +kernel
theorem dMd_is16_11 : decode cMd_is16 11 = .ok (.goto 4, 3) := by decide +kernel
theorem dMd_is16_14 : decode cMd_is16 14 = .ok (.iconst 0, 1) := by decide +kernel
theorem dMd_is16_15 : decode cMd_is16 15 = .ok (.ireturn, 1) := by decide +kernel
theorem dMd_lacks_0 : decode cMd_lacks 0 = .ok (.aload_n 0, 1) := by decide +kernel
theorem dMd_lacks_1 : decode cMd_lacks 1 = .ok (.iload_n 1, 1) := by decide +kernel
theorem dMd_lacks_2 : decode cMd_lacks 2 = .ok (.ifCond .lt 12, 3) := by decide +kernel
theorem dMd_lacks_5 : decode cMd_lacks 5 = .ok (.iload_n 1, 1) := by decide +kernel
theorem dMd_lacks_6 : decode cMd_lacks 6 = .ok (.iconst 4, 1) := by decide +kernel
theorem dMd_lacks_7 : decode cMd_lacks 7 = .ok (.if_icmp .ge 7, 3) := by decide +kernel
theorem dMd_lacks_10 : decode cMd_lacks 10 = .ok (.iconst 0, 1) := by decide +kernel
theorem dMd_lacks_11 : decode cMd_lacks 11 = .ok (.goto 4, 3) := by decide +kernel
theorem dMd_lacks_14 : decode cMd_lacks 14 = .ok (.iconst 1, 1) := by decide +kernel
theorem dMd_lacks_15 : decode cMd_lacks 15 = .ok (.putfield 47, 3) := by decide +kernel
theorem dMd_lacks_18 : decode cMd_lacks 18 = .ok (.aload_n 0, 1) := by decide +kernel
theorem dMd_lacks_19 : decode cMd_lacks 19 = .ok (.getfield 47, 3) := by decide +kernel
theorem dMd_lacks_22 : decode cMd_lacks 22 = .ok (.ifCond .le 7, 3) := by decide +kernel
theorem dMd_lacks_25 : decode cMd_lacks 25 = .ok (.iconst 1, 1) := by decide +kernel
theorem dMd_lacks_26 : decode cMd_lacks 26 = .ok (.goto 4, 3) := by decide +kernel
theorem dMd_lacks_29 : decode cMd_lacks 29 = .ok (.iconst 0, 1) := by decide +kernel
theorem dMd_lacks_30 : decode cMd_lacks 30 = .ok (.ireturn, 1) := by decide +kernel
theorem dMd_draft_0 : decode cMd_draft 0 = .ok (.aload_n 0, 1) := by decide +kernel
theorem dMd_draft_1 : decode cMd_draft 1 = .ok (.iconst 0, 1) := by decide +kernel
theorem dMd_draft_2 : decode cMd_draft 2 = .ok (.putfield 47, 3) := by decide +kernel
theorem dMd_draft_5 : decode cMd_draft 5 = .ok (.iload_n 1, 1) := by decide +kernel
theorem dMd_draft_6 : decode cMd_draft 6 = .ok (.invokestatic 50, 3) := by decide +kernel
theorem dMd_draft_9 : decode cMd_draft 9 = .ok (.ifCond .eq 12, 3) := by decide +kernel
theorem dMd_draft_12 : decode cMd_draft 12 = .ok (.iload_n 2, 1) := by decide +kernel
theorem dMd_draft_13 : decode cMd_draft 13 = .ok (.iconst 1, 1) := by decide +kernel
theorem dMd_draft_14 : decode cMd_draft 14 = .ok (.if_icmp .lt 7, 3) := by decide +kernel
theorem dMd_draft_17 : decode cMd_draft 17 = .ok (.iload_n 3, 1) := by decide +kernel
theorem dMd_draft_18 : decode cMd_draft 18 = .ok (.ifCond .ge 5, 3) := by decide +kernel
theorem dMd_draft_21 : decode cMd_draft 21 = .ok (.iconst 0, 1) := by decide +kernel
theorem dMd_draft_22 : decode cMd_draft 22 = .ok (.ireturn, 1) := by decide +kernel
theorem dMd_draft_23 : decode cMd_draft 23 = .ok (.aload_n 0, 1) := by decide +kernel
theorem dMd_draft_24 : decode cMd_draft 24 = .ok (.iload_n 1, 1) := by decide +kernel
theorem dMd_draft_25 : decode cMd_draft 25 = .ok (.putfield 54, 3) := by decide +kernel
theorem dMd_draft_28 : decode cMd_draft 28 = .ok (.aload_n 0, 1) := by decide +kernel
theorem dMd_draft_29 : decode cMd_draft 29 = .ok (.iload_n 2, 1) := by decide +kernel
theorem dMd_draft_30 : decode cMd_draft 30 = .ok (.putfield 37, 3) := by decide +kernel
theorem dMd_draft_33 : decode cMd_draft 33 = .ok (.aload_n 0, 1) := by decide +kernel
theorem dMd_draft_34 : decode cMd_draft 34 = .ok (.iload_n 3, 1) := by decide +kernel
theorem dMd_draft_35 : decode cMd_draft 35 = .ok (.putfield 57, 3) := by decide +kernel
theorem dMd_draft_38 : decode cMd_draft 38 = .ok (.aload_n 0, 1) := by decide +kernel
theorem dMd_draft_39 : decode cMd_draft 39 = .ok (.iconst 0, 1) := by decide +kernel
theorem dMd_draft_40 : decode cMd_draft 40 = .ok (.putfield 60, 3) := by decide +kernel
theorem dMd_draft_43 : decode cMd_draft 43 = .ok (.aload_n 0, 1) := by decide +kernel
theorem dMd_draft_44 : decode cMd_draft 44 = .ok (.iconst 0, 1) := by decide +kernel
theorem dMd_draft_45 : decode cMd_draft 45 = .ok (.putfield 63, 3) := by decide +kernel
theorem dMd_draft_48 : decode cMd_draft 48 = .ok (.iconst 1, 1) := by decide +kernel
theorem dMd_draft_49 : decode cMd_draft 49 = .ok (.ireturn, 1) := by decide +kernel
theorem dMd_reads_0 : decode cMd_reads 0 = .ok (.aload_n 0, 1) := by decide +kernel
theorem dMd_reads_1 : decode cMd_reads 1 = .ok (.iconst 0, 1) := by decide +kernel
theorem dMd_reads_2 : decode cMd_reads 2 = .ok (.putfield 47, 3) := by decide +kernel
theorem dMd_reads_5 : decode cMd_reads 5 = .ok (.aload_n 0, 1) := by decide +kernel
theorem dMd_reads_6 : decode cMd_reads 6 = .ok (.dup, 1) := by decide +kernel
theorem dMd_reads_7 : decode cMd_reads 7 = .ok (.getfield 60, 3) := by decide +kernel
theorem dMd_reads_10 : decode cMd_reads 10 = .ok (.iload_n 1, 1) := by decide +kernel
theorem dMd_reads_11 : decode cMd_reads 11 = .ok (.invokestatic 50, 3) := by decide +kernel
theorem dMd_reads_14 : decode cMd_reads 14 = .ok (.ifCond .eq 9, 3) := by decide +kernel
theorem dMd_reads_17 : decode cMd_reads 17 = .ok (.iconst 1, 1) := by decide +kernel
theorem dMd_reads_18 : decode cMd_reads 18 = .ok (.iload_n 1, 1) := by decide +kernel
theorem dMd_reads_19 : decode cMd_reads 19 = .ok (.ishl, 1) := by decide +kernel
theorem dMd_reads_20 : decode cMd_reads 20 = .ok (.goto 4, 3) := by decide +kernel
theorem dMd_reads_23 : decode cMd_reads 23 = .ok (.iconst 0, 1) := by decide +kernel
theorem dMd_reads_24 : decode cMd_reads 24 = .ok (.ior, 1) := by decide +kernel
theorem dMd_reads_25 : decode cMd_reads 25 = .ok (.putfield 60, 3) := by decide +kernel
theorem dMd_reads_28 : decode cMd_reads 28 = .ok (.iload_n 1, 1) := by decide +kernel
theorem dMd_reads_29 : decode cMd_reads 29 = .ok (.invokestatic 50, 3) := by decide +kernel
theorem dMd_reads_32 : decode cMd_reads 32 = .ok (.ireturn, 1) := by decide +kernel
theorem dMd_writes_0 : decode cMd_writes 0 = .ok (.aload_n 0, 1) := by decide +kernel
theorem dMd_writes_1 : decode cMd_writes 1 = .ok (.iconst 0, 1) := by decide +kernel
theorem dMd_writes_2 : decode cMd_writes 2 = .ok (.putfield 47, 3) := by decide +kernel
theorem dMd_writes_5 : decode cMd_writes 5 = .ok (.iload_n 1, 1) := by decide +kernel
theorem dMd_writes_6 : decode cMd_writes 6 = .ok (.invokestatic 50, 3) := by decide +kernel
theorem dMd_writes_9 : decode cMd_writes 9 = .ok (.ifCond .ne 5, 3) := by decide +kernel
theorem dMd_writes_12 : decode cMd_writes 12 = .ok (.iconst 0, 1) := by decide +kernel
theorem dMd_writes_13 : decode cMd_writes 13 = .ok (.ireturn, 1) := by decide +kernel
theorem dMd_writes_14 : decode cMd_writes 14 = .ok (.aload_n 0, 1) := by decide +kernel
theorem dMd_writes_15 : decode cMd_writes 15 = .ok (.dup, 1) := by decide +kernel
theorem dMd_writes_16 : decode cMd_writes 16 = .ok (.getfield 63, 3) := by decide +kernel
theorem dMd_writes_19 : decode cMd_writes 19 = .ok (.iconst 1, 1) := by decide +kernel
theorem dMd_writes_20 : decode cMd_writes 20 = .ok (.iload_n 1, 1) := by decide +kernel
theorem dMd_writes_21 : decode cMd_writes 21 = .ok (.ishl, 1) := by decide +kernel
theorem dMd_writes_22 : decode cMd_writes 22 = .ok (.ior, 1) := by decide +kernel
theorem dMd_writes_23 : decode cMd_writes 23 = .ok (.putfield 63, 3) := by decide +kernel
theorem dMd_writes_26 : decode cMd_writes 26 = .ok (.aload_n 0, 1) := by decide +kernel
theorem dMd_writes_27 : decode cMd_writes 27 = .ok (.getfield 41, 3) := by decide +kernel
theorem dMd_writes_30 : decode cMd_writes 30 = .ok (.iload_n 1, 1) := by decide +kernel
theorem dMd_writes_31 : decode cMd_writes 31 = .ok (.iload_n 2, 1) := by decide +kernel
theorem dMd_writes_32 : decode cMd_writes 32 = .ok (.iastore, 1) := by decide +kernel
theorem dMd_writes_33 : decode cMd_writes 33 = .ok (.iconst 1, 1) := by decide +kernel
theorem dMd_writes_34 : decode cMd_writes 34 = .ok (.ireturn, 1) := by decide +kernel
theorem dMd_writtenSince_0 : decode cMd_writtenSince 0 = .ok (.iconst 0, 1) := by decide +kernel
theorem dMd_writtenSince_1 : decode cMd_writtenSince 1 = .ok (.istore_n 3, 1) := by decide +kernel
theorem dMd_writtenSince_2 : decode cMd_writtenSince 2 = .ok (.iload_n 2, 1) := by decide +kernel
theorem dMd_writtenSince_3 : decode cMd_writtenSince 3 = .ok (.ifCond .ge 7, 3) := by decide +kernel
theorem dMd_writtenSince_6 : decode cMd_writtenSince 6 = .ok (.iconst 1, 1) := by decide +kernel
theorem dMd_writtenSince_7 : decode cMd_writtenSince 7 = .ok (.goto 6, 3) := by decide +kernel
theorem dMd_writtenSince_10 : decode cMd_writtenSince 10 = .ok (.iload_n 2, 1) := by decide +kernel
theorem dMd_writtenSince_11 : decode cMd_writtenSince 11 = .ok (.iconst 1, 1) := by decide +kernel
theorem dMd_writtenSince_12 : decode cMd_writtenSince 12 = .ok (.iadd, 1) := by decide +kernel
theorem dMd_writtenSince_13 : decode cMd_writtenSince 13 = .ok (.istore 4, 2) := by decide +kernel
theorem dMd_writtenSince_15 : decode cMd_writtenSince 15 = .ok (.iload 4, 2) := by decide +kernel
theorem dMd_writtenSince_17 : decode cMd_writtenSince 17 = .ok (.aload_n 0, 1) := by decide +kernel
theorem dMd_writtenSince_18 : decode cMd_writtenSince 18 = .ok (.getfield 7, 3) := by decide +kernel
theorem dMd_writtenSince_21 : decode cMd_writtenSince 21 = .ok (.iload_n 1, 1) := by decide +kernel
theorem dMd_writtenSince_22 : decode cMd_writtenSince 22 = .ok (.iaload, 1) := by decide +kernel
theorem dMd_writtenSince_23 : decode cMd_writtenSince 23 = .ok (.if_icmp .gt 27, 3) := by decide +kernel
theorem dMd_writtenSince_26 : decode cMd_writtenSince 26 = .ok (.iload_n 3, 1) := by decide +kernel
theorem dMd_writtenSince_27 : decode cMd_writtenSince 27 = .ok (.aload_n 0, 1) := by decide +kernel
theorem dMd_writtenSince_28 : decode cMd_writtenSince 28 = .ok (.getfield 31, 3) := by decide +kernel
theorem dMd_writtenSince_31 : decode cMd_writtenSince 31 = .ok (.bipush 64, 2) := by decide +kernel
theorem dMd_writtenSince_33 : decode cMd_writtenSince 33 = .ok (.iload_n 1, 1) := by decide +kernel
theorem dMd_writtenSince_34 : decode cMd_writtenSince 34 = .ok (.imul, 1) := by decide +kernel
theorem dMd_writtenSince_35 : decode cMd_writtenSince 35 = .ok (.iload 4, 2) := by decide +kernel
theorem dMd_writtenSince_37 : decode cMd_writtenSince 37 = .ok (.bipush 64, 2) := by decide +kernel
theorem dMd_writtenSince_39 : decode cMd_writtenSince 39 = .ok (.irem, 1) := by decide +kernel
theorem dMd_writtenSince_40 : decode cMd_writtenSince 40 = .ok (.iadd, 1) := by decide +kernel
theorem dMd_writtenSince_41 : decode cMd_writtenSince 41 = .ok (.iaload, 1) := by decide +kernel
theorem dMd_writtenSince_42 : decode cMd_writtenSince 42 = .ok (.ior, 1) := by decide +kernel
theorem dMd_writtenSince_43 : decode cMd_writtenSince 43 = .ok (.istore_n 3, 1) := by decide +kernel
theorem dMd_writtenSince_44 : decode cMd_writtenSince 44 = .ok (.iinc 4 1, 3) := by decide +kernel
theorem dMd_writtenSince_47 : decode cMd_writtenSince 47 = .ok (.goto (-32), 3) := by decide +kernel
theorem dMd_writtenSince_50 : decode cMd_writtenSince 50 = .ok (.iload_n 3, 1) := by decide +kernel
theorem dMd_writtenSince_51 : decode cMd_writtenSince 51 = .ok (.ireturn, 1) := by decide +kernel
theorem dMd_decided_0 : decode cMd_decided 0 = .ok (.aload_n 0, 1) := by decide +kernel
theorem dMd_decided_1 : decode cMd_decided 1 = .ok (.getfield 7, 3) := by decide +kernel
theorem dMd_decided_4 : decode cMd_decided 4 = .ok (.iload_n 1, 1) := by decide +kernel
theorem dMd_decided_5 : decode cMd_decided 5 = .ok (.iaload, 1) := by decide +kernel
theorem dMd_decided_6 : decode cMd_decided 6 = .ok (.istore_n 2, 1) := by decide +kernel
theorem dMd_decided_7 : decode cMd_decided 7 = .ok (.iload_n 2, 1) := by decide +kernel
theorem dMd_decided_8 : decode cMd_decided 8 = .ok (.ldc 66, 2) := by decide +kernel
theorem dMd_decided_10 : decode cMd_decided 10 = .ok (.if_icmp .ge 11, 3) := by decide +kernel
theorem dMd_decided_13 : decode cMd_decided 13 = .ok (.aload_n 0, 1) := by decide +kernel
theorem dMd_decided_14 : decode cMd_decided 14 = .ok (.getfield 57, 3) := by decide +kernel
theorem dMd_decided_17 : decode cMd_decided 17 = .ok (.iload_n 2, 1) := by decide +kernel
theorem dMd_decided_18 : decode cMd_decided 18 = .ok (.if_icmp .le 5, 3) := by decide +kernel
theorem dMd_decided_21 : decode cMd_decided 21 = .ok (.iconst (-1), 1) := by decide +kernel
theorem dMd_decided_22 : decode cMd_decided 22 = .ok (.ireturn, 1) := by decide +kernel
theorem dMd_decided_23 : decode cMd_decided 23 = .ok (.aload_n 0, 1) := by decide +kernel
theorem dMd_decided_24 : decode cMd_decided 24 = .ok (.getfield 37, 3) := by decide +kernel
theorem dMd_decided_27 : decode cMd_decided 27 = .ok (.aload_n 0, 1) := by decide +kernel
theorem dMd_decided_28 : decode cMd_decided 28 = .ok (.getfield 25, 3) := by decide +kernel
theorem dMd_decided_31 : decode cMd_decided 31 = .ok (.bipush 16, 2) := by decide +kernel
theorem dMd_decided_33 : decode cMd_decided 33 = .ok (.iload_n 1, 1) := by decide +kernel
theorem dMd_decided_34 : decode cMd_decided 34 = .ok (.imul, 1) := by decide +kernel
theorem dMd_decided_35 : decode cMd_decided 35 = .ok (.aload_n 0, 1) := by decide +kernel
theorem dMd_decided_36 : decode cMd_decided 36 = .ok (.getfield 54, 3) := by decide +kernel
theorem dMd_decided_39 : decode cMd_decided 39 = .ok (.iadd, 1) := by decide +kernel
theorem dMd_decided_40 : decode cMd_decided 40 = .ok (.iaload, 1) := by decide +kernel
theorem dMd_decided_41 : decode cMd_decided 41 = .ok (.if_icmp .gt 5, 3) := by decide +kernel
theorem dMd_decided_44 : decode cMd_decided 44 = .ok (.iconst 0, 1) := by decide +kernel
theorem dMd_decided_45 : decode cMd_decided 45 = .ok (.ireturn, 1) := by decide +kernel
theorem dMd_decided_46 : decode cMd_decided 46 = .ok (.aload_n 0, 1) := by decide +kernel
theorem dMd_decided_47 : decode cMd_decided 47 = .ok (.getfield 57, 3) := by decide +kernel
theorem dMd_decided_50 : decode cMd_decided 50 = .ok (.iload_n 2, 1) := by decide +kernel
theorem dMd_decided_51 : decode cMd_decided 51 = .ok (.aload_n 0, 1) := by decide +kernel
theorem dMd_decided_52 : decode cMd_decided 52 = .ok (.getfield 44, 3) := by decide +kernel
theorem dMd_decided_55 : decode cMd_decided 55 = .ok (.isub, 1) := by decide +kernel
theorem dMd_decided_56 : decode cMd_decided 56 = .ok (.if_icmp .lt 20, 3) := by decide +kernel
theorem dMd_decided_59 : decode cMd_decided 59 = .ok (.aload_n 0, 1) := by decide +kernel
theorem dMd_decided_60 : decode cMd_decided 60 = .ok (.iload_n 1, 1) := by decide +kernel
theorem dMd_decided_61 : decode cMd_decided 61 = .ok (.aload_n 0, 1) := by decide +kernel
theorem dMd_decided_62 : decode cMd_decided 62 = .ok (.getfield 57, 3) := by decide +kernel
theorem dMd_decided_65 : decode cMd_decided 65 = .ok (.invokevirtual 67, 3) := by decide +kernel
theorem dMd_decided_68 : decode cMd_decided 68 = .ok (.aload_n 0, 1) := by decide +kernel
theorem dMd_decided_69 : decode cMd_decided 69 = .ok (.getfield 60, 3) := by decide +kernel
theorem dMd_decided_72 : decode cMd_decided 72 = .ok (.iand, 1) := by decide +kernel
theorem dMd_decided_73 : decode cMd_decided 73 = .ok (.ifCond .eq 7, 3) := by decide +kernel
theorem dMd_decided_76 : decode cMd_decided 76 = .ok (.iconst 2, 1) := by decide +kernel
theorem dMd_decided_77 : decode cMd_decided 77 = .ok (.goto 4, 3) := by decide +kernel
theorem dMd_decided_80 : decode cMd_decided 80 = .ok (.iconst 1, 1) := by decide +kernel
theorem dMd_decided_81 : decode cMd_decided 81 = .ok (.ireturn, 1) := by decide +kernel
theorem dMd_test_0 : decode cMd_test 0 = .ok (.aload_n 0, 1) := by decide +kernel
theorem dMd_test_1 : decode cMd_test 1 = .ok (.iload_n 1, 1) := by decide +kernel
theorem dMd_test_2 : decode cMd_test 2 = .ok (.invokevirtual 71, 3) := by decide +kernel
theorem dMd_test_5 : decode cMd_test 5 = .ok (.ifCond .eq 7, 3) := by decide +kernel
theorem dMd_test_8 : decode cMd_test 8 = .ok (.iconst 0, 1) := by decide +kernel
theorem dMd_test_9 : decode cMd_test 9 = .ok (.goto 8, 3) := by decide +kernel
theorem dMd_test_12 : decode cMd_test 12 = .ok (.aload_n 0, 1) := by decide +kernel
theorem dMd_test_13 : decode cMd_test 13 = .ok (.iload_n 1, 1) := by decide +kernel
theorem dMd_test_14 : decode cMd_test 14 = .ok (.invokevirtual 74, 3) := by decide +kernel
theorem dMd_test_17 : decode cMd_test 17 = .ok (.ireturn, 1) := by decide +kernel
theorem dMd_apply_0 : decode cMd_apply 0 = .ok (.aload_n 0, 1) := by decide +kernel
theorem dMd_apply_1 : decode cMd_apply 1 = .ok (.iload_n 1, 1) := by decide +kernel
theorem dMd_apply_2 : decode cMd_apply 2 = .ok (.invokevirtual 71, 3) := by decide +kernel
theorem dMd_apply_5 : decode cMd_apply 5 = .ok (.ifCond .eq 5, 3) := by decide +kernel
theorem dMd_apply_8 : decode cMd_apply 8 = .ok (.iconst 0, 1) := by decide +kernel
theorem dMd_apply_9 : decode cMd_apply 9 = .ok (.ireturn, 1) := by decide +kernel
theorem dMd_apply_10 : decode cMd_apply 10 = .ok (.aload_n 0, 1) := by decide +kernel
theorem dMd_apply_11 : decode cMd_apply 11 = .ok (.iload_n 1, 1) := by decide +kernel
theorem dMd_apply_12 : decode cMd_apply 12 = .ok (.invokevirtual 74, 3) := by decide +kernel
theorem dMd_apply_15 : decode cMd_apply 15 = .ok (.istore_n 2, 1) := by decide +kernel
theorem dMd_apply_16 : decode cMd_apply 16 = .ok (.iload_n 2, 1) := by decide +kernel
theorem dMd_apply_17 : decode cMd_apply 17 = .ok (.ifCond .ge 5, 3) := by decide +kernel
theorem dMd_apply_20 : decode cMd_apply 20 = .ok (.iconst (-1), 1) := by decide +kernel
theorem dMd_apply_21 : decode cMd_apply 21 = .ok (.ireturn, 1) := by decide +kernel
theorem dMd_apply_22 : decode cMd_apply 22 = .ok (.aload_n 0, 1) := by decide +kernel
theorem dMd_apply_23 : decode cMd_apply 23 = .ok (.getfield 7, 3) := by decide +kernel
theorem dMd_apply_26 : decode cMd_apply 26 = .ok (.iload_n 1, 1) := by decide +kernel
theorem dMd_apply_27 : decode cMd_apply 27 = .ok (.dup2, 1) := by decide +kernel
theorem dMd_apply_28 : decode cMd_apply 28 = .ok (.iaload, 1) := by decide +kernel
theorem dMd_apply_29 : decode cMd_apply 29 = .ok (.iconst 1, 1) := by decide +kernel
theorem dMd_apply_30 : decode cMd_apply 30 = .ok (.iadd, 1) := by decide +kernel
theorem dMd_apply_31 : decode cMd_apply 31 = .ok (.iastore, 1) := by decide +kernel
theorem dMd_apply_32 : decode cMd_apply 32 = .ok (.aload_n 0, 1) := by decide +kernel
theorem dMd_apply_33 : decode cMd_apply 33 = .ok (.getfield 7, 3) := by decide +kernel
theorem dMd_apply_36 : decode cMd_apply 36 = .ok (.iload_n 1, 1) := by decide +kernel
theorem dMd_apply_37 : decode cMd_apply 37 = .ok (.iaload, 1) := by decide +kernel
theorem dMd_apply_38 : decode cMd_apply 38 = .ok (.istore_n 3, 1) := by decide +kernel
theorem dMd_apply_39 : decode cMd_apply 39 = .ok (.bipush 64, 2) := by decide +kernel
theorem dMd_apply_41 : decode cMd_apply 41 = .ok (.iload_n 1, 1) := by decide +kernel
theorem dMd_apply_42 : decode cMd_apply 42 = .ok (.imul, 1) := by decide +kernel
theorem dMd_apply_43 : decode cMd_apply 43 = .ok (.iload_n 3, 1) := by decide +kernel
theorem dMd_apply_44 : decode cMd_apply 44 = .ok (.bipush 64, 2) := by decide +kernel
theorem dMd_apply_46 : decode cMd_apply 46 = .ok (.irem, 1) := by decide +kernel
theorem dMd_apply_47 : decode cMd_apply 47 = .ok (.iadd, 1) := by decide +kernel
theorem dMd_apply_48 : decode cMd_apply 48 = .ok (.istore 4, 2) := by decide +kernel
theorem dMd_apply_50 : decode cMd_apply 50 = .ok (.bipush 64, 2) := by decide +kernel
theorem dMd_apply_52 : decode cMd_apply 52 = .ok (.iload_n 1, 1) := by decide +kernel
theorem dMd_apply_53 : decode cMd_apply 53 = .ok (.imul, 1) := by decide +kernel
theorem dMd_apply_54 : decode cMd_apply 54 = .ok (.iload_n 3, 1) := by decide +kernel
theorem dMd_apply_55 : decode cMd_apply 55 = .ok (.iconst 1, 1) := by decide +kernel
theorem dMd_apply_56 : decode cMd_apply 56 = .ok (.isub, 1) := by decide +kernel
theorem dMd_apply_57 : decode cMd_apply 57 = .ok (.bipush 64, 2) := by decide +kernel
theorem dMd_apply_59 : decode cMd_apply 59 = .ok (.irem, 1) := by decide +kernel
theorem dMd_apply_60 : decode cMd_apply 60 = .ok (.iadd, 1) := by decide +kernel
theorem dMd_apply_61 : decode cMd_apply 61 = .ok (.istore 5, 2) := by decide +kernel
theorem dMd_apply_63 : decode cMd_apply 63 = .ok (.aload_n 0, 1) := by decide +kernel
theorem dMd_apply_64 : decode cMd_apply 64 = .ok (.getfield 31, 3) := by decide +kernel
theorem dMd_apply_67 : decode cMd_apply 67 = .ok (.iload 4, 2) := by decide +kernel
theorem dMd_apply_69 : decode cMd_apply 69 = .ok (.iload_n 2, 1) := by decide +kernel
theorem dMd_apply_70 : decode cMd_apply 70 = .ok (.iconst 1, 1) := by decide +kernel
theorem dMd_apply_71 : decode cMd_apply 71 = .ok (.if_icmp .ne 10, 3) := by decide +kernel
theorem dMd_apply_74 : decode cMd_apply 74 = .ok (.aload_n 0, 1) := by decide +kernel
theorem dMd_apply_75 : decode cMd_apply 75 = .ok (.getfield 63, 3) := by decide +kernel
theorem dMd_apply_78 : decode cMd_apply 78 = .ok (.goto 4, 3) := by decide +kernel
theorem dMd_apply_81 : decode cMd_apply 81 = .ok (.iconst 0, 1) := by decide +kernel
theorem dMd_apply_82 : decode cMd_apply 82 = .ok (.iastore, 1) := by decide +kernel
theorem dMd_apply_83 : decode cMd_apply 83 = .ok (.iconst 0, 1) := by decide +kernel
theorem dMd_apply_84 : decode cMd_apply 84 = .ok (.istore 6, 2) := by decide +kernel
theorem dMd_apply_86 : decode cMd_apply 86 = .ok (.iload 6, 2) := by decide +kernel
theorem dMd_apply_88 : decode cMd_apply 88 = .ok (.bipush 16, 2) := by decide +kernel
theorem dMd_apply_90 : decode cMd_apply 90 = .ok (.if_icmp .ge 75, 3) := by decide +kernel
theorem dMd_apply_93 : decode cMd_apply 93 = .ok (.iload_n 2, 1) := by decide +kernel
theorem dMd_apply_94 : decode cMd_apply 94 = .ok (.iconst 1, 1) := by decide +kernel
theorem dMd_apply_95 : decode cMd_apply 95 = .ok (.if_icmp .ne 20, 3) := by decide +kernel
theorem dMd_apply_98 : decode cMd_apply 98 = .ok (.aload_n 0, 1) := by decide +kernel
theorem dMd_apply_99 : decode cMd_apply 99 = .ok (.getfield 63, 3) := by decide +kernel
theorem dMd_apply_102 : decode cMd_apply 102 = .ok (.iload 6, 2) := by decide +kernel
theorem dMd_apply_104 : decode cMd_apply 104 = .ok (.ishr, 1) := by decide +kernel
theorem dMd_apply_105 : decode cMd_apply 105 = .ok (.iconst 1, 1) := by decide +kernel
theorem dMd_apply_106 : decode cMd_apply 106 = .ok (.iand, 1) := by decide +kernel
theorem dMd_apply_107 : decode cMd_apply 107 = .ok (.iconst 1, 1) := by decide +kernel
theorem dMd_apply_108 : decode cMd_apply 108 = .ok (.if_icmp .ne 7, 3) := by decide +kernel
theorem dMd_apply_111 : decode cMd_apply 111 = .ok (.iconst 1, 1) := by decide +kernel
theorem dMd_apply_112 : decode cMd_apply 112 = .ok (.goto 4, 3) := by decide +kernel
theorem dMd_apply_115 : decode cMd_apply 115 = .ok (.iconst 0, 1) := by decide +kernel
theorem dMd_apply_116 : decode cMd_apply 116 = .ok (.istore 7, 2) := by decide +kernel
theorem dMd_apply_118 : decode cMd_apply 118 = .ok (.aload_n 0, 1) := by decide +kernel
theorem dMd_apply_119 : decode cMd_apply 119 = .ok (.getfield 34, 3) := by decide +kernel
theorem dMd_apply_122 : decode cMd_apply 122 = .ok (.bipush 16, 2) := by decide +kernel
theorem dMd_apply_124 : decode cMd_apply 124 = .ok (.iload 4, 2) := by decide +kernel
theorem dMd_apply_126 : decode cMd_apply 126 = .ok (.imul, 1) := by decide +kernel
theorem dMd_apply_127 : decode cMd_apply 127 = .ok (.iload 6, 2) := by decide +kernel
theorem dMd_apply_129 : decode cMd_apply 129 = .ok (.iadd, 1) := by decide +kernel
theorem dMd_apply_130 : decode cMd_apply 130 = .ok (.iload 7, 2) := by decide +kernel
theorem dMd_apply_132 : decode cMd_apply 132 = .ok (.ifCond .eq 13, 3) := by decide +kernel
theorem dMd_apply_135 : decode cMd_apply 135 = .ok (.aload_n 0, 1) := by decide +kernel
theorem dMd_apply_136 : decode cMd_apply 136 = .ok (.getfield 41, 3) := by decide +kernel
theorem dMd_apply_139 : decode cMd_apply 139 = .ok (.iload 6, 2) := by decide +kernel
theorem dMd_apply_141 : decode cMd_apply 141 = .ok (.iaload, 1) := by decide +kernel
theorem dMd_apply_142 : decode cMd_apply 142 = .ok (.goto 16, 3) := by decide +kernel
theorem dMd_apply_145 : decode cMd_apply 145 = .ok (.aload_n 0, 1) := by decide +kernel
theorem dMd_apply_146 : decode cMd_apply 146 = .ok (.getfield 34, 3) := by decide +kernel
theorem dMd_apply_149 : decode cMd_apply 149 = .ok (.bipush 16, 2) := by decide +kernel
theorem dMd_apply_151 : decode cMd_apply 151 = .ok (.iload 5, 2) := by decide +kernel
theorem dMd_apply_153 : decode cMd_apply 153 = .ok (.imul, 1) := by decide +kernel
theorem dMd_apply_154 : decode cMd_apply 154 = .ok (.iload 6, 2) := by decide +kernel
theorem dMd_apply_156 : decode cMd_apply 156 = .ok (.iadd, 1) := by decide +kernel
theorem dMd_apply_157 : decode cMd_apply 157 = .ok (.iaload, 1) := by decide +kernel
theorem dMd_apply_158 : decode cMd_apply 158 = .ok (.iastore, 1) := by decide +kernel
theorem dMd_apply_159 : decode cMd_apply 159 = .ok (.iinc 6 1, 3) := by decide +kernel
theorem dMd_apply_162 : decode cMd_apply 162 = .ok (.goto (-76), 3) := by decide +kernel
theorem dMd_apply_165 : decode cMd_apply 165 = .ok (.iload_n 2, 1) := by decide +kernel
theorem dMd_apply_166 : decode cMd_apply 166 = .ok (.ifCond .le 36, 3) := by decide +kernel
theorem dMd_apply_169 : decode cMd_apply 169 = .ok (.aload_n 0, 1) := by decide +kernel
theorem dMd_apply_170 : decode cMd_apply 170 = .ok (.getfield 25, 3) := by decide +kernel
theorem dMd_apply_173 : decode cMd_apply 173 = .ok (.bipush 16, 2) := by decide +kernel
theorem dMd_apply_175 : decode cMd_apply 175 = .ok (.iload_n 1, 1) := by decide +kernel
theorem dMd_apply_176 : decode cMd_apply 176 = .ok (.imul, 1) := by decide +kernel
theorem dMd_apply_177 : decode cMd_apply 177 = .ok (.aload_n 0, 1) := by decide +kernel
theorem dMd_apply_178 : decode cMd_apply 178 = .ok (.getfield 54, 3) := by decide +kernel
theorem dMd_apply_181 : decode cMd_apply 181 = .ok (.iadd, 1) := by decide +kernel
theorem dMd_apply_182 : decode cMd_apply 182 = .ok (.aload_n 0, 1) := by decide +kernel
theorem dMd_apply_183 : decode cMd_apply 183 = .ok (.getfield 37, 3) := by decide +kernel
theorem dMd_apply_186 : decode cMd_apply 186 = .ok (.iastore, 1) := by decide +kernel
theorem dMd_apply_187 : decode cMd_apply 187 = .ok (.aload_n 0, 1) := by decide +kernel
theorem dMd_apply_188 : decode cMd_apply 188 = .ok (.getfield 28, 3) := by decide +kernel
theorem dMd_apply_191 : decode cMd_apply 191 = .ok (.bipush 16, 2) := by decide +kernel
theorem dMd_apply_193 : decode cMd_apply 193 = .ok (.iload_n 1, 1) := by decide +kernel
theorem dMd_apply_194 : decode cMd_apply 194 = .ok (.imul, 1) := by decide +kernel
theorem dMd_apply_195 : decode cMd_apply 195 = .ok (.aload_n 0, 1) := by decide +kernel
theorem dMd_apply_196 : decode cMd_apply 196 = .ok (.getfield 54, 3) := by decide +kernel
theorem dMd_apply_199 : decode cMd_apply 199 = .ok (.iadd, 1) := by decide +kernel
theorem dMd_apply_200 : decode cMd_apply 200 = .ok (.iload_n 2, 1) := by decide +kernel
theorem dMd_apply_201 : decode cMd_apply 201 = .ok (.iastore, 1) := by decide +kernel
theorem dMd_apply_202 : decode cMd_apply 202 = .ok (.aload_n 0, 1) := by decide +kernel
theorem dMd_apply_203 : decode cMd_apply 203 = .ok (.getfield 16, 3) := by decide +kernel
theorem dMd_apply_206 : decode cMd_apply 206 = .ok (.iload_n 1, 1) := by decide +kernel
theorem dMd_apply_207 : decode cMd_apply 207 = .ok (.dup2, 1) := by decide +kernel
theorem dMd_apply_208 : decode cMd_apply 208 = .ok (.iaload, 1) := by decide +kernel
theorem dMd_apply_209 : decode cMd_apply 209 = .ok (.iload_n 2, 1) := by decide +kernel
theorem dMd_apply_210 : decode cMd_apply 210 = .ok (.iconst 1, 1) := by decide +kernel
theorem dMd_apply_211 : decode cMd_apply 211 = .ok (.if_icmp .ne 7, 3) := by decide +kernel
theorem dMd_apply_214 : decode cMd_apply 214 = .ok (.iconst 1, 1) := by decide +kernel
theorem dMd_apply_215 : decode cMd_apply 215 = .ok (.goto 4, 3) := by decide +kernel
theorem dMd_apply_218 : decode cMd_apply 218 = .ok (.iconst 0, 1) := by decide +kernel
theorem dMd_apply_219 : decode cMd_apply 219 = .ok (.iadd, 1) := by decide +kernel
theorem dMd_apply_220 : decode cMd_apply 220 = .ok (.iastore, 1) := by decide +kernel
theorem dMd_apply_221 : decode cMd_apply 221 = .ok (.aload_n 0, 1) := by decide +kernel
theorem dMd_apply_222 : decode cMd_apply 222 = .ok (.getfield 19, 3) := by decide +kernel
theorem dMd_apply_225 : decode cMd_apply 225 = .ok (.iload_n 1, 1) := by decide +kernel
theorem dMd_apply_226 : decode cMd_apply 226 = .ok (.dup2, 1) := by decide +kernel
theorem dMd_apply_227 : decode cMd_apply 227 = .ok (.iaload, 1) := by decide +kernel
theorem dMd_apply_228 : decode cMd_apply 228 = .ok (.iload_n 2, 1) := by decide +kernel
theorem dMd_apply_229 : decode cMd_apply 229 = .ok (.iconst 2, 1) := by decide +kernel
theorem dMd_apply_230 : decode cMd_apply 230 = .ok (.if_icmp .ne 7, 3) := by decide +kernel
theorem dMd_apply_233 : decode cMd_apply 233 = .ok (.iconst 1, 1) := by decide +kernel
theorem dMd_apply_234 : decode cMd_apply 234 = .ok (.goto 4, 3) := by decide +kernel
theorem dMd_apply_237 : decode cMd_apply 237 = .ok (.iconst 0, 1) := by decide +kernel
theorem dMd_apply_238 : decode cMd_apply 238 = .ok (.iadd, 1) := by decide +kernel
theorem dMd_apply_239 : decode cMd_apply 239 = .ok (.iastore, 1) := by decide +kernel
theorem dMd_apply_240 : decode cMd_apply 240 = .ok (.aload_n 0, 1) := by decide +kernel
theorem dMd_apply_241 : decode cMd_apply 241 = .ok (.getfield 22, 3) := by decide +kernel
theorem dMd_apply_244 : decode cMd_apply 244 = .ok (.iload_n 1, 1) := by decide +kernel
theorem dMd_apply_245 : decode cMd_apply 245 = .ok (.dup2, 1) := by decide +kernel
theorem dMd_apply_246 : decode cMd_apply 246 = .ok (.iaload, 1) := by decide +kernel
theorem dMd_apply_247 : decode cMd_apply 247 = .ok (.iload_n 2, 1) := by decide +kernel
theorem dMd_apply_248 : decode cMd_apply 248 = .ok (.ifCond .ne 7, 3) := by decide +kernel
theorem dMd_apply_251 : decode cMd_apply 251 = .ok (.iconst 1, 1) := by decide +kernel
theorem dMd_apply_252 : decode cMd_apply 252 = .ok (.goto 4, 3) := by decide +kernel
theorem dMd_apply_255 : decode cMd_apply 255 = .ok (.iconst 0, 1) := by decide +kernel
theorem dMd_apply_256 : decode cMd_apply 256 = .ok (.iadd, 1) := by decide +kernel
theorem dMd_apply_257 : decode cMd_apply 257 = .ok (.iastore, 1) := by decide +kernel
theorem dMd_apply_258 : decode cMd_apply 258 = .ok (.aload_n 0, 1) := by decide +kernel
theorem dMd_apply_259 : decode cMd_apply 259 = .ok (.getfield 13, 3) := by decide +kernel
theorem dMd_apply_262 : decode cMd_apply 262 = .ok (.iload_n 1, 1) := by decide +kernel
theorem dMd_apply_263 : decode cMd_apply 263 = .ok (.aload_n 0, 1) := by decide +kernel
theorem dMd_apply_264 : decode cMd_apply 264 = .ok (.getfield 13, 3) := by decide +kernel
theorem dMd_apply_267 : decode cMd_apply 267 = .ok (.iload_n 1, 1) := by decide +kernel
theorem dMd_apply_268 : decode cMd_apply 268 = .ok (.iaload, 1) := by decide +kernel
theorem dMd_apply_269 : decode cMd_apply 269 = .ok (.iload_n 3, 1) := by decide +kernel
theorem dMd_apply_270 : decode cMd_apply 270 = .ok (.aload_n 0, 1) := by decide +kernel
theorem dMd_apply_271 : decode cMd_apply 271 = .ok (.getfield 44, 3) := by decide +kernel
theorem dMd_apply_274 : decode cMd_apply 274 = .ok (.isub, 1) := by decide +kernel
theorem dMd_apply_275 : decode cMd_apply 275 = .ok (.if_icmp .ge 12, 3) := by decide +kernel
theorem dMd_apply_278 : decode cMd_apply 278 = .ok (.iload_n 3, 1) := by decide +kernel
theorem dMd_apply_279 : decode cMd_apply 279 = .ok (.aload_n 0, 1) := by decide +kernel
theorem dMd_apply_280 : decode cMd_apply 280 = .ok (.getfield 44, 3) := by decide +kernel
theorem dMd_apply_283 : decode cMd_apply 283 = .ok (.isub, 1) := by decide +kernel
theorem dMd_apply_284 : decode cMd_apply 284 = .ok (.goto 9, 3) := by decide +kernel
theorem dMd_apply_287 : decode cMd_apply 287 = .ok (.aload_n 0, 1) := by decide +kernel
theorem dMd_apply_288 : decode cMd_apply 288 = .ok (.getfield 13, 3) := by decide +kernel
theorem dMd_apply_291 : decode cMd_apply 291 = .ok (.iload_n 1, 1) := by decide +kernel
theorem dMd_apply_292 : decode cMd_apply 292 = .ok (.iaload, 1) := by decide +kernel
theorem dMd_apply_293 : decode cMd_apply 293 = .ok (.iastore, 1) := by decide +kernel
theorem dMd_apply_294 : decode cMd_apply 294 = .ok (.iload_n 2, 1) := by decide +kernel
theorem dMd_apply_295 : decode cMd_apply 295 = .ok (.ireturn, 1) := by decide +kernel
theorem dMd_take_0 : decode cMd_take 0 = .ok (.aload_n 0, 1) := by decide +kernel
theorem dMd_take_1 : decode cMd_take 1 = .ok (.iload_n 1, 1) := by decide +kernel
theorem dMd_take_2 : decode cMd_take 2 = .ok (.invokevirtual 71, 3) := by decide +kernel
theorem dMd_take_5 : decode cMd_take 5 = .ok (.ifCond .ne 26, 3) := by decide +kernel
theorem dMd_take_8 : decode cMd_take 8 = .ok (.aload_n 0, 1) := by decide +kernel
theorem dMd_take_9 : decode cMd_take 9 = .ok (.iload_n 2, 1) := by decide +kernel
theorem dMd_take_10 : decode cMd_take 10 = .ok (.invokevirtual 71, 3) := by decide +kernel
theorem dMd_take_13 : decode cMd_take 13 = .ok (.ifCond .ne 18, 3) := by decide +kernel
theorem dMd_take_16 : decode cMd_take 16 = .ok (.aload_n 0, 1) := by decide +kernel
theorem dMd_take_17 : decode cMd_take 17 = .ok (.getfield 7, 3) := by decide +kernel
theorem dMd_take_20 : decode cMd_take 20 = .ok (.iload_n 1, 1) := by decide +kernel
theorem dMd_take_21 : decode cMd_take 21 = .ok (.iaload, 1) := by decide +kernel
theorem dMd_take_22 : decode cMd_take 22 = .ok (.aload_n 0, 1) := by decide +kernel
theorem dMd_take_23 : decode cMd_take 23 = .ok (.getfield 7, 3) := by decide +kernel
theorem dMd_take_26 : decode cMd_take 26 = .ok (.iload_n 2, 1) := by decide +kernel
theorem dMd_take_27 : decode cMd_take 27 = .ok (.iaload, 1) := by decide +kernel
theorem dMd_take_28 : decode cMd_take 28 = .ok (.if_icmp .gt 5, 3) := by decide +kernel
theorem dMd_take_31 : decode cMd_take 31 = .ok (.iconst 0, 1) := by decide +kernel
theorem dMd_take_32 : decode cMd_take 32 = .ok (.ireturn, 1) := by decide +kernel
theorem dMd_take_33 : decode cMd_take 33 = .ok (.aload_n 0, 1) := by decide +kernel
theorem dMd_take_34 : decode cMd_take 34 = .ok (.getfield 7, 3) := by decide +kernel
theorem dMd_take_37 : decode cMd_take 37 = .ok (.iload_n 2, 1) := by decide +kernel
theorem dMd_take_38 : decode cMd_take 38 = .ok (.aload_n 0, 1) := by decide +kernel
theorem dMd_take_39 : decode cMd_take 39 = .ok (.getfield 7, 3) := by decide +kernel
theorem dMd_take_42 : decode cMd_take 42 = .ok (.iload_n 1, 1) := by decide +kernel
theorem dMd_take_43 : decode cMd_take 43 = .ok (.iaload, 1) := by decide +kernel
theorem dMd_take_44 : decode cMd_take 44 = .ok (.iastore, 1) := by decide +kernel
theorem dMd_take_45 : decode cMd_take 45 = .ok (.aload_n 0, 1) := by decide +kernel
theorem dMd_take_46 : decode cMd_take 46 = .ok (.getfield 13, 3) := by decide +kernel
theorem dMd_take_49 : decode cMd_take 49 = .ok (.iload_n 2, 1) := by decide +kernel
theorem dMd_take_50 : decode cMd_take 50 = .ok (.aload_n 0, 1) := by decide +kernel
theorem dMd_take_51 : decode cMd_take 51 = .ok (.getfield 7, 3) := by decide +kernel
theorem dMd_take_54 : decode cMd_take 54 = .ok (.iload_n 1, 1) := by decide +kernel
theorem dMd_take_55 : decode cMd_take 55 = .ok (.iaload, 1) := by decide +kernel
theorem dMd_take_56 : decode cMd_take 56 = .ok (.iastore, 1) := by decide +kernel
theorem dMd_take_57 : decode cMd_take 57 = .ok (.aload_n 0, 1) := by decide +kernel
theorem dMd_take_58 : decode cMd_take 58 = .ok (.getfield 16, 3) := by decide +kernel
theorem dMd_take_61 : decode cMd_take 61 = .ok (.iload_n 2, 1) := by decide +kernel
theorem dMd_take_62 : decode cMd_take 62 = .ok (.aload_n 0, 1) := by decide +kernel
theorem dMd_take_63 : decode cMd_take 63 = .ok (.getfield 16, 3) := by decide +kernel
theorem dMd_take_66 : decode cMd_take 66 = .ok (.iload_n 1, 1) := by decide +kernel
theorem dMd_take_67 : decode cMd_take 67 = .ok (.iaload, 1) := by decide +kernel
theorem dMd_take_68 : decode cMd_take 68 = .ok (.iastore, 1) := by decide +kernel
theorem dMd_take_69 : decode cMd_take 69 = .ok (.aload_n 0, 1) := by decide +kernel
theorem dMd_take_70 : decode cMd_take 70 = .ok (.getfield 19, 3) := by decide +kernel
theorem dMd_take_73 : decode cMd_take 73 = .ok (.iload_n 2, 1) := by decide +kernel
theorem dMd_take_74 : decode cMd_take 74 = .ok (.aload_n 0, 1) := by decide +kernel
theorem dMd_take_75 : decode cMd_take 75 = .ok (.getfield 19, 3) := by decide +kernel
theorem dMd_take_78 : decode cMd_take 78 = .ok (.iload_n 1, 1) := by decide +kernel
theorem dMd_take_79 : decode cMd_take 79 = .ok (.iaload, 1) := by decide +kernel
theorem dMd_take_80 : decode cMd_take 80 = .ok (.iastore, 1) := by decide +kernel
theorem dMd_take_81 : decode cMd_take 81 = .ok (.aload_n 0, 1) := by decide +kernel
theorem dMd_take_82 : decode cMd_take 82 = .ok (.getfield 22, 3) := by decide +kernel
theorem dMd_take_85 : decode cMd_take 85 = .ok (.iload_n 2, 1) := by decide +kernel
theorem dMd_take_86 : decode cMd_take 86 = .ok (.aload_n 0, 1) := by decide +kernel
theorem dMd_take_87 : decode cMd_take 87 = .ok (.getfield 22, 3) := by decide +kernel
theorem dMd_take_90 : decode cMd_take 90 = .ok (.iload_n 1, 1) := by decide +kernel
theorem dMd_take_91 : decode cMd_take 91 = .ok (.iaload, 1) := by decide +kernel
theorem dMd_take_92 : decode cMd_take 92 = .ok (.iastore, 1) := by decide +kernel
theorem dMd_take_93 : decode cMd_take 93 = .ok (.iconst 0, 1) := by decide +kernel
theorem dMd_take_94 : decode cMd_take 94 = .ok (.istore_n 3, 1) := by decide +kernel
theorem dMd_take_95 : decode cMd_take 95 = .ok (.iload_n 3, 1) := by decide +kernel
theorem dMd_take_96 : decode cMd_take 96 = .ok (.bipush 16, 2) := by decide +kernel
theorem dMd_take_98 : decode cMd_take 98 = .ok (.if_icmp .ge 53, 3) := by decide +kernel
theorem dMd_take_101 : decode cMd_take 101 = .ok (.aload_n 0, 1) := by decide +kernel
theorem dMd_take_102 : decode cMd_take 102 = .ok (.getfield 25, 3) := by decide +kernel
theorem dMd_take_105 : decode cMd_take 105 = .ok (.bipush 16, 2) := by decide +kernel
theorem dMd_take_107 : decode cMd_take 107 = .ok (.iload_n 2, 1) := by decide +kernel
theorem dMd_take_108 : decode cMd_take 108 = .ok (.imul, 1) := by decide +kernel
theorem dMd_take_109 : decode cMd_take 109 = .ok (.iload_n 3, 1) := by decide +kernel
theorem dMd_take_110 : decode cMd_take 110 = .ok (.iadd, 1) := by decide +kernel
theorem dMd_take_111 : decode cMd_take 111 = .ok (.aload_n 0, 1) := by decide +kernel
theorem dMd_take_112 : decode cMd_take 112 = .ok (.getfield 25, 3) := by decide +kernel
theorem dMd_take_115 : decode cMd_take 115 = .ok (.bipush 16, 2) := by decide +kernel
theorem dMd_take_117 : decode cMd_take 117 = .ok (.iload_n 1, 1) := by decide +kernel
theorem dMd_take_118 : decode cMd_take 118 = .ok (.imul, 1) := by decide +kernel
theorem dMd_take_119 : decode cMd_take 119 = .ok (.iload_n 3, 1) := by decide +kernel
theorem dMd_take_120 : decode cMd_take 120 = .ok (.iadd, 1) := by decide +kernel
theorem dMd_take_121 : decode cMd_take 121 = .ok (.iaload, 1) := by decide +kernel
theorem dMd_take_122 : decode cMd_take 122 = .ok (.iastore, 1) := by decide +kernel
theorem dMd_take_123 : decode cMd_take 123 = .ok (.aload_n 0, 1) := by decide +kernel
theorem dMd_take_124 : decode cMd_take 124 = .ok (.getfield 28, 3) := by decide +kernel
theorem dMd_take_127 : decode cMd_take 127 = .ok (.bipush 16, 2) := by decide +kernel
theorem dMd_take_129 : decode cMd_take 129 = .ok (.iload_n 2, 1) := by decide +kernel
theorem dMd_take_130 : decode cMd_take 130 = .ok (.imul, 1) := by decide +kernel
theorem dMd_take_131 : decode cMd_take 131 = .ok (.iload_n 3, 1) := by decide +kernel
theorem dMd_take_132 : decode cMd_take 132 = .ok (.iadd, 1) := by decide +kernel
theorem dMd_take_133 : decode cMd_take 133 = .ok (.aload_n 0, 1) := by decide +kernel
theorem dMd_take_134 : decode cMd_take 134 = .ok (.getfield 28, 3) := by decide +kernel
theorem dMd_take_137 : decode cMd_take 137 = .ok (.bipush 16, 2) := by decide +kernel
theorem dMd_take_139 : decode cMd_take 139 = .ok (.iload_n 1, 1) := by decide +kernel
theorem dMd_take_140 : decode cMd_take 140 = .ok (.imul, 1) := by decide +kernel
theorem dMd_take_141 : decode cMd_take 141 = .ok (.iload_n 3, 1) := by decide +kernel
theorem dMd_take_142 : decode cMd_take 142 = .ok (.iadd, 1) := by decide +kernel
theorem dMd_take_143 : decode cMd_take 143 = .ok (.iaload, 1) := by decide +kernel
theorem dMd_take_144 : decode cMd_take 144 = .ok (.iastore, 1) := by decide +kernel
theorem dMd_take_145 : decode cMd_take 145 = .ok (.iinc 3 1, 3) := by decide +kernel
theorem dMd_take_148 : decode cMd_take 148 = .ok (.goto (-53), 3) := by decide +kernel
theorem dMd_take_151 : decode cMd_take 151 = .ok (.iconst 0, 1) := by decide +kernel
theorem dMd_take_152 : decode cMd_take 152 = .ok (.istore_n 3, 1) := by decide +kernel
theorem dMd_take_153 : decode cMd_take 153 = .ok (.iload_n 3, 1) := by decide +kernel
theorem dMd_take_154 : decode cMd_take 154 = .ok (.bipush 64, 2) := by decide +kernel
