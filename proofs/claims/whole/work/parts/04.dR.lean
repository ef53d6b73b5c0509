theorem dRq_init_0 : decode cRq_init 0 = .ok (.aload_n 0, 1) := by decide +kernel
theorem dRq_init_1 : decode cRq_init 1 = .ok (.invokespecial 3, 3) := by decide +kernel
theorem dRq_init_4 : decode cRq_init 4 = .ok (.aload_n 0, 1) := by decide +kernel
theorem dRq_init_5 : decode cRq_init 5 = .ok (.iconst 0, 1) := by decide +kernel
theorem dRq_init_6 : decode cRq_init 6 = .ok (.putfield 9, 3) := by decide +kernel
theorem dRq_init_9 : decode cRq_init 9 = .ok (.aload_n 0, 1) := by decide +kernel
theorem dRq_init_10 : decode cRq_init 10 = .ok (.iconst 1, 1) := by decide +kernel
theorem dRq_init_11 : decode cRq_init 11 = .ok (.putfield 15, 3) := by decide +kernel
theorem dRq_init_14 : decode cRq_init 14 = .ok (.aload_n 0, 1) := by decide +kernel
theorem dRq_init_15 : decode cRq_init 15 = .ok (.iconst 0, 1) := by decide +kernel
theorem dRq_init_16 : decode cRq_init 16 = .ok (.putfield 18, 3) := by decide +kernel
theorem dRq_init_19 : decode cRq_init 19 = .ok (.aload_n 0, 1) := by decide +kernel
theorem dRq_init_20 : decode cRq_init 20 = .ok (.iconst 0, 1) := by decide +kernel
theorem dRq_init_21 : decode cRq_init 21 = .ok (.putfield 21, 3) := by decide +kernel
theorem dRq_init_24 : decode cRq_init 24 = .ok (.aload_n 0, 1) := by decide +kernel
theorem dRq_init_25 : decode cRq_init 25 = .ok (.iconst 0, 1) := by decide +kernel
theorem dRq_init_26 : decode cRq_init 26 = .ok (.putfield 24, 3) := by decide +kernel
theorem dRq_init_29 : decode cRq_init 29 = .ok (.aload_n 0, 1) := by decide +kernel
theorem dRq_init_30 : decode cRq_init 30 = .ok (.bipush 16, 2) := by decide +kernel
theorem dRq_init_32 : decode cRq_init 32 = .ok (.newarray .int, 2) := by decide +kernel
theorem dRq_init_34 : decode cRq_init 34 = .ok (.putfield 27, 3) := by decide +kernel
theorem dRq_init_37 : decode cRq_init 37 = .ok (.return_, 1) := by decide +kernel
theorem dRq_begin_0 : decode cRq_begin 0 = .ok (.aload_n 0, 1) := by decide +kernel
theorem dRq_begin_1 : decode cRq_begin 1 = .ok (.iload_n 1, 1) := by decide +kernel
theorem dRq_begin_2 : decode cRq_begin 2 = .ok (.putfield 9, 3) := by decide +kernel
theorem dRq_begin_5 : decode cRq_begin 5 = .ok (.aload_n 0, 1) := by decide +kernel
theorem dRq_begin_6 : decode cRq_begin 6 = .ok (.iload_n 2, 1) := by decide +kernel
theorem dRq_begin_7 : decode cRq_begin 7 = .ok (.putfield 15, 3) := by decide +kernel
theorem dRq_begin_10 : decode cRq_begin 10 = .ok (.aload_n 0, 1) := by decide +kernel
theorem dRq_begin_11 : decode cRq_begin 11 = .ok (.iload_n 3, 1) := by decide +kernel
theorem dRq_begin_12 : decode cRq_begin 12 = .ok (.putfield 18, 3) := by decide +kernel
theorem dRq_begin_15 : decode cRq_begin 15 = .ok (.aload_n 0, 1) := by decide +kernel
theorem dRq_begin_16 : decode cRq_begin 16 = .ok (.iconst 0, 1) := by decide +kernel
theorem dRq_begin_17 : decode cRq_begin 17 = .ok (.putfield 21, 3) := by decide +kernel
theorem dRq_begin_20 : decode cRq_begin 20 = .ok (.aload_n 0, 1) := by decide +kernel
theorem dRq_begin_21 : decode cRq_begin 21 = .ok (.iconst 0, 1) := by decide +kernel
theorem dRq_begin_22 : decode cRq_begin 22 = .ok (.putfield 24, 3) := by decide +kernel
theorem dRq_begin_25 : decode cRq_begin 25 = .ok (.return_, 1) := by decide +kernel
theorem dRq_addRead_0 : decode cRq_addRead 0 = .ok (.aload_n 0, 1) := by decide +kernel
theorem dRq_addRead_1 : decode cRq_addRead 1 = .ok (.dup, 1) := by decide +kernel
theorem dRq_addRead_2 : decode cRq_addRead 2 = .ok (.getfield 21, 3) := by decide +kernel
theorem dRq_addRead_5 : decode cRq_addRead 5 = .ok (.iconst 1, 1) := by decide +kernel
theorem dRq_addRead_6 : decode cRq_addRead 6 = .ok (.iload_n 1, 1) := by decide +kernel
theorem dRq_addRead_7 : decode cRq_addRead 7 = .ok (.ishl, 1) := by decide +kernel
theorem dRq_addRead_8 : decode cRq_addRead 8 = .ok (.ior, 1) := by decide +kernel
theorem dRq_addRead_9 : decode cRq_addRead 9 = .ok (.putfield 21, 3) := by decide +kernel
theorem dRq_addRead_12 : decode cRq_addRead 12 = .ok (.return_, 1) := by decide +kernel
theorem dRq_addWrite_0 : decode cRq_addWrite 0 = .ok (.aload_n 0, 1) := by decide +kernel
theorem dRq_addWrite_1 : decode cRq_addWrite 1 = .ok (.dup, 1) := by decide +kernel
theorem dRq_addWrite_2 : decode cRq_addWrite 2 = .ok (.getfield 24, 3) := by decide +kernel
theorem dRq_addWrite_5 : decode cRq_addWrite 5 = .ok (.iconst 1, 1) := by decide +kernel
theorem dRq_addWrite_6 : decode cRq_addWrite 6 = .ok (.iload_n 1, 1) := by decide +kernel
theorem dRq_addWrite_7 : decode cRq_addWrite 7 = .ok (.ishl, 1) := by decide +kernel
theorem dRq_addWrite_8 : decode cRq_addWrite 8 = .ok (.ior, 1) := by decide +kernel
theorem dRq_addWrite_9 : decode cRq_addWrite 9 = .ok (.putfield 24, 3) := by decide +kernel
theorem dRq_addWrite_12 : decode cRq_addWrite 12 = .ok (.aload_n 0, 1) := by decide +kernel
theorem dRq_addWrite_13 : decode cRq_addWrite 13 = .ok (.getfield 27, 3) := by decide +kernel
theorem dRq_addWrite_16 : decode cRq_addWrite 16 = .ok (.iload_n 1, 1) := by decide +kernel
theorem dRq_addWrite_17 : decode cRq_addWrite 17 = .ok (.iload_n 2, 1) := by decide +kernel
theorem dRq_addWrite_18 : decode cRq_addWrite 18 = .ok (.iastore, 1) := by decide +kernel
theorem dRq_addWrite_19 : decode cRq_addWrite 19 = .ok (.return_, 1) := by decide +kernel
theorem dRq_hasWrite_0 : decode cRq_hasWrite 0 = .ok (.aload_n 0, 1) := by decide +kernel
theorem dRq_hasWrite_1 : decode cRq_hasWrite 1 = .ok (.getfield 24, 3) := by decide +kernel
theorem dRq_hasWrite_4 : decode cRq_hasWrite 4 = .ok (.iconst 1, 1) := by decide +kernel
theorem dRq_hasWrite_5 : decode cRq_hasWrite 5 = .ok (.iload_n 1, 1) := by decide +kernel
theorem dRq_hasWrite_6 : decode cRq_hasWrite 6 = .ok (.ishl, 1) := by decide +kernel
theorem dRq_hasWrite_7 : decode cRq_hasWrite 7 = .ok (.iand, 1) := by decide +kernel
theorem dRq_hasWrite_8 : decode cRq_hasWrite 8 = .ok (.ifCond .eq 7, 3) := by decide +kernel
theorem dRq_hasWrite_11 : decode cRq_hasWrite 11 = .ok (.iconst 1, 1) := by decide +kernel
theorem dRq_hasWrite_12 : decode cRq_hasWrite 12 = .ok (.goto 4, 3) := by decide +kernel
theorem dRq_hasWrite_15 : decode cRq_hasWrite 15 = .ok (.iconst 0, 1) := by decide +kernel
theorem dRq_hasWrite_16 : decode cRq_hasWrite 16 = .ok (.ireturn, 1) := by decide +kernel
