theorem dMd_take_156 : decode cMd_take 156 = .ok (.if_icmp .ge 31, 3) := by decide +kernel
theorem dMd_take_159 : decode cMd_take 159 = .ok (.aload_n 0, 1) := by decide +kernel
theorem dMd_take_160 : decode cMd_take 160 = .ok (.getfield 31, 3) := by decide +kernel
theorem dMd_take_163 : decode cMd_take 163 = .ok (.bipush 64, 2) := by decide +kernel
theorem dMd_take_165 : decode cMd_take 165 = .ok (.iload_n 2, 1) := by decide +kernel
theorem dMd_take_166 : decode cMd_take 166 = .ok (.imul, 1) := by decide +kernel
theorem dMd_take_167 : decode cMd_take 167 = .ok (.iload_n 3, 1) := by decide +kernel
theorem dMd_take_168 : decode cMd_take 168 = .ok (.iadd, 1) := by decide +kernel
theorem dMd_take_169 : decode cMd_take 169 = .ok (.aload_n 0, 1) := by decide +kernel
theorem dMd_take_170 : decode cMd_take 170 = .ok (.getfield 31, 3) := by decide +kernel
theorem dMd_take_173 : decode cMd_take 173 = .ok (.bipush 64, 2) := by decide +kernel
theorem dMd_take_175 : decode cMd_take 175 = .ok (.iload_n 1, 1) := by decide +kernel
theorem dMd_take_176 : decode cMd_take 176 = .ok (.imul, 1) := by decide +kernel
theorem dMd_take_177 : decode cMd_take 177 = .ok (.iload_n 3, 1) := by decide +kernel
theorem dMd_take_178 : decode cMd_take 178 = .ok (.iadd, 1) := by decide +kernel
theorem dMd_take_179 : decode cMd_take 179 = .ok (.iaload, 1) := by decide +kernel
theorem dMd_take_180 : decode cMd_take 180 = .ok (.iastore, 1) := by decide +kernel
theorem dMd_take_181 : decode cMd_take 181 = .ok (.iinc 3 1, 3) := by decide +kernel
theorem dMd_take_184 : decode cMd_take 184 = .ok (.goto (-31), 3) := by decide +kernel
theorem dMd_take_187 : decode cMd_take 187 = .ok (.iconst 0, 1) := by decide +kernel
theorem dMd_take_188 : decode cMd_take 188 = .ok (.istore_n 3, 1) := by decide +kernel
theorem dMd_take_189 : decode cMd_take 189 = .ok (.iload_n 3, 1) := by decide +kernel
theorem dMd_take_190 : decode cMd_take 190 = .ok (.sipush 1024, 3) := by decide +kernel
theorem dMd_take_193 : decode cMd_take 193 = .ok (.if_icmp .ge 33, 3) := by decide +kernel
theorem dMd_take_196 : decode cMd_take 196 = .ok (.aload_n 0, 1) := by decide +kernel
theorem dMd_take_197 : decode cMd_take 197 = .ok (.getfield 34, 3) := by decide +kernel
theorem dMd_take_200 : decode cMd_take 200 = .ok (.sipush 1024, 3) := by decide +kernel
theorem dMd_take_203 : decode cMd_take 203 = .ok (.iload_n 2, 1) := by decide +kernel
theorem dMd_take_204 : decode cMd_take 204 = .ok (.imul, 1) := by decide +kernel
theorem dMd_take_205 : decode cMd_take 205 = .ok (.iload_n 3, 1) := by decide +kernel
theorem dMd_take_206 : decode cMd_take 206 = .ok (.iadd, 1) := by decide +kernel
theorem dMd_take_207 : decode cMd_take 207 = .ok (.aload_n 0, 1) := by decide +kernel
theorem dMd_take_208 : decode cMd_take 208 = .ok (.getfield 34, 3) := by decide +kernel
theorem dMd_take_211 : decode cMd_take 211 = .ok (.sipush 1024, 3) := by decide +kernel
theorem dMd_take_214 : decode cMd_take 214 = .ok (.iload_n 1, 1) := by decide +kernel
theorem dMd_take_215 : decode cMd_take 215 = .ok (.imul, 1) := by decide +kernel
theorem dMd_take_216 : decode cMd_take 216 = .ok (.iload_n 3, 1) := by decide +kernel
theorem dMd_take_217 : decode cMd_take 217 = .ok (.iadd, 1) := by decide +kernel
theorem dMd_take_218 : decode cMd_take 218 = .ok (.iaload, 1) := by decide +kernel
theorem dMd_take_219 : decode cMd_take 219 = .ok (.iastore, 1) := by decide +kernel
theorem dMd_take_220 : decode cMd_take 220 = .ok (.iinc 3 1, 3) := by decide +kernel
theorem dMd_take_223 : decode cMd_take 223 = .ok (.goto (-34), 3) := by decide +kernel
theorem dMd_take_226 : decode cMd_take 226 = .ok (.iconst 1, 1) := by decide +kernel
theorem dMd_take_227 : decode cMd_take 227 = .ok (.ireturn, 1) := by decide +kernel
theorem dMd_clear_0 : decode cMd_clear 0 = .ok (.aload_n 0, 1) := by decide +kernel
theorem dMd_clear_1 : decode cMd_clear 1 = .ok (.iload_n 1, 1) := by decide +kernel
theorem dMd_clear_2 : decode cMd_clear 2 = .ok (.invokevirtual 71, 3) := by decide +kernel
theorem dMd_clear_5 : decode cMd_clear 5 = .ok (.ifCond .eq 4, 3) := by decide +kernel
theorem dMd_clear_8 : decode cMd_clear 8 = .ok (.return_, 1) := by decide +kernel
theorem dMd_clear_9 : decode cMd_clear 9 = .ok (.aload_n 0, 1) := by decide +kernel
theorem dMd_clear_10 : decode cMd_clear 10 = .ok (.getfield 7, 3) := by decide +kernel
theorem dMd_clear_13 : decode cMd_clear 13 = .ok (.iload_n 1, 1) := by decide +kernel
theorem dMd_clear_14 : decode cMd_clear 14 = .ok (.iconst 0, 1) := by decide +kernel
theorem dMd_clear_15 : decode cMd_clear 15 = .ok (.iastore, 1) := by decide +kernel
theorem dMd_clear_16 : decode cMd_clear 16 = .ok (.aload_n 0, 1) := by decide +kernel
theorem dMd_clear_17 : decode cMd_clear 17 = .ok (.getfield 13, 3) := by decide +kernel
theorem dMd_clear_20 : decode cMd_clear 20 = .ok (.iload_n 1, 1) := by decide +kernel
theorem dMd_clear_21 : decode cMd_clear 21 = .ok (.iconst 0, 1) := by decide +kernel
theorem dMd_clear_22 : decode cMd_clear 22 = .ok (.iastore, 1) := by decide +kernel
theorem dMd_clear_23 : decode cMd_clear 23 = .ok (.aload_n 0, 1) := by decide +kernel
theorem dMd_clear_24 : decode cMd_clear 24 = .ok (.getfield 16, 3) := by decide +kernel
theorem dMd_clear_27 : decode cMd_clear 27 = .ok (.iload_n 1, 1) := by decide +kernel
theorem dMd_clear_28 : decode cMd_clear 28 = .ok (.iconst 0, 1) := by decide +kernel
theorem dMd_clear_29 : decode cMd_clear 29 = .ok (.iastore, 1) := by decide +kernel
theorem dMd_clear_30 : decode cMd_clear 30 = .ok (.aload_n 0, 1) := by decide +kernel
theorem dMd_clear_31 : decode cMd_clear 31 = .ok (.getfield 19, 3) := by decide +kernel
theorem dMd_clear_34 : decode cMd_clear 34 = .ok (.iload_n 1, 1) := by decide +kernel
theorem dMd_clear_35 : decode cMd_clear 35 = .ok (.iconst 0, 1) := by decide +kernel
theorem dMd_clear_36 : decode cMd_clear 36 = .ok (.iastore, 1) := by decide +kernel
theorem dMd_clear_37 : decode cMd_clear 37 = .ok (.aload_n 0, 1) := by decide +kernel
theorem dMd_clear_38 : decode cMd_clear 38 = .ok (.getfield 22, 3) := by decide +kernel
theorem dMd_clear_41 : decode cMd_clear 41 = .ok (.iload_n 1, 1) := by decide +kernel
theorem dMd_clear_42 : decode cMd_clear 42 = .ok (.iconst 0, 1) := by decide +kernel
theorem dMd_clear_43 : decode cMd_clear 43 = .ok (.iastore, 1) := by decide +kernel
theorem dMd_clear_44 : decode cMd_clear 44 = .ok (.iconst 0, 1) := by decide +kernel
theorem dMd_clear_45 : decode cMd_clear 45 = .ok (.istore_n 2, 1) := by decide +kernel
theorem dMd_clear_46 : decode cMd_clear 46 = .ok (.iload_n 2, 1) := by decide +kernel
theorem dMd_clear_47 : decode cMd_clear 47 = .ok (.bipush 16, 2) := by decide +kernel
theorem dMd_clear_49 : decode cMd_clear 49 = .ok (.if_icmp .ge 46, 3) := by decide +kernel
theorem dMd_clear_52 : decode cMd_clear 52 = .ok (.aload_n 0, 1) := by decide +kernel
theorem dMd_clear_53 : decode cMd_clear 53 = .ok (.getfield 25, 3) := by decide +kernel
theorem dMd_clear_56 : decode cMd_clear 56 = .ok (.bipush 16, 2) := by decide +kernel
theorem dMd_clear_58 : decode cMd_clear 58 = .ok (.iload_n 1, 1) := by decide +kernel
theorem dMd_clear_59 : decode cMd_clear 59 = .ok (.imul, 1) := by decide +kernel
theorem dMd_clear_60 : decode cMd_clear 60 = .ok (.iload_n 2, 1) := by decide +kernel
theorem dMd_clear_61 : decode cMd_clear 61 = .ok (.iadd, 1) := by decide +kernel
theorem dMd_clear_62 : decode cMd_clear 62 = .ok (.iconst 0, 1) := by decide +kernel
theorem dMd_clear_63 : decode cMd_clear 63 = .ok (.iastore, 1) := by decide +kernel
theorem dMd_clear_64 : decode cMd_clear 64 = .ok (.aload_n 0, 1) := by decide +kernel
theorem dMd_clear_65 : decode cMd_clear 65 = .ok (.getfield 28, 3) := by decide +kernel
theorem dMd_clear_68 : decode cMd_clear 68 = .ok (.bipush 16, 2) := by decide +kernel
theorem dMd_clear_70 : decode cMd_clear 70 = .ok (.iload_n 1, 1) := by decide +kernel
theorem dMd_clear_71 : decode cMd_clear 71 = .ok (.imul, 1) := by decide +kernel
theorem dMd_clear_72 : decode cMd_clear 72 = .ok (.iload_n 2, 1) := by decide +kernel
theorem dMd_clear_73 : decode cMd_clear 73 = .ok (.iadd, 1) := by decide +kernel
theorem dMd_clear_74 : decode cMd_clear 74 = .ok (.iconst 0, 1) := by decide +kernel
theorem dMd_clear_75 : decode cMd_clear 75 = .ok (.iastore, 1) := by decide +kernel
theorem dMd_clear_76 : decode cMd_clear 76 = .ok (.aload_n 0, 1) := by decide +kernel
theorem dMd_clear_77 : decode cMd_clear 77 = .ok (.getfield 34, 3) := by decide +kernel
theorem dMd_clear_80 : decode cMd_clear 80 = .ok (.sipush 1024, 3) := by decide +kernel
theorem dMd_clear_83 : decode cMd_clear 83 = .ok (.iload_n 1, 1) := by decide +kernel
theorem dMd_clear_84 : decode cMd_clear 84 = .ok (.imul, 1) := by decide +kernel
theorem dMd_clear_85 : decode cMd_clear 85 = .ok (.iload_n 2, 1) := by decide +kernel
theorem dMd_clear_86 : decode cMd_clear 86 = .ok (.iadd, 1) := by decide +kernel
theorem dMd_clear_87 : decode cMd_clear 87 = .ok (.iconst 0, 1) := by decide +kernel
theorem dMd_clear_88 : decode cMd_clear 88 = .ok (.iastore, 1) := by decide +kernel
theorem dMd_clear_89 : decode cMd_clear 89 = .ok (.iinc 2 1, 3) := by decide +kernel
theorem dMd_clear_92 : decode cMd_clear 92 = .ok (.goto (-46), 3) := by decide +kernel
theorem dMd_clear_95 : decode cMd_clear 95 = .ok (.aload_n 0, 1) := by decide +kernel
theorem dMd_clear_96 : decode cMd_clear 96 = .ok (.getfield 31, 3) := by decide +kernel
theorem dMd_clear_99 : decode cMd_clear 99 = .ok (.bipush 64, 2) := by decide +kernel
theorem dMd_clear_101 : decode cMd_clear 101 = .ok (.iload_n 1, 1) := by decide +kernel
theorem dMd_clear_102 : decode cMd_clear 102 = .ok (.imul, 1) := by decide +kernel
theorem dMd_clear_103 : decode cMd_clear 103 = .ok (.iconst 0, 1) := by decide +kernel
theorem dMd_clear_104 : decode cMd_clear 104 = .ok (.iastore, 1) := by decide +kernel
theorem dMd_clear_105 : decode cMd_clear 105 = .ok (.return_, 1) := by decide +kernel
theorem dMd_value_0 : decode cMd_value 0 = .ok (.aload_n 0, 1) := by decide +kernel
theorem dMd_value_1 : decode cMd_value 1 = .ok (.aload_n 0, 1) := by decide +kernel
theorem dMd_value_2 : decode cMd_value 2 = .ok (.iload_n 1, 1) := by decide +kernel
theorem dMd_value_3 : decode cMd_value 3 = .ok (.invokevirtual 71, 3) := by decide +kernel
theorem dMd_value_6 : decode cMd_value 6 = .ok (.ifCond .eq 7, 3) := by decide +kernel
theorem dMd_value_9 : decode cMd_value 9 = .ok (.iconst 1, 1) := by decide +kernel
theorem dMd_value_10 : decode cMd_value 10 = .ok (.goto 61, 3) := by decide +kernel
theorem dMd_value_13 : decode cMd_value 13 = .ok (.iload_n 2, 1) := by decide +kernel
theorem dMd_value_14 : decode cMd_value 14 = .ok (.invokestatic 50, 3) := by decide +kernel
theorem dMd_value_17 : decode cMd_value 17 = .ok (.ifCond .eq 49, 3) := by decide +kernel
theorem dMd_value_20 : decode cMd_value 20 = .ok (.iload_n 3, 1) := by decide +kernel
theorem dMd_value_21 : decode cMd_value 21 = .ok (.aload_n 0, 1) := by decide +kernel
theorem dMd_value_22 : decode cMd_value 22 = .ok (.getfield 13, 3) := by decide +kernel
theorem dMd_value_25 : decode cMd_value 25 = .ok (.iload_n 1, 1) := by decide +kernel
theorem dMd_value_26 : decode cMd_value 26 = .ok (.ifCond .lt 8, 3) := by decide +kernel
theorem dMd_value_29 : decode cMd_value 29 = .ok (.iload_n 1, 1) := by decide +kernel
theorem dMd_value_30 : decode cMd_value 30 = .ok (.iconst 3, 1) := by decide +kernel
theorem dMd_value_31 : decode cMd_value 31 = .ok (.if_icmp .le 7, 3) := by decide +kernel
theorem dMd_value_34 : decode cMd_value 34 = .ok (.iconst 0, 1) := by decide +kernel
theorem dMd_value_35 : decode cMd_value 35 = .ok (.goto 4, 3) := by decide +kernel
theorem dMd_value_38 : decode cMd_value 38 = .ok (.iload_n 1, 1) := by decide +kernel
theorem dMd_value_39 : decode cMd_value 39 = .ok (.iaload, 1) := by decide +kernel
theorem dMd_value_40 : decode cMd_value 40 = .ok (.if_icmp .lt 26, 3) := by decide +kernel
theorem dMd_value_43 : decode cMd_value 43 = .ok (.iload_n 3, 1) := by decide +kernel
theorem dMd_value_44 : decode cMd_value 44 = .ok (.aload_n 0, 1) := by decide +kernel
theorem dMd_value_45 : decode cMd_value 45 = .ok (.getfield 7, 3) := by decide +kernel
theorem dMd_value_48 : decode cMd_value 48 = .ok (.iload_n 1, 1) := by decide +kernel
theorem dMd_value_49 : decode cMd_value 49 = .ok (.ifCond .lt 8, 3) := by decide +kernel
theorem dMd_value_52 : decode cMd_value 52 = .ok (.iload_n 1, 1) := by decide +kernel
theorem dMd_value_53 : decode cMd_value 53 = .ok (.iconst 3, 1) := by decide +kernel
theorem dMd_value_54 : decode cMd_value 54 = .ok (.if_icmp .le 7, 3) := by decide +kernel
theorem dMd_value_57 : decode cMd_value 57 = .ok (.iconst 0, 1) := by decide +kernel
theorem dMd_value_58 : decode cMd_value 58 = .ok (.goto 4, 3) := by decide +kernel
theorem dMd_value_61 : decode cMd_value 61 = .ok (.iload_n 1, 1) := by decide +kernel
theorem dMd_value_62 : decode cMd_value 62 = .ok (.iaload, 1) := by decide +kernel
theorem dMd_value_63 : decode cMd_value 63 = .ok (.if_icmp .le 7, 3) := by decide +kernel
theorem dMd_value_66 : decode cMd_value 66 = .ok (.iconst 2, 1) := by decide +kernel
theorem dMd_value_67 : decode cMd_value 67 = .ok (.goto 4, 3) := by decide +kernel
theorem dMd_value_70 : decode cMd_value 70 = .ok (.iconst 0, 1) := by decide +kernel
theorem dMd_value_71 : decode cMd_value 71 = .ok (.putfield 47, 3) := by decide +kernel
theorem dMd_value_74 : decode cMd_value 74 = .ok (.aload_n 0, 1) := by decide +kernel
theorem dMd_value_75 : decode cMd_value 75 = .ok (.getfield 47, 3) := by decide +kernel
theorem dMd_value_78 : decode cMd_value 78 = .ok (.ifCond .le 7, 3) := by decide +kernel
theorem dMd_value_81 : decode cMd_value 81 = .ok (.iconst 0, 1) := by decide +kernel
theorem dMd_value_82 : decode cMd_value 82 = .ok (.goto 22, 3) := by decide +kernel
theorem dMd_value_85 : decode cMd_value 85 = .ok (.aload_n 0, 1) := by decide +kernel
theorem dMd_value_86 : decode cMd_value 86 = .ok (.getfield 34, 3) := by decide +kernel
theorem dMd_value_89 : decode cMd_value 89 = .ok (.bipush 16, 2) := by decide +kernel
theorem dMd_value_91 : decode cMd_value 91 = .ok (.bipush 64, 2) := by decide +kernel
theorem dMd_value_93 : decode cMd_value 93 = .ok (.iload_n 1, 1) := by decide +kernel
theorem dMd_value_94 : decode cMd_value 94 = .ok (.imul, 1) := by decide +kernel
theorem dMd_value_95 : decode cMd_value 95 = .ok (.iload_n 3, 1) := by decide +kernel
theorem dMd_value_96 : decode cMd_value 96 = .ok (.bipush 64, 2) := by decide +kernel
theorem dMd_value_98 : decode cMd_value 98 = .ok (.irem, 1) := by decide +kernel
theorem dMd_value_99 : decode cMd_value 99 = .ok (.iadd, 1) := by decide +kernel
theorem dMd_value_100 : decode cMd_value 100 = .ok (.imul, 1) := by decide +kernel
theorem dMd_value_101 : decode cMd_value 101 = .ok (.iload_n 2, 1) := by decide +kernel
theorem dMd_value_102 : decode cMd_value 102 = .ok (.iadd, 1) := by decide +kernel
theorem dMd_value_103 : decode cMd_value 103 = .ok (.iaload, 1) := by decide +kernel
theorem dMd_value_104 : decode cMd_value 104 = .ok (.ireturn, 1) := by decide +kernel
theorem dMd_seq_0 : decode cMd_seq 0 = .ok (.aload_n 0, 1) := by decide +kernel
theorem dMd_seq_1 : decode cMd_seq 1 = .ok (.aload_n 0, 1) := by decide +kernel
theorem dMd_seq_2 : decode cMd_seq 2 = .ok (.iload_n 1, 1) := by decide +kernel
theorem dMd_seq_3 : decode cMd_seq 3 = .ok (.invokevirtual 71, 3) := by decide +kernel
theorem dMd_seq_6 : decode cMd_seq 6 = .ok (.ifCond .eq 7, 3) := by decide +kernel
theorem dMd_seq_9 : decode cMd_seq 9 = .ok (.iconst 1, 1) := by decide +kernel
theorem dMd_seq_10 : decode cMd_seq 10 = .ok (.goto 15, 3) := by decide +kernel
theorem dMd_seq_13 : decode cMd_seq 13 = .ok (.iload_n 2, 1) := by decide +kernel
theorem dMd_seq_14 : decode cMd_seq 14 = .ok (.invokestatic 50, 3) := by decide +kernel
theorem dMd_seq_17 : decode cMd_seq 17 = .ok (.ifCond .eq 7, 3) := by decide +kernel
theorem dMd_seq_20 : decode cMd_seq 20 = .ok (.iconst 0, 1) := by decide +kernel
theorem dMd_seq_21 : decode cMd_seq 21 = .ok (.goto 4, 3) := by decide +kernel
theorem dMd_seq_24 : decode cMd_seq 24 = .ok (.iconst 2, 1) := by decide +kernel
theorem dMd_seq_25 : decode cMd_seq 25 = .ok (.putfield 47, 3) := by decide +kernel
theorem dMd_seq_28 : decode cMd_seq 28 = .ok (.aload_n 0, 1) := by decide +kernel
theorem dMd_seq_29 : decode cMd_seq 29 = .ok (.getfield 47, 3) := by decide +kernel
theorem dMd_seq_32 : decode cMd_seq 32 = .ok (.ifCond .le 7, 3) := by decide +kernel
theorem dMd_seq_35 : decode cMd_seq 35 = .ok (.iconst 0, 1) := by decide +kernel
theorem dMd_seq_36 : decode cMd_seq 36 = .ok (.goto 14, 3) := by decide +kernel
theorem dMd_seq_39 : decode cMd_seq 39 = .ok (.aload_n 0, 1) := by decide +kernel
theorem dMd_seq_40 : decode cMd_seq 40 = .ok (.getfield 25, 3) := by decide +kernel
theorem dMd_seq_43 : decode cMd_seq 43 = .ok (.bipush 16, 2) := by decide +kernel
theorem dMd_seq_45 : decode cMd_seq 45 = .ok (.iload_n 1, 1) := by decide +kernel
theorem dMd_seq_46 : decode cMd_seq 46 = .ok (.imul, 1) := by decide +kernel
theorem dMd_seq_47 : decode cMd_seq 47 = .ok (.iload_n 2, 1) := by decide +kernel
theorem dMd_seq_48 : decode cMd_seq 48 = .ok (.iadd, 1) := by decide +kernel
theorem dMd_seq_49 : decode cMd_seq 49 = .ok (.iaload, 1) := by decide +kernel
theorem dMd_seq_50 : decode cMd_seq 50 = .ok (.ireturn, 1) := by decide +kernel
theorem dMd_verdict_0 : decode cMd_verdict 0 = .ok (.aload_n 0, 1) := by decide +kernel
theorem dMd_verdict_1 : decode cMd_verdict 1 = .ok (.aload_n 0, 1) := by decide +kernel
theorem dMd_verdict_2 : decode cMd_verdict 2 = .ok (.iload_n 1, 1) := by decide +kernel
theorem dMd_verdict_3 : decode cMd_verdict 3 = .ok (.invokevirtual 71, 3) := by decide +kernel
theorem dMd_verdict_6 : decode cMd_verdict 6 = .ok (.ifCond .eq 7, 3) := by decide +kernel
theorem dMd_verdict_9 : decode cMd_verdict 9 = .ok (.iconst 1, 1) := by decide +kernel
theorem dMd_verdict_10 : decode cMd_verdict 10 = .ok (.goto 15, 3) := by decide +kernel
theorem dMd_verdict_13 : decode cMd_verdict 13 = .ok (.iload_n 2, 1) := by decide +kernel
theorem dMd_verdict_14 : decode cMd_verdict 14 = .ok (.invokestatic 50, 3) := by decide +kernel
theorem dMd_verdict_17 : decode cMd_verdict 17 = .ok (.ifCond .eq 7, 3) := by decide +kernel
theorem dMd_verdict_20 : decode cMd_verdict 20 = .ok (.iconst 0, 1) := by decide +kernel
theorem dMd_verdict_21 : decode cMd_verdict 21 = .ok (.goto 4, 3) := by decide +kernel
theorem dMd_verdict_24 : decode cMd_verdict 24 = .ok (.iconst 2, 1) := by decide +kernel
theorem dMd_verdict_25 : decode cMd_verdict 25 = .ok (.putfield 47, 3) := by decide +kernel
theorem dMd_verdict_28 : decode cMd_verdict 28 = .ok (.aload_n 0, 1) := by decide +kernel
theorem dMd_verdict_29 : decode cMd_verdict 29 = .ok (.getfield 47, 3) := by decide +kernel
theorem dMd_verdict_32 : decode cMd_verdict 32 = .ok (.ifCond .le 7, 3) := by decide +kernel
theorem dMd_verdict_35 : decode cMd_verdict 35 = .ok (.iconst 0, 1) := by decide +kernel
theorem dMd_verdict_36 : decode cMd_verdict 36 = .ok (.goto 14, 3) := by decide +kernel
theorem dMd_verdict_39 : decode cMd_verdict 39 = .ok (.aload_n 0, 1) := by decide +kernel
theorem dMd_verdict_40 : decode cMd_verdict 40 = .ok (.getfield 28, 3) := by decide +kernel
theorem dMd_verdict_43 : decode cMd_verdict 43 = .ok (.bipush 16, 2) := by decide +kernel
theorem dMd_verdict_45 : decode cMd_verdict 45 = .ok (.iload_n 1, 1) := by decide +kernel
theorem dMd_verdict_46 : decode cMd_verdict 46 = .ok (.imul, 1) := by decide +kernel
theorem dMd_verdict_47 : decode cMd_verdict 47 = .ok (.iload_n 2, 1) := by decide +kernel
theorem dMd_verdict_48 : decode cMd_verdict 48 = .ok (.iadd, 1) := by decide +kernel
theorem dMd_verdict_49 : decode cMd_verdict 49 = .ok (.iaload, 1) := by decide +kernel
theorem dMd_verdict_50 : decode cMd_verdict 50 = .ok (.ireturn, 1) := by decide +kernel
theorem dMd_written_0 : decode cMd_written 0 = .ok (.aload_n 0, 1) := by decide +kernel
theorem dMd_written_1 : decode cMd_written 1 = .ok (.aload_n 0, 1) := by decide +kernel
theorem dMd_written_2 : decode cMd_written 2 = .ok (.iload_n 1, 1) := by decide +kernel
theorem dMd_written_3 : decode cMd_written 3 = .ok (.invokevirtual 71, 3) := by decide +kernel
theorem dMd_written_6 : decode cMd_written 6 = .ok (.ifCond .eq 7, 3) := by decide +kernel
theorem dMd_written_9 : decode cMd_written 9 = .ok (.iconst 1, 1) := by decide +kernel
theorem dMd_written_10 : decode cMd_written 10 = .ok (.goto 15, 3) := by decide +kernel
theorem dMd_written_13 : decode cMd_written 13 = .ok (.iload_n 2, 1) := by decide +kernel
theorem dMd_written_14 : decode cMd_written 14 = .ok (.invokestatic 50, 3) := by decide +kernel
theorem dMd_written_17 : decode cMd_written 17 = .ok (.ifCond .eq 7, 3) := by decide +kernel
theorem dMd_written_20 : decode cMd_written 20 = .ok (.iconst 0, 1) := by decide +kernel
theorem dMd_written_21 : decode cMd_written 21 = .ok (.goto 4, 3) := by decide +kernel
theorem dMd_written_24 : decode cMd_written 24 = .ok (.iconst 2, 1) := by decide +kernel
theorem dMd_written_25 : decode cMd_written 25 = .ok (.putfield 47, 3) := by decide +kernel
theorem dMd_written_28 : decode cMd_written 28 = .ok (.aload_n 0, 1) := by decide +kernel
theorem dMd_written_29 : decode cMd_written 29 = .ok (.getfield 47, 3) := by decide +kernel
theorem dMd_written_32 : decode cMd_written 32 = .ok (.ifCond .le 5, 3) := by decide +kernel
theorem dMd_written_35 : decode cMd_written 35 = .ok (.iconst 0, 1) := by decide +kernel
theorem dMd_written_36 : decode cMd_written 36 = .ok (.ireturn, 1) := by decide +kernel
theorem dMd_written_37 : decode cMd_written 37 = .ok (.aload_n 0, 1) := by decide +kernel
theorem dMd_written_38 : decode cMd_written 38 = .ok (.getfield 7, 3) := by decide +kernel
theorem dMd_written_41 : decode cMd_written 41 = .ok (.iload_n 1, 1) := by decide +kernel
theorem dMd_written_42 : decode cMd_written 42 = .ok (.iaload, 1) := by decide +kernel
theorem dMd_written_43 : decode cMd_written 43 = .ok (.istore_n 3, 1) := by decide +kernel
theorem dMd_written_44 : decode cMd_written 44 = .ok (.iload_n 3, 1) := by decide +kernel
theorem dMd_written_45 : decode cMd_written 45 = .ok (.aload_n 0, 1) := by decide +kernel
theorem dMd_written_46 : decode cMd_written 46 = .ok (.getfield 13, 3) := by decide +kernel
theorem dMd_written_49 : decode cMd_written 49 = .ok (.iload_n 1, 1) := by decide +kernel
theorem dMd_written_50 : decode cMd_written 50 = .ok (.iaload, 1) := by decide +kernel
theorem dMd_written_51 : decode cMd_written 51 = .ok (.if_icmp .lt 37, 3) := by decide +kernel
theorem dMd_written_54 : decode cMd_written 54 = .ok (.iload_n 3, 1) := by decide +kernel
theorem dMd_written_55 : decode cMd_written 55 = .ok (.ifCond .le 33, 3) := by decide +kernel
theorem dMd_written_58 : decode cMd_written 58 = .ok (.aload_n 0, 1) := by decide +kernel
theorem dMd_written_59 : decode cMd_written 59 = .ok (.getfield 31, 3) := by decide +kernel
theorem dMd_written_62 : decode cMd_written 62 = .ok (.bipush 64, 2) := by decide +kernel
theorem dMd_written_64 : decode cMd_written 64 = .ok (.iload_n 1, 1) := by decide +kernel
theorem dMd_written_65 : decode cMd_written 65 = .ok (.imul, 1) := by decide +kernel
theorem dMd_written_66 : decode cMd_written 66 = .ok (.iload_n 3, 1) := by decide +kernel
theorem dMd_written_67 : decode cMd_written 67 = .ok (.bipush 64, 2) := by decide +kernel
theorem dMd_written_69 : decode cMd_written 69 = .ok (.irem, 1) := by decide +kernel
theorem dMd_written_70 : decode cMd_written 70 = .ok (.iadd, 1) := by decide +kernel
theorem dMd_written_71 : decode cMd_written 71 = .ok (.iaload, 1) := by decide +kernel
theorem dMd_written_72 : decode cMd_written 72 = .ok (.iload_n 2, 1) := by decide +kernel
theorem dMd_written_73 : decode cMd_written 73 = .ok (.ishr, 1) := by decide +kernel
theorem dMd_written_74 : decode cMd_written 74 = .ok (.iconst 1, 1) := by decide +kernel
theorem dMd_written_75 : decode cMd_written 75 = .ok (.iand, 1) := by decide +kernel
theorem dMd_written_76 : decode cMd_written 76 = .ok (.iconst 1, 1) := by decide +kernel
theorem dMd_written_77 : decode cMd_written 77 = .ok (.if_icmp .ne 5, 3) := by decide +kernel
theorem dMd_written_80 : decode cMd_written 80 = .ok (.iload_n 3, 1) := by decide +kernel
theorem dMd_written_81 : decode cMd_written 81 = .ok (.ireturn, 1) := by decide +kernel
theorem dMd_written_82 : decode cMd_written 82 = .ok (.iinc 3 (-1), 3) := by decide +kernel
theorem dMd_written_85 : decode cMd_written 85 = .ok (.goto (-41), 3) := by decide +kernel
theorem dMd_written_88 : decode cMd_written 88 = .ok (.iconst (-1), 1) := by decide +kernel
theorem dMd_written_89 : decode cMd_written 89 = .ok (.ireturn, 1) := by decide +kernel
theorem dMd_since_0 : decode cMd_since 0 = .ok (.aload_n 0, 1) := by decide +kernel
theorem dMd_since_1 : decode cMd_since 1 = .ok (.aload_n 0, 1) := by decide +kernel
theorem dMd_since_2 : decode cMd_since 2 = .ok (.iload_n 1, 1) := by decide +kernel
theorem dMd_since_3 : decode cMd_since 3 = .ok (.invokevirtual 71, 3) := by decide +kernel
theorem dMd_since_6 : decode cMd_since 6 = .ok (.ifCond .eq 7, 3) := by decide +kernel
theorem dMd_since_9 : decode cMd_since 9 = .ok (.iconst 1, 1) := by decide +kernel
theorem dMd_since_10 : decode cMd_since 10 = .ok (.goto 4, 3) := by decide +kernel
theorem dMd_since_13 : decode cMd_since 13 = .ok (.iconst 0, 1) := by decide +kernel
theorem dMd_since_14 : decode cMd_since 14 = .ok (.putfield 47, 3) := by decide +kernel
theorem dMd_since_17 : decode cMd_since 17 = .ok (.aload_n 0, 1) := by decide +kernel
theorem dMd_since_18 : decode cMd_since 18 = .ok (.getfield 47, 3) := by decide +kernel
theorem dMd_since_21 : decode cMd_since 21 = .ok (.ifCond .le 5, 3) := by decide +kernel
theorem dMd_since_24 : decode cMd_since 24 = .ok (.iconst 0, 1) := by decide +kernel
theorem dMd_since_25 : decode cMd_since 25 = .ok (.ireturn, 1) := by decide +kernel
theorem dMd_since_26 : decode cMd_since 26 = .ok (.aload_n 0, 1) := by decide +kernel
theorem dMd_since_27 : decode cMd_since 27 = .ok (.iload_n 2, 1) := by decide +kernel
theorem dMd_since_28 : decode cMd_since 28 = .ok (.aload_n 0, 1) := by decide +kernel
theorem dMd_since_29 : decode cMd_since 29 = .ok (.getfield 7, 3) := by decide +kernel
theorem dMd_since_32 : decode cMd_since 32 = .ok (.iload_n 1, 1) := by decide +kernel
theorem dMd_since_33 : decode cMd_since 33 = .ok (.iaload, 1) := by decide +kernel
theorem dMd_since_34 : decode cMd_since 34 = .ok (.aload_n 0, 1) := by decide +kernel
theorem dMd_since_35 : decode cMd_since 35 = .ok (.getfield 44, 3) := by decide +kernel
theorem dMd_since_38 : decode cMd_since 38 = .ok (.isub, 1) := by decide +kernel
theorem dMd_since_39 : decode cMd_since 39 = .ok (.if_icmp .lt 13, 3) := by decide +kernel
theorem dMd_since_42 : decode cMd_since 42 = .ok (.iload_n 2, 1) := by decide +kernel
theorem dMd_since_43 : decode cMd_since 43 = .ok (.aload_n 0, 1) := by decide +kernel
theorem dMd_since_44 : decode cMd_since 44 = .ok (.getfield 7, 3) := by decide +kernel
theorem dMd_since_47 : decode cMd_since 47 = .ok (.iload_n 1, 1) := by decide +kernel
theorem dMd_since_48 : decode cMd_since 48 = .ok (.iaload, 1) := by decide +kernel
theorem dMd_since_49 : decode cMd_since 49 = .ok (.if_icmp .le 7, 3) := by decide +kernel
theorem dMd_since_52 : decode cMd_since 52 = .ok (.iconst 2, 1) := by decide +kernel
theorem dMd_since_53 : decode cMd_since 53 = .ok (.goto 4, 3) := by decide +kernel
theorem dMd_since_56 : decode cMd_since 56 = .ok (.iconst 0, 1) := by decide +kernel
theorem dMd_since_57 : decode cMd_since 57 = .ok (.putfield 47, 3) := by decide +kernel
theorem dMd_since_60 : decode cMd_since 60 = .ok (.aload_n 0, 1) := by decide +kernel
theorem dMd_since_61 : decode cMd_since 61 = .ok (.getfield 47, 3) := by decide +kernel
theorem dMd_since_64 : decode cMd_since 64 = .ok (.ifCond .le 7, 3) := by decide +kernel
theorem dMd_since_67 : decode cMd_since 67 = .ok (.iconst 0, 1) := by decide +kernel
theorem dMd_since_68 : decode cMd_since 68 = .ok (.goto 9, 3) := by decide +kernel
theorem dMd_since_71 : decode cMd_since 71 = .ok (.aload_n 0, 1) := by decide +kernel
theorem dMd_since_72 : decode cMd_since 72 = .ok (.iload_n 1, 1) := by decide +kernel
theorem dMd_since_73 : decode cMd_since 73 = .ok (.iload_n 2, 1) := by decide +kernel
theorem dMd_since_74 : decode cMd_since 74 = .ok (.invokevirtual 67, 3) := by decide +kernel
theorem dMd_since_77 : decode cMd_since 77 = .ok (.ireturn, 1) := by decide +kernel
theorem dMd_same_0 : decode cMd_same 0 = .ok (.aload_n 0, 1) := by decide +kernel
theorem dMd_same_1 : decode cMd_same 1 = .ok (.iload_n 1, 1) := by decide +kernel
theorem dMd_same_2 : decode cMd_same 2 = .ok (.invokevirtual 71, 3) := by decide +kernel
theorem dMd_same_5 : decode cMd_same 5 = .ok (.ifCond .ne 11, 3) := by decide +kernel
theorem dMd_same_8 : decode cMd_same 8 = .ok (.aload_n 0, 1) := by decide +kernel
theorem dMd_same_9 : decode cMd_same 9 = .ok (.iload_n 2, 1) := by decide +kernel
theorem dMd_same_10 : decode cMd_same 10 = .ok (.invokevirtual 71, 3) := by decide +kernel
theorem dMd_same_13 : decode cMd_same 13 = .ok (.ifCond .eq 5, 3) := by decide +kernel
theorem dMd_same_16 : decode cMd_same 16 = .ok (.iconst 0, 1) := by decide +kernel
theorem dMd_same_17 : decode cMd_same 17 = .ok (.ireturn, 1) := by decide +kernel
theorem dMd_same_18 : decode cMd_same 18 = .ok (.aload_n 0, 1) := by decide +kernel
theorem dMd_same_19 : decode cMd_same 19 = .ok (.getfield 7, 3) := by decide +kernel
theorem dMd_same_22 : decode cMd_same 22 = .ok (.iload_n 1, 1) := by decide +kernel
theorem dMd_same_23 : decode cMd_same 23 = .ok (.iaload, 1) := by decide +kernel
theorem dMd_same_24 : decode cMd_same 24 = .ok (.aload_n 0, 1) := by decide +kernel
theorem dMd_same_25 : decode cMd_same 25 = .ok (.getfield 7, 3) := by decide +kernel
theorem dMd_same_28 : decode cMd_same 28 = .ok (.iload_n 2, 1) := by decide +kernel
theorem dMd_same_29 : decode cMd_same 29 = .ok (.iaload, 1) := by decide +kernel
theorem dMd_same_30 : decode cMd_same 30 = .ok (.if_icmp .ne 7, 3) := by decide +kernel
theorem dMd_same_33 : decode cMd_same 33 = .ok (.iconst 1, 1) := by decide +kernel
theorem dMd_same_34 : decode cMd_same 34 = .ok (.goto 4, 3) := by decide +kernel
theorem dMd_same_37 : decode cMd_same 37 = .ok (.iconst 0, 1) := by decide +kernel
theorem dMd_same_38 : decode cMd_same 38 = .ok (.istore_n 3, 1) := by decide +kernel
theorem dMd_same_39 : decode cMd_same 39 = .ok (.iconst 0, 1) := by decide +kernel
theorem dMd_same_40 : decode cMd_same 40 = .ok (.istore 4, 2) := by decide +kernel
theorem dMd_same_42 : decode cMd_same 42 = .ok (.iload 4, 2) := by decide +kernel
theorem dMd_same_44 : decode cMd_same 44 = .ok (.bipush 16, 2) := by decide +kernel
theorem dMd_same_46 : decode cMd_same 46 = .ok (.if_icmp .ge 126, 3) := by decide +kernel
theorem dMd_same_49 : decode cMd_same 49 = .ok (.iload_n 3, 1) := by decide +kernel
theorem dMd_same_50 : decode cMd_same 50 = .ok (.ifCond .eq 122, 3) := by decide +kernel
theorem dMd_same_53 : decode cMd_same 53 = .ok (.aload_n 0, 1) := by decide +kernel
theorem dMd_same_54 : decode cMd_same 54 = .ok (.getfield 25, 3) := by decide +kernel
theorem dMd_same_57 : decode cMd_same 57 = .ok (.bipush 16, 2) := by decide +kernel
theorem dMd_same_59 : decode cMd_same 59 = .ok (.iload_n 1, 1) := by decide +kernel
theorem dMd_same_60 : decode cMd_same 60 = .ok (.imul, 1) := by decide +kernel
theorem dMd_same_61 : decode cMd_same 61 = .ok (.iload 4, 2) := by decide +kernel
theorem dMd_same_63 : decode cMd_same 63 = .ok (.iadd, 1) := by decide +kernel
theorem dMd_same_64 : decode cMd_same 64 = .ok (.iaload, 1) := by decide +kernel
theorem dMd_same_65 : decode cMd_same 65 = .ok (.aload_n 0, 1) := by decide +kernel
theorem dMd_same_66 : decode cMd_same 66 = .ok (.getfield 25, 3) := by decide +kernel
theorem dMd_same_69 : decode cMd_same 69 = .ok (.bipush 16, 2) := by decide +kernel
theorem dMd_same_71 : decode cMd_same 71 = .ok (.iload_n 2, 1) := by decide +kernel
theorem dMd_same_72 : decode cMd_same 72 = .ok (.imul, 1) := by decide +kernel
theorem dMd_same_73 : decode cMd_same 73 = .ok (.iload 4, 2) := by decide +kernel
theorem dMd_same_75 : decode cMd_same 75 = .ok (.iadd, 1) := by decide +kernel
theorem dMd_same_76 : decode cMd_same 76 = .ok (.iaload, 1) := by decide +kernel
theorem dMd_same_77 : decode cMd_same 77 = .ok (.if_icmp .ne 87, 3) := by decide +kernel
theorem dMd_same_80 : decode cMd_same 80 = .ok (.aload_n 0, 1) := by decide +kernel
theorem dMd_same_81 : decode cMd_same 81 = .ok (.getfield 28, 3) := by decide +kernel
theorem dMd_same_84 : decode cMd_same 84 = .ok (.bipush 16, 2) := by decide +kernel
theorem dMd_same_86 : decode cMd_same 86 = .ok (.iload_n 1, 1) := by decide +kernel
theorem dMd_same_87 : decode cMd_same 87 = .ok (.imul, 1) := by decide +kernel
theorem dMd_same_88 : decode cMd_same 88 = .ok (.iload 4, 2) := by decide +kernel
theorem dMd_same_90 : decode cMd_same 90 = .ok (.iadd, 1) := by decide +kernel
theorem dMd_same_91 : decode cMd_same 91 = .ok (.iaload, 1) := by decide +kernel
theorem dMd_same_92 : decode cMd_same 92 = .ok (.aload_n 0, 1) := by decide +kernel
theorem dMd_same_93 : decode cMd_same 93 = .ok (.getfield 28, 3) := by decide +kernel
theorem dMd_same_96 : decode cMd_same 96 = .ok (.bipush 16, 2) := by decide +kernel
theorem dMd_same_98 : decode cMd_same 98 = .ok (.iload_n 2, 1) := by decide +kernel
theorem dMd_same_99 : decode cMd_same 99 = .ok (.imul, 1) := by decide +kernel
theorem dMd_same_100 : decode cMd_same 100 = .ok (.iload 4, 2) := by decide +kernel
theorem dMd_same_102 : decode cMd_same 102 = .ok (.iadd, 1) := by decide +kernel
theorem dMd_same_103 : decode cMd_same 103 = .ok (.iaload, 1) := by decide +kernel
theorem dMd_same_104 : decode cMd_same 104 = .ok (.if_icmp .ne 60, 3) := by decide +kernel
theorem dMd_same_107 : decode cMd_same 107 = .ok (.aload_n 0, 1) := by decide +kernel
theorem dMd_same_108 : decode cMd_same 108 = .ok (.getfield 34, 3) := by decide +kernel
theorem dMd_same_111 : decode cMd_same 111 = .ok (.bipush 16, 2) := by decide +kernel
theorem dMd_same_113 : decode cMd_same 113 = .ok (.bipush 64, 2) := by decide +kernel
theorem dMd_same_115 : decode cMd_same 115 = .ok (.iload_n 1, 1) := by decide +kernel
theorem dMd_same_116 : decode cMd_same 116 = .ok (.imul, 1) := by decide +kernel
theorem dMd_same_117 : decode cMd_same 117 = .ok (.aload_n 0, 1) := by decide +kernel
theorem dMd_same_118 : decode cMd_same 118 = .ok (.getfield 7, 3) := by decide +kernel
theorem dMd_same_121 : decode cMd_same 121 = .ok (.iload_n 1, 1) := by decide +kernel
theorem dMd_same_122 : decode cMd_same 122 = .ok (.iaload, 1) := by decide +kernel
theorem dMd_same_123 : decode cMd_same 123 = .ok (.bipush 64, 2) := by decide +kernel
theorem dMd_same_125 : decode cMd_same 125 = .ok (.irem, 1) := by decide +kernel
theorem dMd_same_126 : decode cMd_same 126 = .ok (.iadd, 1) := by decide +kernel
theorem dMd_same_127 : decode cMd_same 127 = .ok (.imul, 1) := by decide +kernel
theorem dMd_same_128 : decode cMd_same 128 = .ok (.iload 4, 2) := by decide +kernel
theorem dMd_same_130 : decode cMd_same 130 = .ok (.iadd, 1) := by decide +kernel
theorem dMd_same_131 : decode cMd_same 131 = .ok (.iaload, 1) := by decide +kernel
theorem dMd_same_132 : decode cMd_same 132 = .ok (.aload_n 0, 1) := by decide +kernel
theorem dMd_same_133 : decode cMd_same 133 = .ok (.getfield 34, 3) := by decide +kernel
theorem dMd_same_136 : decode cMd_same 136 = .ok (.bipush 16, 2) := by decide +kernel
theorem dMd_same_138 : decode cMd_same 138 = .ok (.bipush 64, 2) := by decide +kernel
theorem dMd_same_140 : decode cMd_same 140 = .ok (.iload_n 2, 1) := by decide +kernel
theorem dMd_same_141 : decode cMd_same 141 = .ok (.imul, 1) := by decide +kernel
theorem dMd_same_142 : decode cMd_same 142 = .ok (.aload_n 0, 1) := by decide +kernel
theorem dMd_same_143 : decode cMd_same 143 = .ok (.getfield 7, 3) := by decide +kernel
theorem dMd_same_146 : decode cMd_same 146 = .ok (.iload_n 2, 1) := by decide +kernel
theorem dMd_same_147 : decode cMd_same 147 = .ok (.iaload, 1) := by decide +kernel
theorem dMd_same_148 : decode cMd_same 148 = .ok (.bipush 64, 2) := by decide +kernel
theorem dMd_same_150 : decode cMd_same 150 = .ok (.irem, 1) := by decide +kernel
theorem dMd_same_151 : decode cMd_same 151 = .ok (.iadd, 1) := by decide +kernel
theorem dMd_same_152 : decode cMd_same 152 = .ok (.imul, 1) := by decide +kernel
theorem dMd_same_153 : decode cMd_same 153 = .ok (.iload 4, 2) := by decide +kernel
theorem dMd_same_155 : decode cMd_same 155 = .ok (.iadd, 1) := by decide +kernel
theorem dMd_same_156 : decode cMd_same 156 = .ok (.iaload, 1) := by decide +kernel
theorem dMd_same_157 : decode cMd_same 157 = .ok (.if_icmp .ne 7, 3) := by decide +kernel
theorem dMd_same_160 : decode cMd_same 160 = .ok (.iconst 1, 1) := by decide +kernel
theorem dMd_same_161 : decode cMd_same 161 = .ok (.goto 4, 3) := by decide +kernel
theorem dMd_same_164 : decode cMd_same 164 = .ok (.iconst 0, 1) := by decide +kernel
theorem dMd_same_165 : decode cMd_same 165 = .ok (.istore_n 3, 1) := by decide +kernel
theorem dMd_same_166 : decode cMd_same 166 = .ok (.iinc 4 1, 3) := by decide +kernel
theorem dMd_same_169 : decode cMd_same 169 = .ok (.goto (-127), 3) := by decide +kernel
theorem dMd_same_172 : decode cMd_same 172 = .ok (.aload_n 0, 1) := by decide +kernel
theorem dMd_same_173 : decode cMd_same 173 = .ok (.getfield 7, 3) := by decide +kernel
theorem dMd_same_176 : decode cMd_same 176 = .ok (.iload_n 1, 1) := by decide +kernel
theorem dMd_same_177 : decode cMd_same 177 = .ok (.iaload, 1) := by decide +kernel
theorem dMd_same_178 : decode cMd_same 178 = .ok (.istore 4, 2) := by decide +kernel
theorem dMd_same_180 : decode cMd_same 180 = .ok (.iload 4, 2) := by decide +kernel
theorem dMd_same_182 : decode cMd_same 182 = .ok (.aload_n 0, 1) := by decide +kernel
theorem dMd_same_183 : decode cMd_same 183 = .ok (.getfield 7, 3) := by decide +kernel
theorem dMd_same_186 : decode cMd_same 186 = .ok (.iload_n 1, 1) := by decide +kernel
theorem dMd_same_187 : decode cMd_same 187 = .ok (.iaload, 1) := by decide +kernel
theorem dMd_same_188 : decode cMd_same 188 = .ok (.aload_n 0, 1) := by decide +kernel
theorem dMd_same_189 : decode cMd_same 189 = .ok (.getfield 44, 3) := by decide +kernel
theorem dMd_same_192 : decode cMd_same 192 = .ok (.isub, 1) := by decide +kernel
theorem dMd_same_193 : decode cMd_same 193 = .ok (.if_icmp .lt 36, 3) := by decide +kernel
theorem dMd_same_196 : decode cMd_same 196 = .ok (.iload_n 3, 1) := by decide +kernel
theorem dMd_same_197 : decode cMd_same 197 = .ok (.ifCond .eq 32, 3) := by decide +kernel
theorem dMd_same_200 : decode cMd_same 200 = .ok (.aload_n 0, 1) := by decide +kernel
theorem dMd_same_201 : decode cMd_same 201 = .ok (.iload_n 1, 1) := by decide +kernel
theorem dMd_same_202 : decode cMd_same 202 = .ok (.iload 4, 2) := by decide +kernel
theorem dMd_same_204 : decode cMd_same 204 = .ok (.invokevirtual 67, 3) := by decide +kernel
theorem dMd_same_207 : decode cMd_same 207 = .ok (.aload_n 0, 1) := by decide +kernel
theorem dMd_same_208 : decode cMd_same 208 = .ok (.iload_n 2, 1) := by decide +kernel
theorem dMd_same_209 : decode cMd_same 209 = .ok (.iload 4, 2) := by decide +kernel
theorem dMd_same_211 : decode cMd_same 211 = .ok (.invokevirtual 67, 3) := by decide +kernel
theorem dMd_same_214 : decode cMd_same 214 = .ok (.if_icmp .ne 7, 3) := by decide +kernel
theorem dMd_same_217 : decode cMd_same 217 = .ok (.iconst 1, 1) := by decide +kernel
theorem dMd_same_218 : decode cMd_same 218 = .ok (.goto 4, 3) := by decide +kernel
theorem dMd_same_221 : decode cMd_same 221 = .ok (.iconst 0, 1) := by decide +kernel
theorem dMd_same_222 : decode cMd_same 222 = .ok (.istore_n 3, 1) := by decide +kernel
theorem dMd_same_223 : decode cMd_same 223 = .ok (.iinc 4 (-1), 3) := by decide +kernel
theorem dMd_same_226 : decode cMd_same 226 = .ok (.goto (-46), 3) := by decide +kernel
theorem dMd_same_229 : decode cMd_same 229 = .ok (.iload_n 3, 1) := by decide +kernel
theorem dMd_same_230 : decode cMd_same 230 = .ok (.ireturn, 1) := by decide +kernel
theorem dMd_look_0 : decode cMd_look 0 = .ok (.aload_n 0, 1) := by decide +kernel
theorem dMd_look_1 : decode cMd_look 1 = .ok (.iload_n 1, 1) := by decide +kernel
theorem dMd_look_2 : decode cMd_look 2 = .ok (.invokevirtual 71, 3) := by decide +kernel
theorem dMd_look_5 : decode cMd_look 5 = .ok (.ifCond .eq 5, 3) := by decide +kernel
theorem dMd_look_8 : decode cMd_look 8 = .ok (.iconst 0, 1) := by decide +kernel
theorem dMd_look_9 : decode cMd_look 9 = .ok (.ireturn, 1) := by decide +kernel
theorem dMd_look_10 : decode cMd_look 10 = .ok (.iconst 0, 1) := by decide +kernel
theorem dMd_look_11 : decode cMd_look 11 = .ok (.istore_n 3, 1) := by decide +kernel
theorem dMd_look_12 : decode cMd_look 12 = .ok (.iconst 0, 1) := by decide +kernel
theorem dMd_look_13 : decode cMd_look 13 = .ok (.istore 4, 2) := by decide +kernel
theorem dMd_look_15 : decode cMd_look 15 = .ok (.iload 4, 2) := by decide +kernel
theorem dMd_look_17 : decode cMd_look 17 = .ok (.bipush 16, 2) := by decide +kernel
theorem dMd_look_19 : decode cMd_look 19 = .ok (.if_icmp .ge 37, 3) := by decide +kernel
theorem dMd_look_22 : decode cMd_look 22 = .ok (.iload_n 3, 1) := by decide +kernel
theorem dMd_look_23 : decode cMd_look 23 = .ok (.aload_n 0, 1) := by decide +kernel
theorem dMd_look_24 : decode cMd_look 24 = .ok (.getfield 34, 3) := by decide +kernel
theorem dMd_look_27 : decode cMd_look 27 = .ok (.bipush 16, 2) := by decide +kernel
theorem dMd_look_29 : decode cMd_look 29 = .ok (.bipush 64, 2) := by decide +kernel
theorem dMd_look_31 : decode cMd_look 31 = .ok (.iload_n 1, 1) := by decide +kernel
theorem dMd_look_32 : decode cMd_look 32 = .ok (.imul, 1) := by decide +kernel
theorem dMd_look_33 : decode cMd_look 33 = .ok (.aload_n 0, 1) := by decide +kernel
theorem dMd_look_34 : decode cMd_look 34 = .ok (.getfield 7, 3) := by decide +kernel
theorem dMd_look_37 : decode cMd_look 37 = .ok (.iload_n 1, 1) := by decide +kernel
theorem dMd_look_38 : decode cMd_look 38 = .ok (.iaload, 1) := by decide +kernel
theorem dMd_look_39 : decode cMd_look 39 = .ok (.bipush 64, 2) := by decide +kernel
theorem dMd_look_41 : decode cMd_look 41 = .ok (.irem, 1) := by decide +kernel
theorem dMd_look_42 : decode cMd_look 42 = .ok (.iadd, 1) := by decide +kernel
theorem dMd_look_43 : decode cMd_look 43 = .ok (.imul, 1) := by decide +kernel
theorem dMd_look_44 : decode cMd_look 44 = .ok (.iload 4, 2) := by decide +kernel
theorem dMd_look_46 : decode cMd_look 46 = .ok (.iadd, 1) := by decide +kernel
theorem dMd_look_47 : decode cMd_look 47 = .ok (.iaload, 1) := by decide +kernel
theorem dMd_look_48 : decode cMd_look 48 = .ok (.iadd, 1) := by decide +kernel
theorem dMd_look_49 : decode cMd_look 49 = .ok (.istore_n 3, 1) := by decide +kernel
theorem dMd_look_50 : decode cMd_look 50 = .ok (.iinc 4 1, 3) := by decide +kernel
theorem dMd_look_53 : decode cMd_look 53 = .ok (.goto (-38), 3) := by decide +kernel
theorem dMd_look_56 : decode cMd_look 56 = .ok (.iload_n 2, 1) := by decide +kernel
theorem dMd_look_57 : decode cMd_look 57 = .ok (.tableswitch 94 0 7 #[47, 54, 61, 68, 75, 82, 84, 89], 47) := by decide +kernel
theorem dMd_look_104 : decode cMd_look 104 = .ok (.aload_n 0, 1) := by decide +kernel
theorem dMd_look_105 : decode cMd_look 105 = .ok (.getfield 7, 3) := by decide +kernel
theorem dMd_look_108 : decode cMd_look 108 = .ok (.iload_n 1, 1) := by decide +kernel
theorem dMd_look_109 : decode cMd_look 109 = .ok (.iaload, 1) := by decide +kernel
theorem dMd_look_110 : decode cMd_look 110 = .ok (.ireturn, 1) := by decide +kernel
theorem dMd_look_111 : decode cMd_look 111 = .ok (.aload_n 0, 1) := by decide +kernel
theorem dMd_look_112 : decode cMd_look 112 = .ok (.getfield 13, 3) := by decide +kernel
theorem dMd_look_115 : decode cMd_look 115 = .ok (.iload_n 1, 1) := by decide +kernel
theorem dMd_look_116 : decode cMd_look 116 = .ok (.iaload, 1) := by decide +kernel
theorem dMd_look_117 : decode cMd_look 117 = .ok (.ireturn, 1) := by decide +kernel
theorem dMd_look_118 : decode cMd_look 118 = .ok (.aload_n 0, 1) := by decide +kernel
theorem dMd_look_119 : decode cMd_look 119 = .ok (.getfield 16, 3) := by decide +kernel
theorem dMd_look_122 : decode cMd_look 122 = .ok (.iload_n 1, 1) := by decide +kernel
theorem dMd_look_123 : decode cMd_look 123 = .ok (.iaload, 1) := by decide +kernel
theorem dMd_look_124 : decode cMd_look 124 = .ok (.ireturn, 1) := by decide +kernel
theorem dMd_look_125 : decode cMd_look 125 = .ok (.aload_n 0, 1) := by decide +kernel
theorem dMd_look_126 : decode cMd_look 126 = .ok (.getfield 19, 3) := by decide +kernel
theorem dMd_look_129 : decode cMd_look 129 = .ok (.iload_n 1, 1) := by decide +kernel
theorem dMd_look_130 : decode cMd_look 130 = .ok (.iaload, 1) := by decide +kernel
theorem dMd_look_131 : decode cMd_look 131 = .ok (.ireturn, 1) := by decide +kernel
theorem dMd_look_132 : decode cMd_look 132 = .ok (.aload_n 0, 1) := by decide +kernel
theorem dMd_look_133 : decode cMd_look 133 = .ok (.getfield 22, 3) := by decide +kernel
theorem dMd_look_136 : decode cMd_look 136 = .ok (.iload_n 1, 1) := by decide +kernel
theorem dMd_look_137 : decode cMd_look 137 = .ok (.iaload, 1) := by decide +kernel
theorem dMd_look_138 : decode cMd_look 138 = .ok (.ireturn, 1) := by decide +kernel
theorem dMd_look_139 : decode cMd_look 139 = .ok (.iload_n 3, 1) := by decide +kernel
theorem dMd_look_140 : decode cMd_look 140 = .ok (.ireturn, 1) := by decide +kernel
theorem dMd_look_141 : decode cMd_look 141 = .ok (.aload_n 0, 1) := by decide +kernel
theorem dMd_look_142 : decode cMd_look 142 = .ok (.getfield 60, 3) := by decide +kernel
theorem dMd_look_145 : decode cMd_look 145 = .ok (.ireturn, 1) := by decide +kernel
theorem dMd_look_146 : decode cMd_look 146 = .ok (.aload_n 0, 1) := by decide +kernel
theorem dMd_look_147 : decode cMd_look 147 = .ok (.getfield 63, 3) := by decide +kernel
theorem dMd_look_150 : decode cMd_look 150 = .ok (.ireturn, 1) := by decide +kernel
theorem dMd_look_151 : decode cMd_look 151 = .ok (.iconst (-1), 1) := by decide +kernel
theorem dMd_look_152 : decode cMd_look 152 = .ok (.ireturn, 1) := by decide +kernel
