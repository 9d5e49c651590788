theorem d_MD_write_9 : decode b_MD_write 9 = .ok (.aload_n 0, 1) := by decide +kernel
theorem d_MD_write_10 : decode b_MD_write 10 = .ok (.iconst 0, 1) := by decide +kernel
theorem d_MD_write_11 : decode b_MD_write 11 = .ok (.invokevirtual 113, 3) := by decide +kernel
theorem d_MD_write_14 : decode b_MD_write 14 = .ok (.aload_n 0, 1) := by decide +kernel
theorem d_MD_write_15 : decode b_MD_write 15 = .ok (.invokevirtual 143, 3) := by decide +kernel
theorem d_MD_write_18 : decode b_MD_write 18 = .ok (.iconst 0, 1) := by decide +kernel
theorem d_MD_write_19 : decode b_MD_write 19 = .ok (.istore_n 1, 1) := by decide +kernel
theorem d_MD_write_20 : decode b_MD_write 20 = .ok (.iload_n 1, 1) := by decide +kernel
theorem d_MD_write_21 : decode b_MD_write 21 = .ok (.aload_n 0, 1) := by decide +kernel
theorem d_MD_write_22 : decode b_MD_write 22 = .ok (.getfield 53, 3) := by decide +kernel
theorem d_MD_write_25 : decode b_MD_write 25 = .ok (.if_icmp .ge 211, 3) := by decide +kernel
theorem d_MD_write_28 : decode b_MD_write 28 = .ok (.aload_n 0, 1) := by decide +kernel
theorem d_MD_write_29 : decode b_MD_write 29 = .ok (.getfield 32, 3) := by decide +kernel
theorem d_MD_write_32 : decode b_MD_write 32 = .ok (.iload_n 1, 1) := by decide +kernel
theorem d_MD_write_33 : decode b_MD_write 33 = .ok (.aload_n 0, 1) := by decide +kernel
theorem d_MD_write_34 : decode b_MD_write 34 = .ok (.getfield 20, 3) := by decide +kernel
theorem d_MD_write_37 : decode b_MD_write 37 = .ok (.iload_n 1, 1) := by decide +kernel
theorem d_MD_write_38 : decode b_MD_write 38 = .ok (.iaload, 1) := by decide +kernel
theorem d_MD_write_39 : decode b_MD_write 39 = .ok (.bipush 7, 2) := by decide +kernel
theorem d_MD_write_41 : decode b_MD_write 41 = .ok (.if_icmp .ne 7, 3) := by decide +kernel
theorem d_MD_write_44 : decode b_MD_write 44 = .ok (.iconst 0, 1) := by decide +kernel
theorem d_MD_write_45 : decode b_MD_write 45 = .ok (.goto 9, 3) := by decide +kernel
theorem d_MD_write_48 : decode b_MD_write 48 = .ok (.aload_n 0, 1) := by decide +kernel
theorem d_MD_write_49 : decode b_MD_write 49 = .ok (.getfield 20, 3) := by decide +kernel
theorem d_MD_write_52 : decode b_MD_write 52 = .ok (.iload_n 1, 1) := by decide +kernel
theorem d_MD_write_53 : decode b_MD_write 53 = .ok (.iaload, 1) := by decide +kernel
theorem d_MD_write_54 : decode b_MD_write 54 = .ok (.iastore, 1) := by decide +kernel
theorem d_MD_write_55 : decode b_MD_write 55 = .ok (.aload_n 0, 1) := by decide +kernel
theorem d_MD_write_56 : decode b_MD_write 56 = .ok (.getfield 35, 3) := by decide +kernel
theorem d_MD_write_59 : decode b_MD_write 59 = .ok (.iload_n 1, 1) := by decide +kernel
theorem d_MD_write_60 : decode b_MD_write 60 = .ok (.aload_n 0, 1) := by decide +kernel
theorem d_MD_write_61 : decode b_MD_write 61 = .ok (.getfield 20, 3) := by decide +kernel
theorem d_MD_write_64 : decode b_MD_write 64 = .ok (.iload_n 1, 1) := by decide +kernel
theorem d_MD_write_65 : decode b_MD_write 65 = .ok (.iaload, 1) := by decide +kernel
theorem d_MD_write_66 : decode b_MD_write 66 = .ok (.bipush 7, 2) := by decide +kernel
theorem d_MD_write_68 : decode b_MD_write 68 = .ok (.if_icmp .ne 18, 3) := by decide +kernel
theorem d_MD_write_71 : decode b_MD_write 71 = .ok (.aload_n 0, 1) := by decide +kernel
theorem d_MD_write_72 : decode b_MD_write 72 = .ok (.getfield 7, 3) := by decide +kernel
theorem d_MD_write_75 : decode b_MD_write 75 = .ok (.aload_n 0, 1) := by decide +kernel
theorem d_MD_write_76 : decode b_MD_write 76 = .ok (.getfield 23, 3) := by decide +kernel
theorem d_MD_write_79 : decode b_MD_write 79 = .ok (.iload_n 1, 1) := by decide +kernel
theorem d_MD_write_80 : decode b_MD_write 80 = .ok (.laload, 1) := by decide +kernel
theorem d_MD_write_81 : decode b_MD_write 81 = .ok (.l2i, 1) := by decide +kernel
theorem d_MD_write_82 : decode b_MD_write 82 = .ok (.laload, 1) := by decide +kernel
theorem d_MD_write_83 : decode b_MD_write 83 = .ok (.goto 46, 3) := by decide +kernel
theorem d_MD_write_86 : decode b_MD_write 86 = .ok (.aload_n 0, 1) := by decide +kernel
theorem d_MD_write_87 : decode b_MD_write 87 = .ok (.getfield 20, 3) := by decide +kernel
theorem d_MD_write_90 : decode b_MD_write 90 = .ok (.iload_n 1, 1) := by decide +kernel
theorem d_MD_write_91 : decode b_MD_write 91 = .ok (.iaload, 1) := by decide +kernel
theorem d_MD_write_92 : decode b_MD_write 92 = .ok (.ifCond .ne 17, 3) := by decide +kernel
theorem d_MD_write_95 : decode b_MD_write 95 = .ok (.aload_n 0, 1) := by decide +kernel
theorem d_MD_write_96 : decode b_MD_write 96 = .ok (.getfield 35, 3) := by decide +kernel
theorem d_MD_write_99 : decode b_MD_write 99 = .ok (.aload_n 0, 1) := by decide +kernel
theorem d_MD_write_100 : decode b_MD_write 100 = .ok (.getfield 50, 3) := by decide +kernel
theorem d_MD_write_103 : decode b_MD_write 103 = .ok (.iload_n 1, 1) := by decide +kernel
theorem d_MD_write_104 : decode b_MD_write 104 = .ok (.iaload, 1) := by decide +kernel
theorem d_MD_write_105 : decode b_MD_write 105 = .ok (.laload, 1) := by decide +kernel
theorem d_MD_write_106 : decode b_MD_write 106 = .ok (.goto 23, 3) := by decide +kernel
theorem d_MD_write_109 : decode b_MD_write 109 = .ok (.aload_n 0, 1) := by decide +kernel
theorem d_MD_write_110 : decode b_MD_write 110 = .ok (.getfield 20, 3) := by decide +kernel
theorem d_MD_write_113 : decode b_MD_write 113 = .ok (.iload_n 1, 1) := by decide +kernel
theorem d_MD_write_114 : decode b_MD_write 114 = .ok (.iaload, 1) := by decide +kernel
theorem d_MD_write_115 : decode b_MD_write 115 = .ok (.iconst 5, 1) := by decide +kernel
theorem d_MD_write_116 : decode b_MD_write 116 = .ok (.if_icmp .ne 12, 3) := by decide +kernel
theorem d_MD_write_119 : decode b_MD_write 119 = .ok (.aload_n 0, 1) := by decide +kernel
theorem d_MD_write_120 : decode b_MD_write 120 = .ok (.getfield 23, 3) := by decide +kernel
theorem d_MD_write_123 : decode b_MD_write 123 = .ok (.iload_n 1, 1) := by decide +kernel
theorem d_MD_write_124 : decode b_MD_write 124 = .ok (.laload, 1) := by decide +kernel
theorem d_MD_write_125 : decode b_MD_write 125 = .ok (.goto 4, 3) := by decide +kernel
theorem d_MD_write_128 : decode b_MD_write 128 = .ok (.lconst 0, 1) := by decide +kernel
theorem d_MD_write_129 : decode b_MD_write 129 = .ok (.lastore, 1) := by decide +kernel
theorem d_MD_write_130 : decode b_MD_write 130 = .ok (.aload_n 0, 1) := by decide +kernel
theorem d_MD_write_131 : decode b_MD_write 131 = .ok (.getfield 20, 3) := by decide +kernel
theorem d_MD_write_134 : decode b_MD_write 134 = .ok (.iload_n 1, 1) := by decide +kernel
theorem d_MD_write_135 : decode b_MD_write 135 = .ok (.iaload, 1) := by decide +kernel
theorem d_MD_write_136 : decode b_MD_write 136 = .ok (.invokestatic 98, 3) := by decide +kernel
theorem d_MD_write_139 : decode b_MD_write 139 = .ok (.ifCond .eq 91, 3) := by decide +kernel
theorem d_MD_write_142 : decode b_MD_write 142 = .ok (.aload_n 0, 1) := by decide +kernel
theorem d_MD_write_143 : decode b_MD_write 143 = .ok (.getfield 20, 3) := by decide +kernel
theorem d_MD_write_146 : decode b_MD_write 146 = .ok (.iload_n 1, 1) := by decide +kernel
theorem d_MD_write_147 : decode b_MD_write 147 = .ok (.iaload, 1) := by decide +kernel
theorem d_MD_write_148 : decode b_MD_write 148 = .ok (.iconst 2, 1) := by decide +kernel
theorem d_MD_write_149 : decode b_MD_write 149 = .ok (.if_icmp .ne 22, 3) := by decide +kernel
theorem d_MD_write_152 : decode b_MD_write 152 = .ok (.aload_n 0, 1) := by decide +kernel
theorem d_MD_write_153 : decode b_MD_write 153 = .ok (.iload_n 1, 1) := by decide +kernel
theorem d_MD_write_154 : decode b_MD_write 154 = .ok (.invokevirtual 136, 3) := by decide +kernel
theorem d_MD_write_157 : decode b_MD_write 157 = .ok (.ifCond .ne 14, 3) := by decide +kernel
theorem d_MD_write_160 : decode b_MD_write 160 = .ok (.aload_n 0, 1) := by decide +kernel
theorem d_MD_write_161 : decode b_MD_write 161 = .ok (.getfield 32, 3) := by decide +kernel
theorem d_MD_write_164 : decode b_MD_write 164 = .ok (.iload_n 1, 1) := by decide +kernel
theorem d_MD_write_165 : decode b_MD_write 165 = .ok (.bipush 6, 2) := by decide +kernel
theorem d_MD_write_167 : decode b_MD_write 167 = .ok (.iastore, 1) := by decide +kernel
theorem d_MD_write_168 : decode b_MD_write 168 = .ok (.goto 62, 3) := by decide +kernel
theorem d_MD_write_171 : decode b_MD_write 171 = .ok (.aload_n 0, 1) := by decide +kernel
theorem d_MD_write_172 : decode b_MD_write 172 = .ok (.getfield 23, 3) := by decide +kernel
theorem d_MD_write_175 : decode b_MD_write 175 = .ok (.iload_n 1, 1) := by decide +kernel
theorem d_MD_write_176 : decode b_MD_write 176 = .ok (.laload, 1) := by decide +kernel
theorem d_MD_write_177 : decode b_MD_write 177 = .ok (.lconst 0, 1) := by decide +kernel
theorem d_MD_write_178 : decode b_MD_write 178 = .ok (.lcmp, 1) := by decide +kernel
theorem d_MD_write_179 : decode b_MD_write 179 = .ok (.ifCond .ne 9, 3) := by decide +kernel
theorem d_MD_write_182 : decode b_MD_write 182 = .ok (.ldc2_w 146, 3) := by decide +kernel
theorem d_MD_write_185 : decode b_MD_write 185 = .ok (.goto 9, 3) := by decide +kernel
theorem d_MD_write_188 : decode b_MD_write 188 = .ok (.aload_n 0, 1) := by decide +kernel
theorem d_MD_write_189 : decode b_MD_write 189 = .ok (.getfield 23, 3) := by decide +kernel
theorem d_MD_write_192 : decode b_MD_write 192 = .ok (.iload_n 1, 1) := by decide +kernel
theorem d_MD_write_193 : decode b_MD_write 193 = .ok (.laload, 1) := by decide +kernel
theorem d_MD_write_194 : decode b_MD_write 194 = .ok (.lstore_n 2, 1) := by decide +kernel
theorem d_MD_write_195 : decode b_MD_write 195 = .ok (.iconst 0, 1) := by decide +kernel
theorem d_MD_write_196 : decode b_MD_write 196 = .ok (.istore 4, 2) := by decide +kernel
theorem d_MD_write_198 : decode b_MD_write 198 = .ok (.aload_n 0, 1) := by decide +kernel
theorem d_MD_write_199 : decode b_MD_write 199 = .ok (.iload_n 1, 1) := by decide +kernel
theorem d_MD_write_200 : decode b_MD_write 200 = .ok (.lload_n 2, 1) := by decide +kernel
theorem d_MD_write_201 : decode b_MD_write 201 = .ok (.iload 4, 2) := by decide +kernel
theorem d_MD_write_203 : decode b_MD_write 203 = .ok (.invokestatic 148, 3) := by decide +kernel
theorem d_MD_write_206 : decode b_MD_write 206 = .ok (.invokevirtual 152, 3) := by decide +kernel
theorem d_MD_write_209 : decode b_MD_write 209 = .ok (.ifCond .eq 9, 3) := by decide +kernel
theorem d_MD_write_212 : decode b_MD_write 212 = .ok (.iinc 4 1, 3) := by decide +kernel
theorem d_MD_write_215 : decode b_MD_write 215 = .ok (.goto (-17), 3) := by decide +kernel
theorem d_MD_write_218 : decode b_MD_write 218 = .ok (.aload_n 0, 1) := by decide +kernel
theorem d_MD_write_219 : decode b_MD_write 219 = .ok (.getfield 35, 3) := by decide +kernel
theorem d_MD_write_222 : decode b_MD_write 222 = .ok (.iload_n 1, 1) := by decide +kernel
theorem d_MD_write_223 : decode b_MD_write 223 = .ok (.lload_n 2, 1) := by decide +kernel
theorem d_MD_write_224 : decode b_MD_write 224 = .ok (.iload 4, 2) := by decide +kernel
theorem d_MD_write_226 : decode b_MD_write 226 = .ok (.invokestatic 148, 3) := by decide +kernel
theorem d_MD_write_229 : decode b_MD_write 229 = .ok (.lastore, 1) := by decide +kernel
theorem d_MD_write_230 : decode b_MD_write 230 = .ok (.iinc 1 1, 3) := by decide +kernel
theorem d_MD_write_233 : decode b_MD_write 233 = .ok (.goto (-213), 3) := by decide +kernel
theorem d_MD_write_236 : decode b_MD_write 236 = .ok (.aload_n 0, 1) := by decide +kernel
theorem d_MD_write_237 : decode b_MD_write 237 = .ok (.aload_n 0, 1) := by decide +kernel
theorem d_MD_write_238 : decode b_MD_write 238 = .ok (.getfield 53, 3) := by decide +kernel
theorem d_MD_write_241 : decode b_MD_write 241 = .ok (.putfield 156, 3) := by decide +kernel
theorem d_MD_write_244 : decode b_MD_write 244 = .ok (.aload_n 0, 1) := by decide +kernel
theorem d_MD_write_245 : decode b_MD_write 245 = .ok (.getfield 156, 3) := by decide +kernel
theorem d_MD_write_248 : decode b_MD_write 248 = .ok (.ireturn, 1) := by decide +kernel
theorem d_MD_written_0 : decode b_MD_written 0 = .ok (.iload_n 1, 1) := by decide +kernel
theorem d_MD_written_1 : decode b_MD_written 1 = .ok (.ifCond .lt 20, 3) := by decide +kernel
theorem d_MD_written_4 : decode b_MD_written 4 = .ok (.iload_n 1, 1) := by decide +kernel
theorem d_MD_written_5 : decode b_MD_written 5 = .ok (.aload_n 0, 1) := by decide +kernel
theorem d_MD_written_6 : decode b_MD_written 6 = .ok (.getfield 156, 3) := by decide +kernel
theorem d_MD_written_9 : decode b_MD_written 9 = .ok (.if_icmp .ge 12, 3) := by decide +kernel
theorem d_MD_written_12 : decode b_MD_written 12 = .ok (.iload_n 2, 1) := by decide +kernel
theorem d_MD_written_13 : decode b_MD_written 13 = .ok (.ifCond .lt 8, 3) := by decide +kernel
theorem d_MD_written_16 : decode b_MD_written 16 = .ok (.iload_n 2, 1) := by decide +kernel
theorem d_MD_written_17 : decode b_MD_written 17 = .ok (.iconst 1, 1) := by decide +kernel
theorem d_MD_written_18 : decode b_MD_written 18 = .ok (.if_icmp .le 7, 3) := by decide +kernel
theorem d_MD_written_21 : decode b_MD_written 21 = .ok (.ldc2_w 130, 3) := by decide +kernel
theorem d_MD_written_24 : decode b_MD_written 24 = .ok (.lreturn, 1) := by decide +kernel
theorem d_MD_written_25 : decode b_MD_written 25 = .ok (.iload_n 2, 1) := by decide +kernel
theorem d_MD_written_26 : decode b_MD_written 26 = .ok (.ifCond .ne 13, 3) := by decide +kernel
theorem d_MD_written_29 : decode b_MD_written 29 = .ok (.aload_n 0, 1) := by decide +kernel
theorem d_MD_written_30 : decode b_MD_written 30 = .ok (.getfield 32, 3) := by decide +kernel
theorem d_MD_written_33 : decode b_MD_written 33 = .ok (.iload_n 1, 1) := by decide +kernel
theorem d_MD_written_34 : decode b_MD_written 34 = .ok (.iaload, 1) := by decide +kernel
theorem d_MD_written_35 : decode b_MD_written 35 = .ok (.i2l, 1) := by decide +kernel
theorem d_MD_written_36 : decode b_MD_written 36 = .ok (.goto 9, 3) := by decide +kernel
theorem d_MD_written_39 : decode b_MD_written 39 = .ok (.aload_n 0, 1) := by decide +kernel
theorem d_MD_written_40 : decode b_MD_written 40 = .ok (.getfield 35, 3) := by decide +kernel
theorem d_MD_written_43 : decode b_MD_written 43 = .ok (.iload_n 1, 1) := by decide +kernel
theorem d_MD_written_44 : decode b_MD_written 44 = .ok (.laload, 1) := by decide +kernel
theorem d_MD_written_45 : decode b_MD_written 45 = .ok (.lreturn, 1) := by decide +kernel
theorem d_MD_again_0 : decode b_MD_again 0 = .ok (.aload_n 0, 1) := by decide +kernel
theorem d_MD_again_1 : decode b_MD_again 1 = .ok (.aload_n 0, 1) := by decide +kernel
theorem d_MD_again_2 : decode b_MD_again 2 = .ok (.getfield 156, 3) := by decide +kernel
theorem d_MD_again_5 : decode b_MD_again 5 = .ok (.putfield 83, 3) := by decide +kernel
theorem d_MD_again_8 : decode b_MD_again 8 = .ok (.iconst 0, 1) := by decide +kernel
theorem d_MD_again_9 : decode b_MD_again 9 = .ok (.istore_n 1, 1) := by decide +kernel
theorem d_MD_again_10 : decode b_MD_again 10 = .ok (.iload_n 1, 1) := by decide +kernel
theorem d_MD_again_11 : decode b_MD_again 11 = .ok (.aload_n 0, 1) := by decide +kernel
theorem d_MD_again_12 : decode b_MD_again 12 = .ok (.getfield 156, 3) := by decide +kernel
theorem d_MD_again_15 : decode b_MD_again 15 = .ok (.if_icmp .ge 33, 3) := by decide +kernel
theorem d_MD_again_18 : decode b_MD_again 18 = .ok (.aload_n 0, 1) := by decide +kernel
theorem d_MD_again_19 : decode b_MD_again 19 = .ok (.getfield 13, 3) := by decide +kernel
theorem d_MD_again_22 : decode b_MD_again 22 = .ok (.iload_n 1, 1) := by decide +kernel
theorem d_MD_again_23 : decode b_MD_again 23 = .ok (.aload_n 0, 1) := by decide +kernel
theorem d_MD_again_24 : decode b_MD_again 24 = .ok (.getfield 32, 3) := by decide +kernel
theorem d_MD_again_27 : decode b_MD_again 27 = .ok (.iload_n 1, 1) := by decide +kernel
theorem d_MD_again_28 : decode b_MD_again 28 = .ok (.iaload, 1) := by decide +kernel
theorem d_MD_again_29 : decode b_MD_again 29 = .ok (.iastore, 1) := by decide +kernel
theorem d_MD_again_30 : decode b_MD_again 30 = .ok (.aload_n 0, 1) := by decide +kernel
theorem d_MD_again_31 : decode b_MD_again 31 = .ok (.getfield 17, 3) := by decide +kernel
theorem d_MD_again_34 : decode b_MD_again 34 = .ok (.iload_n 1, 1) := by decide +kernel
theorem d_MD_again_35 : decode b_MD_again 35 = .ok (.aload_n 0, 1) := by decide +kernel
theorem d_MD_again_36 : decode b_MD_again 36 = .ok (.getfield 35, 3) := by decide +kernel
theorem d_MD_again_39 : decode b_MD_again 39 = .ok (.iload_n 1, 1) := by decide +kernel
theorem d_MD_again_40 : decode b_MD_again 40 = .ok (.laload, 1) := by decide +kernel
theorem d_MD_again_41 : decode b_MD_again 41 = .ok (.lastore, 1) := by decide +kernel
theorem d_MD_again_42 : decode b_MD_again 42 = .ok (.iinc 1 1, 3) := by decide +kernel
theorem d_MD_again_45 : decode b_MD_again 45 = .ok (.goto (-35), 3) := by decide +kernel
theorem d_MD_again_48 : decode b_MD_again 48 = .ok (.aload_n 0, 1) := by decide +kernel
theorem d_MD_again_49 : decode b_MD_again 49 = .ok (.getfield 83, 3) := by decide +kernel
theorem d_MD_again_52 : decode b_MD_again 52 = .ok (.ireturn, 1) := by decide +kernel
theorem d_MD_keep_0 : decode b_MD_keep 0 = .ok (.aload_n 0, 1) := by decide +kernel
theorem d_MD_keep_1 : decode b_MD_keep 1 = .ok (.aload_n 0, 1) := by decide +kernel
theorem d_MD_keep_2 : decode b_MD_keep 2 = .ok (.getfield 53, 3) := by decide +kernel
theorem d_MD_keep_5 : decode b_MD_keep 5 = .ok (.putfield 159, 3) := by decide +kernel
theorem d_MD_keep_8 : decode b_MD_keep 8 = .ok (.iconst 0, 1) := by decide +kernel
theorem d_MD_keep_9 : decode b_MD_keep 9 = .ok (.istore_n 1, 1) := by decide +kernel
theorem d_MD_keep_10 : decode b_MD_keep 10 = .ok (.iload_n 1, 1) := by decide +kernel
theorem d_MD_keep_11 : decode b_MD_keep 11 = .ok (.aload_n 0, 1) := by decide +kernel
theorem d_MD_keep_12 : decode b_MD_keep 12 = .ok (.getfield 53, 3) := by decide +kernel
theorem d_MD_keep_15 : decode b_MD_keep 15 = .ok (.if_icmp .ge 33, 3) := by decide +kernel
theorem d_MD_keep_18 : decode b_MD_keep 18 = .ok (.aload_n 0, 1) := by decide +kernel
theorem d_MD_keep_19 : decode b_MD_keep 19 = .ok (.getfield 26, 3) := by decide +kernel
theorem d_MD_keep_22 : decode b_MD_keep 22 = .ok (.iload_n 1, 1) := by decide +kernel
theorem d_MD_keep_23 : decode b_MD_keep 23 = .ok (.aload_n 0, 1) := by decide +kernel
theorem d_MD_keep_24 : decode b_MD_keep 24 = .ok (.getfield 20, 3) := by decide +kernel
theorem d_MD_keep_27 : decode b_MD_keep 27 = .ok (.iload_n 1, 1) := by decide +kernel
theorem d_MD_keep_28 : decode b_MD_keep 28 = .ok (.iaload, 1) := by decide +kernel
theorem d_MD_keep_29 : decode b_MD_keep 29 = .ok (.iastore, 1) := by decide +kernel
theorem d_MD_keep_30 : decode b_MD_keep 30 = .ok (.aload_n 0, 1) := by decide +kernel
theorem d_MD_keep_31 : decode b_MD_keep 31 = .ok (.getfield 29, 3) := by decide +kernel
theorem d_MD_keep_34 : decode b_MD_keep 34 = .ok (.iload_n 1, 1) := by decide +kernel
theorem d_MD_keep_35 : decode b_MD_keep 35 = .ok (.aload_n 0, 1) := by decide +kernel
theorem d_MD_keep_36 : decode b_MD_keep 36 = .ok (.getfield 23, 3) := by decide +kernel
theorem d_MD_keep_39 : decode b_MD_keep 39 = .ok (.iload_n 1, 1) := by decide +kernel
theorem d_MD_keep_40 : decode b_MD_keep 40 = .ok (.laload, 1) := by decide +kernel
theorem d_MD_keep_41 : decode b_MD_keep 41 = .ok (.lastore, 1) := by decide +kernel
theorem d_MD_keep_42 : decode b_MD_keep 42 = .ok (.iinc 1 1, 3) := by decide +kernel
theorem d_MD_keep_45 : decode b_MD_keep 45 = .ok (.goto (-35), 3) := by decide +kernel
theorem d_MD_keep_48 : decode b_MD_keep 48 = .ok (.aload_n 0, 1) := by decide +kernel
theorem d_MD_keep_49 : decode b_MD_keep 49 = .ok (.getfield 159, 3) := by decide +kernel
theorem d_MD_keep_52 : decode b_MD_keep 52 = .ok (.ireturn, 1) := by decide +kernel
theorem d_MD_same_0 : decode b_MD_same 0 = .ok (.aload_n 0, 1) := by decide +kernel
theorem d_MD_same_1 : decode b_MD_same 1 = .ok (.getfield 53, 3) := by decide +kernel
theorem d_MD_same_4 : decode b_MD_same 4 = .ok (.aload_n 0, 1) := by decide +kernel
theorem d_MD_same_5 : decode b_MD_same 5 = .ok (.getfield 159, 3) := by decide +kernel
theorem d_MD_same_8 : decode b_MD_same 8 = .ok (.if_icmp .ne 7, 3) := by decide +kernel
theorem d_MD_same_11 : decode b_MD_same 11 = .ok (.iconst 1, 1) := by decide +kernel
theorem d_MD_same_12 : decode b_MD_same 12 = .ok (.goto 4, 3) := by decide +kernel
theorem d_MD_same_15 : decode b_MD_same 15 = .ok (.iconst 0, 1) := by decide +kernel
theorem d_MD_same_16 : decode b_MD_same 16 = .ok (.istore_n 1, 1) := by decide +kernel
theorem d_MD_same_17 : decode b_MD_same 17 = .ok (.iconst 0, 1) := by decide +kernel
theorem d_MD_same_18 : decode b_MD_same 18 = .ok (.istore_n 2, 1) := by decide +kernel
theorem d_MD_same_19 : decode b_MD_same 19 = .ok (.iload_n 2, 1) := by decide +kernel
theorem d_MD_same_20 : decode b_MD_same 20 = .ok (.aload_n 0, 1) := by decide +kernel
theorem d_MD_same_21 : decode b_MD_same 21 = .ok (.getfield 53, 3) := by decide +kernel
theorem d_MD_same_24 : decode b_MD_same 24 = .ok (.if_icmp .ge 62, 3) := by decide +kernel
theorem d_MD_same_27 : decode b_MD_same 27 = .ok (.iload_n 1, 1) := by decide +kernel
theorem d_MD_same_28 : decode b_MD_same 28 = .ok (.ifCond .eq 58, 3) := by decide +kernel
theorem d_MD_same_31 : decode b_MD_same 31 = .ok (.aload_n 0, 1) := by decide +kernel
theorem d_MD_same_32 : decode b_MD_same 32 = .ok (.getfield 20, 3) := by decide +kernel
theorem d_MD_same_35 : decode b_MD_same 35 = .ok (.iload_n 2, 1) := by decide +kernel
theorem d_MD_same_36 : decode b_MD_same 36 = .ok (.iaload, 1) := by decide +kernel
theorem d_MD_same_37 : decode b_MD_same 37 = .ok (.aload_n 0, 1) := by decide +kernel
theorem d_MD_same_38 : decode b_MD_same 38 = .ok (.getfield 26, 3) := by decide +kernel
theorem d_MD_same_41 : decode b_MD_same 41 = .ok (.iload_n 2, 1) := by decide +kernel
theorem d_MD_same_42 : decode b_MD_same 42 = .ok (.iaload, 1) := by decide +kernel
theorem d_MD_same_43 : decode b_MD_same 43 = .ok (.if_icmp .ne 35, 3) := by decide +kernel
theorem d_MD_same_46 : decode b_MD_same 46 = .ok (.aload_n 0, 1) := by decide +kernel
theorem d_MD_same_47 : decode b_MD_same 47 = .ok (.getfield 20, 3) := by decide +kernel
theorem d_MD_same_50 : decode b_MD_same 50 = .ok (.iload_n 2, 1) := by decide +kernel
theorem d_MD_same_51 : decode b_MD_same 51 = .ok (.iaload, 1) := by decide +kernel
theorem d_MD_same_52 : decode b_MD_same 52 = .ok (.invokestatic 98, 3) := by decide +kernel
theorem d_MD_same_55 : decode b_MD_same 55 = .ok (.ifCond .ne 19, 3) := by decide +kernel
theorem d_MD_same_58 : decode b_MD_same 58 = .ok (.aload_n 0, 1) := by decide +kernel
theorem d_MD_same_59 : decode b_MD_same 59 = .ok (.getfield 23, 3) := by decide +kernel
theorem d_MD_same_62 : decode b_MD_same 62 = .ok (.iload_n 2, 1) := by decide +kernel
theorem d_MD_same_63 : decode b_MD_same 63 = .ok (.laload, 1) := by decide +kernel
theorem d_MD_same_64 : decode b_MD_same 64 = .ok (.aload_n 0, 1) := by decide +kernel
theorem d_MD_same_65 : decode b_MD_same 65 = .ok (.getfield 29, 3) := by decide +kernel
theorem d_MD_same_68 : decode b_MD_same 68 = .ok (.iload_n 2, 1) := by decide +kernel
theorem d_MD_same_69 : decode b_MD_same 69 = .ok (.laload, 1) := by decide +kernel
theorem d_MD_same_70 : decode b_MD_same 70 = .ok (.lcmp, 1) := by decide +kernel
theorem d_MD_same_71 : decode b_MD_same 71 = .ok (.ifCond .ne 7, 3) := by decide +kernel
theorem d_MD_same_74 : decode b_MD_same 74 = .ok (.iconst 1, 1) := by decide +kernel
theorem d_MD_same_75 : decode b_MD_same 75 = .ok (.goto 4, 3) := by decide +kernel
theorem d_MD_same_78 : decode b_MD_same 78 = .ok (.iconst 0, 1) := by decide +kernel
theorem d_MD_same_79 : decode b_MD_same 79 = .ok (.istore_n 1, 1) := by decide +kernel
theorem d_MD_same_80 : decode b_MD_same 80 = .ok (.iinc 2 1, 3) := by decide +kernel
theorem d_MD_same_83 : decode b_MD_same 83 = .ok (.goto (-64), 3) := by decide +kernel
theorem d_MD_same_86 : decode b_MD_same 86 = .ok (.iload_n 1, 1) := by decide +kernel
theorem d_MD_same_87 : decode b_MD_same 87 = .ok (.ireturn, 1) := by decide +kernel
