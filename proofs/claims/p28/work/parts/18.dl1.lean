theorem dL_cell_0 : decode cL_cell 0 = .ok (.iload_n 1, 1) := by decide +kernel
theorem dL_cell_1 : decode cL_cell 1 = .ok (.aload_n 0, 1) := by decide +kernel
theorem dL_cell_2 : decode cL_cell 2 = .ok (.arraylength, 1) := by decide +kernel
theorem dL_cell_3 : decode cL_cell 3 = .ok (.if_icmp .ge 9, 3) := by decide +kernel
theorem dL_cell_6 : decode cL_cell 6 = .ok (.aload_n 0, 1) := by decide +kernel
theorem dL_cell_7 : decode cL_cell 7 = .ok (.iload_n 1, 1) := by decide +kernel
theorem dL_cell_8 : decode cL_cell 8 = .ok (.iaload, 1) := by decide +kernel
theorem dL_cell_9 : decode cL_cell 9 = .ok (.goto 18, 3) := by decide +kernel
theorem dL_cell_12 : decode cL_cell 12 = .ok (.sipush 7919, 3) := by decide +kernel
theorem dL_cell_15 : decode cL_cell 15 = .ok (.iload_n 1, 1) := by decide +kernel
theorem dL_cell_16 : decode cL_cell 16 = .ok (.sipush 149, 3) := by decide +kernel
theorem dL_cell_19 : decode cL_cell 19 = .ok (.iadd, 1) := by decide +kernel
theorem dL_cell_20 : decode cL_cell 20 = .ok (.imul, 1) := by decide +kernel
theorem dL_cell_21 : decode cL_cell 21 = .ok (.iload_n 1, 1) := by decide +kernel
theorem dL_cell_22 : decode cL_cell 22 = .ok (.sipush 1801, 3) := by decide +kernel
theorem dL_cell_25 : decode cL_cell 25 = .ok (.iadd, 1) := by decide +kernel
theorem dL_cell_26 : decode cL_cell 26 = .ok (.imul, 1) := by decide +kernel
theorem dL_cell_27 : decode cL_cell 27 = .ok (.ireturn, 1) := by decide +kernel
theorem dL_low_0 : decode cL_low 0 = .ok (.iload_n 0, 1) := by decide +kernel
theorem dL_low_1 : decode cL_low 1 = .ok (.ldc 7, 2) := by decide +kernel
theorem dL_low_3 : decode cL_low 3 = .ok (.iand, 1) := by decide +kernel
theorem dL_low_4 : decode cL_low 4 = .ok (.iload_n 1, 1) := by decide +kernel
theorem dL_low_5 : decode cL_low 5 = .ok (.irem, 1) := by decide +kernel
theorem dL_low_6 : decode cL_low 6 = .ok (.ireturn, 1) := by decide +kernel
theorem dL_put_0 : decode cL_put 0 = .ok (.aload_n 0, 1) := by decide +kernel
theorem dL_put_1 : decode cL_put 1 = .ok (.iload_n 1, 1) := by decide +kernel
theorem dL_put_2 : decode cL_put 2 = .ok (.iload_n 2, 1) := by decide +kernel
theorem dL_put_3 : decode cL_put 3 = .ok (.iload_n 3, 1) := by decide +kernel
theorem dL_put_4 : decode cL_put 4 = .ok (.invokevirtual 8, 3) := by decide +kernel
theorem dL_put_7 : decode cL_put 7 = .ok (.ireturn, 1) := by decide +kernel
theorem dL_put_8 : decode cL_put 8 = .ok (.astore 4, 2) := by decide +kernel
theorem dL_put_10 : decode cL_put 10 = .ok (.ldc 16, 2) := by decide +kernel
theorem dL_put_12 : decode cL_put 12 = .ok (.ireturn, 1) := by decide +kernel
theorem dL_put_13 : decode cL_put 13 = .ok (.astore 4, 2) := by decide +kernel
theorem dL_put_15 : decode cL_put 15 = .ok (.ldc 16, 2) := by decide +kernel
theorem dL_put_17 : decode cL_put 17 = .ok (.ireturn, 1) := by decide +kernel
theorem dL_take_0 : decode cL_take 0 = .ok (.aload_n 0, 1) := by decide +kernel
theorem dL_take_1 : decode cL_take 1 = .ok (.iload_n 1, 1) := by decide +kernel
theorem dL_take_2 : decode cL_take 2 = .ok (.iload_n 2, 1) := by decide +kernel
theorem dL_take_3 : decode cL_take 3 = .ok (.iload_n 3, 1) := by decide +kernel
theorem dL_take_4 : decode cL_take 4 = .ok (.iload 4, 2) := by decide +kernel
theorem dL_take_6 : decode cL_take 6 = .ok (.invokevirtual 19, 3) := by decide +kernel
theorem dL_take_9 : decode cL_take 9 = .ok (.ireturn, 1) := by decide +kernel
theorem dL_take_10 : decode cL_take 10 = .ok (.astore 5, 2) := by decide +kernel
theorem dL_take_12 : decode cL_take 12 = .ok (.ldc 16, 2) := by decide +kernel
theorem dL_take_14 : decode cL_take 14 = .ok (.ireturn, 1) := by decide +kernel
theorem dL_take_15 : decode cL_take 15 = .ok (.astore 5, 2) := by decide +kernel
theorem dL_take_17 : decode cL_take 17 = .ok (.ldc 16, 2) := by decide +kernel
theorem dL_take_19 : decode cL_take 19 = .ok (.ireturn, 1) := by decide +kernel
theorem dL_multiply_0 : decode cL_multiply 0 = .ok (.aload_n 0, 1) := by decide +kernel
theorem dL_multiply_1 : decode cL_multiply 1 = .ok (.iload_n 1, 1) := by decide +kernel
theorem dL_multiply_2 : decode cL_multiply 2 = .ok (.iload_n 2, 1) := by decide +kernel
theorem dL_multiply_3 : decode cL_multiply 3 = .ok (.invokevirtual 23, 3) := by decide +kernel
theorem dL_multiply_6 : decode cL_multiply 6 = .ok (.ireturn, 1) := by decide +kernel
theorem dL_multiply_7 : decode cL_multiply 7 = .ok (.astore_n 3, 1) := by decide +kernel
theorem dL_multiply_8 : decode cL_multiply 8 = .ok (.ldc 16, 2) := by decide +kernel
theorem dL_multiply_10 : decode cL_multiply 10 = .ok (.ireturn, 1) := by decide +kernel
theorem dL_multiply_11 : decode cL_multiply 11 = .ok (.astore_n 3, 1) := by decide +kernel
theorem dL_multiply_12 : decode cL_multiply 12 = .ok (.ldc 16, 2) := by decide +kernel
theorem dL_multiply_14 : decode cL_multiply 14 = .ok (.ireturn, 1) := by decide +kernel
theorem dL_rotate_0 : decode cL_rotate 0 = .ok (.aload_n 0, 1) := by decide +kernel
theorem dL_rotate_1 : decode cL_rotate 1 = .ok (.iload_n 1, 1) := by decide +kernel
theorem dL_rotate_2 : decode cL_rotate 2 = .ok (.iload_n 2, 1) := by decide +kernel
theorem dL_rotate_3 : decode cL_rotate 3 = .ok (.invokevirtual 27, 3) := by decide +kernel
theorem dL_rotate_6 : decode cL_rotate 6 = .ok (.ireturn, 1) := by decide +kernel
theorem dL_rotate_7 : decode cL_rotate 7 = .ok (.astore_n 3, 1) := by decide +kernel
theorem dL_rotate_8 : decode cL_rotate 8 = .ok (.ldc 16, 2) := by decide +kernel
theorem dL_rotate_10 : decode cL_rotate 10 = .ok (.ireturn, 1) := by decide +kernel
theorem dL_rotate_11 : decode cL_rotate 11 = .ok (.astore_n 3, 1) := by decide +kernel
theorem dL_rotate_12 : decode cL_rotate 12 = .ok (.ldc 16, 2) := by decide +kernel
theorem dL_rotate_14 : decode cL_rotate 14 = .ok (.ireturn, 1) := by decide +kernel
theorem dL_write_0 : decode cL_write 0 = .ok (.aload_n 0, 1) := by decide +kernel
theorem dL_write_1 : decode cL_write 1 = .ok (.iload_n 1, 1) := by decide +kernel
theorem dL_write_2 : decode cL_write 2 = .ok (.invokevirtual 30, 3) := by decide +kernel
theorem dL_write_5 : decode cL_write 5 = .ok (.ireturn, 1) := by decide +kernel
theorem dL_write_6 : decode cL_write 6 = .ok (.astore_n 2, 1) := by decide +kernel
theorem dL_write_7 : decode cL_write 7 = .ok (.ldc 16, 2) := by decide +kernel
theorem dL_write_9 : decode cL_write 9 = .ok (.ireturn, 1) := by decide +kernel
theorem dL_write_10 : decode cL_write 10 = .ok (.astore_n 2, 1) := by decide +kernel
theorem dL_write_11 : decode cL_write 11 = .ok (.ldc 16, 2) := by decide +kernel
theorem dL_write_13 : decode cL_write 13 = .ok (.ireturn, 1) := by decide +kernel
theorem dL_complete_0 : decode cL_complete 0 = .ok (.aload_n 0, 1) := by decide +kernel
theorem dL_complete_1 : decode cL_complete 1 = .ok (.iload_n 1, 1) := by decide +kernel
theorem dL_complete_2 : decode cL_complete 2 = .ok (.invokevirtual 36, 3) := by decide +kernel
theorem dL_complete_5 : decode cL_complete 5 = .ok (.ireturn, 1) := by decide +kernel
theorem dL_complete_6 : decode cL_complete 6 = .ok (.astore_n 2, 1) := by decide +kernel
theorem dL_complete_7 : decode cL_complete 7 = .ok (.ldc 16, 2) := by decide +kernel
theorem dL_complete_9 : decode cL_complete 9 = .ok (.ireturn, 1) := by decide +kernel
theorem dL_act_0 : decode cL_act 0 = .ok (.iload_n 1, 1) := by decide +kernel
theorem dL_act_1 : decode cL_act 1 = .ok (.bipush 24, 2) := by decide +kernel
theorem dL_act_3 : decode cL_act 3 = .ok (.ishr, 1) := by decide +kernel
theorem dL_act_4 : decode cL_act 4 = .ok (.bipush 10, 2) := by decide +kernel
theorem dL_act_6 : decode cL_act 6 = .ok (.invokestatic 39, 3) := by decide +kernel
theorem dL_act_9 : decode cL_act 9 = .ok (.ifCond .ne 7, 3) := by decide +kernel
theorem dL_act_12 : decode cL_act 12 = .ok (.iconst 1, 1) := by decide +kernel
theorem dL_act_13 : decode cL_act 13 = .ok (.goto 4, 3) := by decide +kernel
theorem dL_act_16 : decode cL_act 16 = .ok (.iconst 0, 1) := by decide +kernel
theorem dL_act_17 : decode cL_act 17 = .ok (.istore_n 2, 1) := by decide +kernel
theorem dL_act_18 : decode cL_act 18 = .ok (.iload_n 1, 1) := by decide +kernel
theorem dL_act_19 : decode cL_act 19 = .ok (.iconst 3, 1) := by decide +kernel
theorem dL_act_20 : decode cL_act 20 = .ok (.ishr, 1) := by decide +kernel
theorem dL_act_21 : decode cL_act 21 = .ok (.iconst 2, 1) := by decide +kernel
theorem dL_act_22 : decode cL_act 22 = .ok (.iload_n 2, 1) := by decide +kernel
theorem dL_act_23 : decode cL_act 23 = .ok (.iadd, 1) := by decide +kernel
theorem dL_act_24 : decode cL_act 24 = .ok (.invokestatic 39, 3) := by decide +kernel
theorem dL_act_27 : decode cL_act 27 = .ok (.istore_n 3, 1) := by decide +kernel
theorem dL_act_28 : decode cL_act 28 = .ok (.iload_n 1, 1) := by decide +kernel
theorem dL_act_29 : decode cL_act 29 = .ok (.bipush 7, 2) := by decide +kernel
theorem dL_act_31 : decode cL_act 31 = .ok (.ishr, 1) := by decide +kernel
theorem dL_act_32 : decode cL_act 32 = .ok (.bipush 12, 2) := by decide +kernel
theorem dL_act_34 : decode cL_act 34 = .ok (.iload_n 2, 1) := by decide +kernel
theorem dL_act_35 : decode cL_act 35 = .ok (.iadd, 1) := by decide +kernel
theorem dL_act_36 : decode cL_act 36 = .ok (.invokestatic 39, 3) := by decide +kernel
theorem dL_act_39 : decode cL_act 39 = .ok (.istore 4, 2) := by decide +kernel
theorem dL_act_41 : decode cL_act 41 = .ok (.iload_n 1, 1) := by decide +kernel
theorem dL_act_42 : decode cL_act 42 = .ok (.bipush 11, 2) := by decide +kernel
theorem dL_act_44 : decode cL_act 44 = .ok (.ishr, 1) := by decide +kernel
theorem dL_act_45 : decode cL_act 45 = .ok (.bipush 12, 2) := by decide +kernel
theorem dL_act_47 : decode cL_act 47 = .ok (.iload_n 2, 1) := by decide +kernel
theorem dL_act_48 : decode cL_act 48 = .ok (.iadd, 1) := by decide +kernel
theorem dL_act_49 : decode cL_act 49 = .ok (.invokestatic 39, 3) := by decide +kernel
theorem dL_act_52 : decode cL_act 52 = .ok (.istore 5, 2) := by decide +kernel
theorem dL_act_54 : decode cL_act 54 = .ok (.iload_n 1, 1) := by decide +kernel
theorem dL_act_55 : decode cL_act 55 = .ok (.bipush 13, 2) := by decide +kernel
theorem dL_act_57 : decode cL_act 57 = .ok (.invokestatic 39, 3) := by decide +kernel
theorem dL_act_60 : decode cL_act 60 = .ok (.tableswitch 193 0 7 #[48, 48, 76, 149, 157, 157, 164, 170], 48) := by decide +kernel
theorem dL_act_108 : decode cL_act 108 = .ok (.aload_n 0, 1) := by decide +kernel
theorem dL_act_109 : decode cL_act 109 = .ok (.iload_n 3, 1) := by decide +kernel
theorem dL_act_110 : decode cL_act 110 = .ok (.iload_n 1, 1) := by decide +kernel
theorem dL_act_111 : decode cL_act 111 = .ok (.bipush 15, 2) := by decide +kernel
theorem dL_act_113 : decode cL_act 113 = .ok (.ishr, 1) := by decide +kernel
theorem dL_act_114 : decode cL_act 114 = .ok (.iconst 4, 1) := by decide +kernel
theorem dL_act_115 : decode cL_act 115 = .ok (.iload_n 2, 1) := by decide +kernel
theorem dL_act_116 : decode cL_act 116 = .ok (.iadd, 1) := by decide +kernel
theorem dL_act_117 : decode cL_act 117 = .ok (.invokestatic 39, 3) := by decide +kernel
theorem dL_act_120 : decode cL_act 120 = .ok (.iload 4, 2) := by decide +kernel
theorem dL_act_122 : decode cL_act 122 = .ok (.iload_n 1, 1) := by decide +kernel
theorem dL_act_123 : decode cL_act 123 = .ok (.bipush 18, 2) := by decide +kernel
theorem dL_act_125 : decode cL_act 125 = .ok (.ishr, 1) := by decide +kernel
theorem dL_act_126 : decode cL_act 126 = .ok (.iconst 2, 1) := by decide +kernel
theorem dL_act_127 : decode cL_act 127 = .ok (.iload_n 2, 1) := by decide +kernel
theorem dL_act_128 : decode cL_act 128 = .ok (.iadd, 1) := by decide +kernel
theorem dL_act_129 : decode cL_act 129 = .ok (.invokestatic 39, 3) := by decide +kernel
theorem dL_act_132 : decode cL_act 132 = .ok (.invokestatic 44, 3) := by decide +kernel
theorem dL_act_135 : decode cL_act 135 = .ok (.ireturn, 1) := by decide +kernel
theorem dL_act_136 : decode cL_act 136 = .ok (.aload_n 0, 1) := by decide +kernel
theorem dL_act_137 : decode cL_act 137 = .ok (.iload_n 3, 1) := by decide +kernel
theorem dL_act_138 : decode cL_act 138 = .ok (.iload_n 2, 1) := by decide +kernel
theorem dL_act_139 : decode cL_act 139 = .ok (.iconst 1, 1) := by decide +kernel
theorem dL_act_140 : decode cL_act 140 = .ok (.if_icmp .ne 15, 3) := by decide +kernel
theorem dL_act_143 : decode cL_act 143 = .ok (.iload_n 1, 1) := by decide +kernel
theorem dL_act_144 : decode cL_act 144 = .ok (.bipush 9, 2) := by decide +kernel
theorem dL_act_146 : decode cL_act 146 = .ok (.ishr, 1) := by decide +kernel
theorem dL_act_147 : decode cL_act 147 = .ok (.bipush 13, 2) := by decide +kernel
theorem dL_act_149 : decode cL_act 149 = .ok (.invokestatic 39, 3) := by decide +kernel
theorem dL_act_152 : decode cL_act 152 = .ok (.goto 53, 3) := by decide +kernel
theorem dL_act_155 : decode cL_act 155 = .ok (.iload_n 1, 1) := by decide +kernel
theorem dL_act_156 : decode cL_act 156 = .ok (.bipush 9, 2) := by decide +kernel
theorem dL_act_158 : decode cL_act 158 = .ok (.ishr, 1) := by decide +kernel
theorem dL_act_159 : decode cL_act 159 = .ok (.iconst 4, 1) := by decide +kernel
theorem dL_act_160 : decode cL_act 160 = .ok (.invokestatic 39, 3) := by decide +kernel
theorem dL_act_163 : decode cL_act 163 = .ok (.ifCond .ne 7, 3) := by decide +kernel
theorem dL_act_166 : decode cL_act 166 = .ok (.iconst 1, 1) := by decide +kernel
theorem dL_act_167 : decode cL_act 167 = .ok (.goto 38, 3) := by decide +kernel
theorem dL_act_170 : decode cL_act 170 = .ok (.iload_n 1, 1) := by decide +kernel
theorem dL_act_171 : decode cL_act 171 = .ok (.bipush 9, 2) := by decide +kernel
theorem dL_act_173 : decode cL_act 173 = .ok (.ishr, 1) := by decide +kernel
theorem dL_act_174 : decode cL_act 174 = .ok (.iconst 4, 1) := by decide +kernel
theorem dL_act_175 : decode cL_act 175 = .ok (.invokestatic 39, 3) := by decide +kernel
theorem dL_act_178 : decode cL_act 178 = .ok (.iconst 1, 1) := by decide +kernel
theorem dL_act_179 : decode cL_act 179 = .ok (.if_icmp .ne 7, 3) := by decide +kernel
theorem dL_act_182 : decode cL_act 182 = .ok (.iconst 5, 1) := by decide +kernel
theorem dL_act_183 : decode cL_act 183 = .ok (.goto 22, 3) := by decide +kernel
theorem dL_act_186 : decode cL_act 186 = .ok (.iload_n 1, 1) := by decide +kernel
theorem dL_act_187 : decode cL_act 187 = .ok (.bipush 9, 2) := by decide +kernel
theorem dL_act_189 : decode cL_act 189 = .ok (.ishr, 1) := by decide +kernel
theorem dL_act_190 : decode cL_act 190 = .ok (.iconst 4, 1) := by decide +kernel
theorem dL_act_191 : decode cL_act 191 = .ok (.invokestatic 39, 3) := by decide +kernel
theorem dL_act_194 : decode cL_act 194 = .ok (.iconst 2, 1) := by decide +kernel
theorem dL_act_195 : decode cL_act 195 = .ok (.if_icmp .ne 8, 3) := by decide +kernel
theorem dL_act_198 : decode cL_act 198 = .ok (.bipush 7, 2) := by decide +kernel
theorem dL_act_200 : decode cL_act 200 = .ok (.goto 5, 3) := by decide +kernel
theorem dL_act_203 : decode cL_act 203 = .ok (.bipush 11, 2) := by decide +kernel
theorem dL_act_205 : decode cL_act 205 = .ok (.invokestatic 47, 3) := by decide +kernel
theorem dL_act_208 : decode cL_act 208 = .ok (.ireturn, 1) := by decide +kernel
theorem dL_act_209 : decode cL_act 209 = .ok (.aload_n 0, 1) := by decide +kernel
theorem dL_act_210 : decode cL_act 210 = .ok (.iload_n 3, 1) := by decide +kernel
theorem dL_act_211 : decode cL_act 211 = .ok (.iload 4, 2) := by decide +kernel
theorem dL_act_213 : decode cL_act 213 = .ok (.invokestatic 50, 3) := by decide +kernel
theorem dL_act_216 : decode cL_act 216 = .ok (.ireturn, 1) := by decide +kernel
theorem dL_act_217 : decode cL_act 217 = .ok (.aload_n 0, 1) := by decide +kernel
theorem dL_act_218 : decode cL_act 218 = .ok (.iload 4, 2) := by decide +kernel
theorem dL_act_220 : decode cL_act 220 = .ok (.invokestatic 52, 3) := by decide +kernel
theorem dL_act_223 : decode cL_act 223 = .ok (.ireturn, 1) := by decide +kernel
theorem dL_act_224 : decode cL_act 224 = .ok (.aload_n 0, 1) := by decide +kernel
theorem dL_act_225 : decode cL_act 225 = .ok (.iload_n 3, 1) := by decide +kernel
theorem dL_act_226 : decode cL_act 226 = .ok (.invokestatic 55, 3) := by decide +kernel
theorem dL_act_229 : decode cL_act 229 = .ok (.ireturn, 1) := by decide +kernel
theorem dL_act_230 : decode cL_act 230 = .ok (.iload_n 1, 1) := by decide +kernel
theorem dL_act_231 : decode cL_act 231 = .ok (.bipush 9, 2) := by decide +kernel
theorem dL_act_233 : decode cL_act 233 = .ok (.ishr, 1) := by decide +kernel
theorem dL_act_234 : decode cL_act 234 = .ok (.iconst 3, 1) := by decide +kernel
theorem dL_act_235 : decode cL_act 235 = .ok (.iand, 1) := by decide +kernel
theorem dL_act_236 : decode cL_act 236 = .ok (.ifCond .ne 10, 3) := by decide +kernel
theorem dL_act_239 : decode cL_act 239 = .ok (.aload_n 0, 1) := by decide +kernel
theorem dL_act_240 : decode cL_act 240 = .ok (.invokevirtual 57, 3) := by decide +kernel
theorem dL_act_243 : decode cL_act 243 = .ok (.goto 9, 3) := by decide +kernel
theorem dL_act_246 : decode cL_act 246 = .ok (.aload_n 0, 1) := by decide +kernel
theorem dL_act_247 : decode cL_act 247 = .ok (.iload 5, 2) := by decide +kernel
theorem dL_act_249 : decode cL_act 249 = .ok (.invokestatic 52, 3) := by decide +kernel
theorem dL_act_252 : decode cL_act 252 = .ok (.ireturn, 1) := by decide +kernel
theorem dL_act_253 : decode cL_act 253 = .ok (.aload_n 0, 1) := by decide +kernel
theorem dL_act_254 : decode cL_act 254 = .ok (.iload_n 3, 1) := by decide +kernel
theorem dL_act_255 : decode cL_act 255 = .ok (.iload 5, 2) := by decide +kernel
theorem dL_act_257 : decode cL_act 257 = .ok (.iload 4, 2) := by decide +kernel
theorem dL_act_259 : decode cL_act 259 = .ok (.invokestatic 61, 3) := by decide +kernel
theorem dL_act_262 : decode cL_act 262 = .ok (.ireturn, 1) := by decide +kernel
theorem dL_areAlike_0 : decode cL_areAlike 0 = .ok (.aload_n 0, 1) := by decide +kernel
theorem dL_areAlike_1 : decode cL_areAlike 1 = .ok (.iconst 0, 1) := by decide +kernel
theorem dL_areAlike_2 : decode cL_areAlike 2 = .ok (.invokevirtual 64, 3) := by decide +kernel
theorem dL_areAlike_5 : decode cL_areAlike 5 = .ok (.aload_n 1, 1) := by decide +kernel
theorem dL_areAlike_6 : decode cL_areAlike 6 = .ok (.iconst 0, 1) := by decide +kernel
theorem dL_areAlike_7 : decode cL_areAlike 7 = .ok (.invokevirtual 64, 3) := by decide +kernel
theorem dL_areAlike_10 : decode cL_areAlike 10 = .ok (.lcmp, 1) := by decide +kernel
theorem dL_areAlike_11 : decode cL_areAlike 11 = .ok (.ifCond .ne 21, 3) := by decide +kernel
theorem dL_areAlike_14 : decode cL_areAlike 14 = .ok (.aload_n 0, 1) := by decide +kernel
theorem dL_areAlike_15 : decode cL_areAlike 15 = .ok (.iconst 1, 1) := by decide +kernel
theorem dL_areAlike_16 : decode cL_areAlike 16 = .ok (.invokevirtual 64, 3) := by decide +kernel
theorem dL_areAlike_19 : decode cL_areAlike 19 = .ok (.aload_n 1, 1) := by decide +kernel
theorem dL_areAlike_20 : decode cL_areAlike 20 = .ok (.iconst 1, 1) := by decide +kernel
theorem dL_areAlike_21 : decode cL_areAlike 21 = .ok (.invokevirtual 64, 3) := by decide +kernel
theorem dL_areAlike_24 : decode cL_areAlike 24 = .ok (.lcmp, 1) := by decide +kernel
theorem dL_areAlike_25 : decode cL_areAlike 25 = .ok (.ifCond .ne 7, 3) := by decide +kernel
theorem dL_areAlike_28 : decode cL_areAlike 28 = .ok (.iconst 1, 1) := by decide +kernel
theorem dL_areAlike_29 : decode cL_areAlike 29 = .ok (.goto 4, 3) := by decide +kernel
theorem dL_areAlike_32 : decode cL_areAlike 32 = .ok (.iconst 0, 1) := by decide +kernel
theorem dL_areAlike_33 : decode cL_areAlike 33 = .ok (.istore_n 2, 1) := by decide +kernel
theorem dL_areAlike_34 : decode cL_areAlike 34 = .ok (.iconst 0, 1) := by decide +kernel
theorem dL_areAlike_35 : decode cL_areAlike 35 = .ok (.istore_n 3, 1) := by decide +kernel
theorem dL_areAlike_36 : decode cL_areAlike 36 = .ok (.iload_n 3, 1) := by decide +kernel
theorem dL_areAlike_37 : decode cL_areAlike 37 = .ok (.bipush 12, 2) := by decide +kernel
theorem dL_areAlike_39 : decode cL_areAlike 39 = .ok (.if_icmp .ge 49, 3) := by decide +kernel
theorem dL_areAlike_42 : decode cL_areAlike 42 = .ok (.iload_n 2, 1) := by decide +kernel
theorem dL_areAlike_43 : decode cL_areAlike 43 = .ok (.ifCond .eq 45, 3) := by decide +kernel
theorem dL_areAlike_46 : decode cL_areAlike 46 = .ok (.aload_n 0, 1) := by decide +kernel
theorem dL_areAlike_47 : decode cL_areAlike 47 = .ok (.iconst 0, 1) := by decide +kernel
theorem dL_areAlike_48 : decode cL_areAlike 48 = .ok (.iload_n 3, 1) := by decide +kernel
theorem dL_areAlike_49 : decode cL_areAlike 49 = .ok (.invokevirtual 68, 3) := by decide +kernel
theorem dL_areAlike_52 : decode cL_areAlike 52 = .ok (.aload_n 1, 1) := by decide +kernel
theorem dL_areAlike_53 : decode cL_areAlike 53 = .ok (.iconst 0, 1) := by decide +kernel
theorem dL_areAlike_54 : decode cL_areAlike 54 = .ok (.iload_n 3, 1) := by decide +kernel
theorem dL_areAlike_55 : decode cL_areAlike 55 = .ok (.invokevirtual 68, 3) := by decide +kernel
theorem dL_areAlike_58 : decode cL_areAlike 58 = .ok (.if_icmp .ne 22, 3) := by decide +kernel
theorem dL_areAlike_61 : decode cL_areAlike 61 = .ok (.aload_n 0, 1) := by decide +kernel
theorem dL_areAlike_62 : decode cL_areAlike 62 = .ok (.iconst 1, 1) := by decide +kernel
theorem dL_areAlike_63 : decode cL_areAlike 63 = .ok (.iload_n 3, 1) := by decide +kernel
theorem dL_areAlike_64 : decode cL_areAlike 64 = .ok (.invokevirtual 68, 3) := by decide +kernel
theorem dL_areAlike_67 : decode cL_areAlike 67 = .ok (.aload_n 1, 1) := by decide +kernel
theorem dL_areAlike_68 : decode cL_areAlike 68 = .ok (.iconst 1, 1) := by decide +kernel
theorem dL_areAlike_69 : decode cL_areAlike 69 = .ok (.iload_n 3, 1) := by decide +kernel
theorem dL_areAlike_70 : decode cL_areAlike 70 = .ok (.invokevirtual 68, 3) := by decide +kernel
theorem dL_areAlike_73 : decode cL_areAlike 73 = .ok (.if_icmp .ne 7, 3) := by decide +kernel
theorem dL_areAlike_76 : decode cL_areAlike 76 = .ok (.iconst 1, 1) := by decide +kernel
theorem dL_areAlike_77 : decode cL_areAlike 77 = .ok (.goto 4, 3) := by decide +kernel
theorem dL_areAlike_80 : decode cL_areAlike 80 = .ok (.iconst 0, 1) := by decide +kernel
theorem dL_areAlike_81 : decode cL_areAlike 81 = .ok (.istore_n 2, 1) := by decide +kernel
theorem dL_areAlike_82 : decode cL_areAlike 82 = .ok (.iinc 3 1, 3) := by decide +kernel
theorem dL_areAlike_85 : decode cL_areAlike 85 = .ok (.goto (-49), 3) := by decide +kernel
theorem dL_areAlike_88 : decode cL_areAlike 88 = .ok (.iload_n 2, 1) := by decide +kernel
theorem dL_areAlike_89 : decode cL_areAlike 89 = .ok (.ireturn, 1) := by decide +kernel
theorem dL_isRowSo_0 : decode cL_isRowSo 0 = .ok (.iconst 0, 1) := by decide +kernel
theorem dL_isRowSo_1 : decode cL_isRowSo 1 = .ok (.istore_n 3, 1) := by decide +kernel
theorem dL_isRowSo_2 : decode cL_isRowSo 2 = .ok (.iconst 0, 1) := by decide +kernel
theorem dL_isRowSo_3 : decode cL_isRowSo 3 = .ok (.istore 4, 2) := by decide +kernel
theorem dL_isRowSo_5 : decode cL_isRowSo 5 = .ok (.iload 4, 2) := by decide +kernel
theorem dL_isRowSo_7 : decode cL_isRowSo 7 = .ok (.bipush 12, 2) := by decide +kernel
theorem dL_isRowSo_9 : decode cL_isRowSo 9 = .ok (.if_icmp .ge 266, 3) := by decide +kernel
theorem dL_isRowSo_12 : decode cL_isRowSo 12 = .ok (.aload_n 0, 1) := by decide +kernel
theorem dL_isRowSo_13 : decode cL_isRowSo 13 = .ok (.iload_n 1, 1) := by decide +kernel
theorem dL_isRowSo_14 : decode cL_isRowSo 14 = .ok (.iload 4, 2) := by decide +kernel
theorem dL_isRowSo_16 : decode cL_isRowSo 16 = .ok (.invokevirtual 68, 3) := by decide +kernel
theorem dL_isRowSo_19 : decode cL_isRowSo 19 = .ok (.istore 5, 2) := by decide +kernel
theorem dL_isRowSo_21 : decode cL_isRowSo 21 = .ok (.iload_n 3, 1) := by decide +kernel
theorem dL_isRowSo_22 : decode cL_isRowSo 22 = .ok (.iconst 1, 1) := by decide +kernel
theorem dL_isRowSo_23 : decode cL_isRowSo 23 = .ok (.iload 5, 2) := by decide +kernel
theorem dL_isRowSo_25 : decode cL_isRowSo 25 = .ok (.ishl, 1) := by decide +kernel
theorem dL_isRowSo_26 : decode cL_isRowSo 26 = .ok (.ior, 1) := by decide +kernel
theorem dL_isRowSo_27 : decode cL_isRowSo 27 = .ok (.istore_n 3, 1) := by decide +kernel
theorem dL_isRowSo_28 : decode cL_isRowSo 28 = .ok (.aload_n 0, 1) := by decide +kernel
theorem dL_isRowSo_29 : decode cL_isRowSo 29 = .ok (.iload_n 1, 1) := by decide +kernel
theorem dL_isRowSo_30 : decode cL_isRowSo 30 = .ok (.iconst 0, 1) := by decide +kernel
theorem dL_isRowSo_31 : decode cL_isRowSo 31 = .ok (.iload_n 2, 1) := by decide +kernel
theorem dL_isRowSo_32 : decode cL_isRowSo 32 = .ok (.iload 4, 2) := by decide +kernel
theorem dL_isRowSo_34 : decode cL_isRowSo 34 = .ok (.invokevirtual 71, 3) := by decide +kernel
theorem dL_isRowSo_37 : decode cL_isRowSo 37 = .ok (.istore 6, 2) := by decide +kernel
theorem dL_isRowSo_39 : decode cL_isRowSo 39 = .ok (.aload_n 0, 1) := by decide +kernel
theorem dL_isRowSo_40 : decode cL_isRowSo 40 = .ok (.iload_n 1, 1) := by decide +kernel
theorem dL_isRowSo_41 : decode cL_isRowSo 41 = .ok (.iconst 1, 1) := by decide +kernel
theorem dL_isRowSo_42 : decode cL_isRowSo 42 = .ok (.iload_n 2, 1) := by decide +kernel
theorem dL_isRowSo_43 : decode cL_isRowSo 43 = .ok (.iload 4, 2) := by decide +kernel
theorem dL_isRowSo_45 : decode cL_isRowSo 45 = .ok (.invokevirtual 71, 3) := by decide +kernel
theorem dL_isRowSo_48 : decode cL_isRowSo 48 = .ok (.istore 7, 2) := by decide +kernel
theorem dL_isRowSo_50 : decode cL_isRowSo 50 = .ok (.iload 6, 2) := by decide +kernel
theorem dL_isRowSo_52 : decode cL_isRowSo 52 = .ok (.iload 7, 2) := by decide +kernel
theorem dL_isRowSo_54 : decode cL_isRowSo 54 = .ok (.iadd, 1) := by decide +kernel
theorem dL_isRowSo_55 : decode cL_isRowSo 55 = .ok (.bipush 12, 2) := by decide +kernel
theorem dL_isRowSo_57 : decode cL_isRowSo 57 = .ok (.irem, 1) := by decide +kernel
theorem dL_isRowSo_58 : decode cL_isRowSo 58 = .ok (.iconst 2, 1) := by decide +kernel
theorem dL_isRowSo_59 : decode cL_isRowSo 59 = .ok (.iload_n 2, 1) := by decide +kernel
theorem dL_isRowSo_60 : decode cL_isRowSo 60 = .ok (.imul, 1) := by decide +kernel
theorem dL_isRowSo_61 : decode cL_isRowSo 61 = .ok (.bipush 12, 2) := by decide +kernel
theorem dL_isRowSo_63 : decode cL_isRowSo 63 = .ok (.irem, 1) := by decide +kernel
theorem dL_isRowSo_64 : decode cL_isRowSo 64 = .ok (.if_icmp .ne 60, 3) := by decide +kernel
theorem dL_isRowSo_67 : decode cL_isRowSo 67 = .ok (.aload_n 0, 1) := by decide +kernel
theorem dL_isRowSo_68 : decode cL_isRowSo 68 = .ok (.iload_n 1, 1) := by decide +kernel
theorem dL_isRowSo_69 : decode cL_isRowSo 69 = .ok (.iconst 2, 1) := by decide +kernel
theorem dL_isRowSo_70 : decode cL_isRowSo 70 = .ok (.iload_n 2, 1) := by decide +kernel
theorem dL_isRowSo_71 : decode cL_isRowSo 71 = .ok (.bipush 11, 2) := by decide +kernel
theorem dL_isRowSo_73 : decode cL_isRowSo 73 = .ok (.iload 4, 2) := by decide +kernel
theorem dL_isRowSo_75 : decode cL_isRowSo 75 = .ok (.isub, 1) := by decide +kernel
theorem dL_isRowSo_76 : decode cL_isRowSo 76 = .ok (.invokevirtual 71, 3) := by decide +kernel
theorem dL_isRowSo_79 : decode cL_isRowSo 79 = .ok (.iload 6, 2) := by decide +kernel
theorem dL_isRowSo_81 : decode cL_isRowSo 81 = .ok (.if_icmp .ne 43, 3) := by decide +kernel
theorem dL_isRowSo_84 : decode cL_isRowSo 84 = .ok (.aload_n 0, 1) := by decide +kernel
theorem dL_isRowSo_85 : decode cL_isRowSo 85 = .ok (.iload_n 1, 1) := by decide +kernel
theorem dL_isRowSo_86 : decode cL_isRowSo 86 = .ok (.iconst 3, 1) := by decide +kernel
theorem dL_isRowSo_87 : decode cL_isRowSo 87 = .ok (.iload_n 2, 1) := by decide +kernel
theorem dL_isRowSo_88 : decode cL_isRowSo 88 = .ok (.bipush 11, 2) := by decide +kernel
theorem dL_isRowSo_90 : decode cL_isRowSo 90 = .ok (.iload 4, 2) := by decide +kernel
theorem dL_isRowSo_92 : decode cL_isRowSo 92 = .ok (.isub, 1) := by decide +kernel
theorem dL_isRowSo_93 : decode cL_isRowSo 93 = .ok (.invokevirtual 71, 3) := by decide +kernel
theorem dL_isRowSo_96 : decode cL_isRowSo 96 = .ok (.iload 7, 2) := by decide +kernel
theorem dL_isRowSo_98 : decode cL_isRowSo 98 = .ok (.if_icmp .ne 26, 3) := by decide +kernel
theorem dL_isRowSo_101 : decode cL_isRowSo 101 = .ok (.aload_n 0, 1) := by decide +kernel
theorem dL_isRowSo_102 : decode cL_isRowSo 102 = .ok (.iload_n 1, 1) := by decide +kernel
theorem dL_isRowSo_103 : decode cL_isRowSo 103 = .ok (.iconst 0, 1) := by decide +kernel
theorem dL_isRowSo_104 : decode cL_isRowSo 104 = .ok (.aload_n 0, 1) := by decide +kernel
theorem dL_isRowSo_105 : decode cL_isRowSo 105 = .ok (.iload_n 1, 1) := by decide +kernel
theorem dL_isRowSo_106 : decode cL_isRowSo 106 = .ok (.iconst 0, 1) := by decide +kernel
theorem dL_isRowSo_107 : decode cL_isRowSo 107 = .ok (.invokevirtual 68, 3) := by decide +kernel
theorem dL_isRowSo_110 : decode cL_isRowSo 110 = .ok (.iload 4, 2) := by decide +kernel
theorem dL_isRowSo_112 : decode cL_isRowSo 112 = .ok (.invokevirtual 71, 3) := by decide +kernel
theorem dL_isRowSo_115 : decode cL_isRowSo 115 = .ok (.iload 5, 2) := by decide +kernel
theorem dL_isRowSo_117 : decode cL_isRowSo 117 = .ok (.if_icmp .ne 7, 3) := by decide +kernel
theorem dL_isRowSo_120 : decode cL_isRowSo 120 = .ok (.iconst 1, 1) := by decide +kernel
theorem dL_isRowSo_121 : decode cL_isRowSo 121 = .ok (.goto 4, 3) := by decide +kernel
theorem dL_isRowSo_124 : decode cL_isRowSo 124 = .ok (.iconst 0, 1) := by decide +kernel
theorem dL_isRowSo_125 : decode cL_isRowSo 125 = .ok (.istore 8, 2) := by decide +kernel
theorem dL_isRowSo_127 : decode cL_isRowSo 127 = .ok (.iload 8, 2) := by decide +kernel
theorem dL_isRowSo_129 : decode cL_isRowSo 129 = .ok (.ifCond .eq 72, 3) := by decide +kernel
theorem dL_isRowSo_132 : decode cL_isRowSo 132 = .ok (.aload_n 0, 1) := by decide +kernel
theorem dL_isRowSo_133 : decode cL_isRowSo 133 = .ok (.iload_n 1, 1) := by decide +kernel
theorem dL_isRowSo_134 : decode cL_isRowSo 134 = .ok (.iconst 0, 1) := by decide +kernel
theorem dL_isRowSo_135 : decode cL_isRowSo 135 = .ok (.iload 4, 2) := by decide +kernel
theorem dL_isRowSo_137 : decode cL_isRowSo 137 = .ok (.invokevirtual 74, 3) := by decide +kernel
theorem dL_isRowSo_140 : decode cL_isRowSo 140 = .ok (.iload 5, 2) := by decide +kernel
theorem dL_isRowSo_142 : decode cL_isRowSo 142 = .ok (.if_icmp .ne 59, 3) := by decide +kernel
theorem dL_isRowSo_145 : decode cL_isRowSo 145 = .ok (.aload_n 0, 1) := by decide +kernel
theorem dL_isRowSo_146 : decode cL_isRowSo 146 = .ok (.iload_n 1, 1) := by decide +kernel
theorem dL_isRowSo_147 : decode cL_isRowSo 147 = .ok (.iload 4, 2) := by decide +kernel
theorem dL_isRowSo_149 : decode cL_isRowSo 149 = .ok (.iload 4, 2) := by decide +kernel
theorem dL_isRowSo_151 : decode cL_isRowSo 151 = .ok (.invokevirtual 74, 3) := by decide +kernel
theorem dL_isRowSo_154 : decode cL_isRowSo 154 = .ok (.aload_n 0, 1) := by decide +kernel
theorem dL_isRowSo_155 : decode cL_isRowSo 155 = .ok (.iload_n 1, 1) := by decide +kernel
theorem dL_isRowSo_156 : decode cL_isRowSo 156 = .ok (.iconst 0, 1) := by decide +kernel
theorem dL_isRowSo_157 : decode cL_isRowSo 157 = .ok (.invokevirtual 68, 3) := by decide +kernel
theorem dL_isRowSo_160 : decode cL_isRowSo 160 = .ok (.if_icmp .ne 41, 3) := by decide +kernel
theorem dL_isRowSo_163 : decode cL_isRowSo 163 = .ok (.aload_n 0, 1) := by decide +kernel
theorem dL_isRowSo_164 : decode cL_isRowSo 164 = .ok (.iload_n 1, 1) := by decide +kernel
theorem dL_isRowSo_165 : decode cL_isRowSo 165 = .ok (.iload_n 2, 1) := by decide +kernel
theorem dL_isRowSo_166 : decode cL_isRowSo 166 = .ok (.iload 4, 2) := by decide +kernel
theorem dL_isRowSo_168 : decode cL_isRowSo 168 = .ok (.invokevirtual 74, 3) := by decide +kernel
theorem dL_isRowSo_171 : decode cL_isRowSo 171 = .ok (.aload_n 0, 1) := by decide +kernel
theorem dL_isRowSo_172 : decode cL_isRowSo 172 = .ok (.iload_n 1, 1) := by decide +kernel
theorem dL_isRowSo_173 : decode cL_isRowSo 173 = .ok (.iload 4, 2) := by decide +kernel
theorem dL_isRowSo_175 : decode cL_isRowSo 175 = .ok (.iload_n 2, 1) := by decide +kernel
theorem dL_isRowSo_176 : decode cL_isRowSo 176 = .ok (.invokevirtual 74, 3) := by decide +kernel
theorem dL_isRowSo_179 : decode cL_isRowSo 179 = .ok (.iadd, 1) := by decide +kernel
theorem dL_isRowSo_180 : decode cL_isRowSo 180 = .ok (.bipush 12, 2) := by decide +kernel
theorem dL_isRowSo_182 : decode cL_isRowSo 182 = .ok (.irem, 1) := by decide +kernel
theorem dL_isRowSo_183 : decode cL_isRowSo 183 = .ok (.iconst 2, 1) := by decide +kernel
theorem dL_isRowSo_184 : decode cL_isRowSo 184 = .ok (.aload_n 0, 1) := by decide +kernel
theorem dL_isRowSo_185 : decode cL_isRowSo 185 = .ok (.iload_n 1, 1) := by decide +kernel
theorem dL_isRowSo_186 : decode cL_isRowSo 186 = .ok (.iconst 0, 1) := by decide +kernel
theorem dL_isRowSo_187 : decode cL_isRowSo 187 = .ok (.invokevirtual 68, 3) := by decide +kernel
theorem dL_isRowSo_190 : decode cL_isRowSo 190 = .ok (.imul, 1) := by decide +kernel
theorem dL_isRowSo_191 : decode cL_isRowSo 191 = .ok (.bipush 12, 2) := by decide +kernel
theorem dL_isRowSo_193 : decode cL_isRowSo 193 = .ok (.irem, 1) := by decide +kernel
theorem dL_isRowSo_194 : decode cL_isRowSo 194 = .ok (.if_icmp .ne 7, 3) := by decide +kernel
theorem dL_isRowSo_197 : decode cL_isRowSo 197 = .ok (.iconst 1, 1) := by decide +kernel
theorem dL_isRowSo_198 : decode cL_isRowSo 198 = .ok (.goto 4, 3) := by decide +kernel
theorem dL_isRowSo_201 : decode cL_isRowSo 201 = .ok (.iconst 0, 1) := by decide +kernel
theorem dL_isRowSo_202 : decode cL_isRowSo 202 = .ok (.istore 8, 2) := by decide +kernel
theorem dL_isRowSo_204 : decode cL_isRowSo 204 = .ok (.iload 8, 2) := by decide +kernel
theorem dL_isRowSo_206 : decode cL_isRowSo 206 = .ok (.ifCond .eq 39, 3) := by decide +kernel
theorem dL_isRowSo_209 : decode cL_isRowSo 209 = .ok (.iload 4, 2) := by decide +kernel
theorem dL_isRowSo_211 : decode cL_isRowSo 211 = .ok (.bipush 11, 2) := by decide +kernel
theorem dL_isRowSo_213 : decode cL_isRowSo 213 = .ok (.if_icmp .eq 28, 3) := by decide +kernel
theorem dL_isRowSo_216 : decode cL_isRowSo 216 = .ok (.iload 5, 2) := by decide +kernel
theorem dL_isRowSo_218 : decode cL_isRowSo 218 = .ok (.aload_n 0, 1) := by decide +kernel
