theorem dX8_write_40 : decode cX8_write 40 = .ok (.ireturn, 1) := by decide +kernel
theorem dX8_write_41 : decode cX8_write 41 = .ok (.aload_n 0, 1) := by decide +kernel
theorem dX8_write_42 : decode cX8_write 42 = .ok (.getfield 7, 3) := by decide +kernel
theorem dX8_write_45 : decode cX8_write 45 = .ok (.bipush 62, 2) := by decide +kernel
theorem dX8_write_47 : decode cX8_write 47 = .ok (.aload_n 0, 1) := by decide +kernel
theorem dX8_write_48 : decode cX8_write 48 = .ok (.invokevirtual 75, 3) := by decide +kernel
theorem dX8_write_51 : decode cX8_write 51 = .ok (.iadd, 1) := by decide +kernel
theorem dX8_write_52 : decode cX8_write 52 = .ok (.iload_n 1, 1) := by decide +kernel
theorem dX8_write_53 : decode cX8_write 53 = .ok (.i2l, 1) := by decide +kernel
theorem dX8_write_54 : decode cX8_write 54 = .ok (.lastore, 1) := by decide +kernel
theorem dX8_write_55 : decode cX8_write 55 = .ok (.aload_n 0, 1) := by decide +kernel
theorem dX8_write_56 : decode cX8_write 56 = .ok (.getfield 7, 3) := by decide +kernel
theorem dX8_write_59 : decode cX8_write 59 = .ok (.bipush 61, 2) := by decide +kernel
theorem dX8_write_61 : decode cX8_write 61 = .ok (.dup2, 1) := by decide +kernel
theorem dX8_write_62 : decode cX8_write 62 = .ok (.laload, 1) := by decide +kernel
theorem dX8_write_63 : decode cX8_write 63 = .ok (.lconst 1, 1) := by decide +kernel
theorem dX8_write_64 : decode cX8_write 64 = .ok (.ladd, 1) := by decide +kernel
theorem dX8_write_65 : decode cX8_write 65 = .ok (.lastore, 1) := by decide +kernel
theorem dX8_write_66 : decode cX8_write 66 = .ok (.aload_n 0, 1) := by decide +kernel
theorem dX8_write_67 : decode cX8_write 67 = .ok (.invokevirtual 75, 3) := by decide +kernel
theorem dX8_write_70 : decode cX8_write 70 = .ok (.ireturn, 1) := by decide +kernel
theorem dX8_erase_0 : decode cX8_erase 0 = .ok (.aload_n 0, 1) := by decide +kernel
theorem dX8_erase_1 : decode cX8_erase 1 = .ok (.invokevirtual 75, 3) := by decide +kernel
theorem dX8_erase_4 : decode cX8_erase 4 = .ok (.istore_n 1, 1) := by decide +kernel
theorem dX8_erase_5 : decode cX8_erase 5 = .ok (.aload_n 0, 1) := by decide +kernel
theorem dX8_erase_6 : decode cX8_erase 6 = .ok (.getfield 7, 3) := by decide +kernel
theorem dX8_erase_9 : decode cX8_erase 9 = .ok (.bipush 61, 2) := by decide +kernel
theorem dX8_erase_11 : decode cX8_erase 11 = .ok (.lconst 0, 1) := by decide +kernel
theorem dX8_erase_12 : decode cX8_erase 12 = .ok (.lastore, 1) := by decide +kernel
theorem dX8_erase_13 : decode cX8_erase 13 = .ok (.iload_n 1, 1) := by decide +kernel
theorem dX8_erase_14 : decode cX8_erase 14 = .ok (.ireturn, 1) := by decide +kernel
theorem dX8_ahead_0 : decode cX8_ahead 0 = .ok (.aload_n 0, 1) := by decide +kernel
theorem dX8_ahead_1 : decode cX8_ahead 1 = .ok (.getfield 79, 3) := by decide +kernel
theorem dX8_ahead_4 : decode cX8_ahead 4 = .ok (.aload_n 0, 1) := by decide +kernel
theorem dX8_ahead_5 : decode cX8_ahead 5 = .ok (.invokevirtual 75, 3) := by decide +kernel
theorem dX8_ahead_8 : decode cX8_ahead 8 = .ok (.if_icmp .ge 29, 3) := by decide +kernel
theorem dX8_ahead_11 : decode cX8_ahead 11 = .ok (.aload_n 0, 1) := by decide +kernel
theorem dX8_ahead_12 : decode cX8_ahead 12 = .ok (.aload_n 0, 1) := by decide +kernel
theorem dX8_ahead_13 : decode cX8_ahead 13 = .ok (.getfield 79, 3) := by decide +kernel
theorem dX8_ahead_16 : decode cX8_ahead 16 = .ok (.invokevirtual 83, 3) := by decide +kernel
theorem dX8_ahead_19 : decode cX8_ahead 19 = .ok (.bipush 32, 2) := by decide +kernel
theorem dX8_ahead_21 : decode cX8_ahead 21 = .ok (.if_icmp .ne 16, 3) := by decide +kernel
theorem dX8_ahead_24 : decode cX8_ahead 24 = .ok (.aload_n 0, 1) := by decide +kernel
theorem dX8_ahead_25 : decode cX8_ahead 25 = .ok (.dup, 1) := by decide +kernel
theorem dX8_ahead_26 : decode cX8_ahead 26 = .ok (.getfield 79, 3) := by decide +kernel
theorem dX8_ahead_29 : decode cX8_ahead 29 = .ok (.iconst 1, 1) := by decide +kernel
theorem dX8_ahead_30 : decode cX8_ahead 30 = .ok (.iadd, 1) := by decide +kernel
theorem dX8_ahead_31 : decode cX8_ahead 31 = .ok (.putfield 79, 3) := by decide +kernel
theorem dX8_ahead_34 : decode cX8_ahead 34 = .ok (.goto (-34), 3) := by decide +kernel
theorem dX8_ahead_37 : decode cX8_ahead 37 = .ok (.aload_n 0, 1) := by decide +kernel
theorem dX8_ahead_38 : decode cX8_ahead 38 = .ok (.getfield 79, 3) := by decide +kernel
theorem dX8_ahead_41 : decode cX8_ahead 41 = .ok (.aload_n 0, 1) := by decide +kernel
theorem dX8_ahead_42 : decode cX8_ahead 42 = .ok (.invokevirtual 75, 3) := by decide +kernel
theorem dX8_ahead_45 : decode cX8_ahead 45 = .ok (.if_icmp .ge 14, 3) := by decide +kernel
theorem dX8_ahead_48 : decode cX8_ahead 48 = .ok (.aload_n 0, 1) := by decide +kernel
theorem dX8_ahead_49 : decode cX8_ahead 49 = .ok (.aload_n 0, 1) := by decide +kernel
theorem dX8_ahead_50 : decode cX8_ahead 50 = .ok (.getfield 79, 3) := by decide +kernel
theorem dX8_ahead_53 : decode cX8_ahead 53 = .ok (.invokevirtual 83, 3) := by decide +kernel
theorem dX8_ahead_56 : decode cX8_ahead 56 = .ok (.goto 4, 3) := by decide +kernel
theorem dX8_ahead_59 : decode cX8_ahead 59 = .ok (.iconst (-1), 1) := by decide +kernel
theorem dX8_ahead_60 : decode cX8_ahead 60 = .ok (.ireturn, 1) := by decide +kernel
theorem dX8_rank_0 : decode cX8_rank 0 = .ok (.iload_n 0, 1) := by decide +kernel
theorem dX8_rank_1 : decode cX8_rank 1 = .ok (.lookupswitch 93 #[(38, 85), (42, 91), (43, 89), (45, 89), (47, 91), (60, 87), (61, 87), (62, 87), (124, 83)], 83) := by decide +kernel
theorem dX8_rank_84 : decode cX8_rank 84 = .ok (.iconst 1, 1) := by decide +kernel
theorem dX8_rank_85 : decode cX8_rank 85 = .ok (.ireturn, 1) := by decide +kernel
theorem dX8_rank_86 : decode cX8_rank 86 = .ok (.iconst 2, 1) := by decide +kernel
theorem dX8_rank_87 : decode cX8_rank 87 = .ok (.ireturn, 1) := by decide +kernel
theorem dX8_rank_88 : decode cX8_rank 88 = .ok (.iconst 3, 1) := by decide +kernel
theorem dX8_rank_89 : decode cX8_rank 89 = .ok (.ireturn, 1) := by decide +kernel
theorem dX8_rank_90 : decode cX8_rank 90 = .ok (.iconst 4, 1) := by decide +kernel
theorem dX8_rank_91 : decode cX8_rank 91 = .ok (.ireturn, 1) := by decide +kernel
theorem dX8_rank_92 : decode cX8_rank 92 = .ok (.iconst 5, 1) := by decide +kernel
theorem dX8_rank_93 : decode cX8_rank 93 = .ok (.ireturn, 1) := by decide +kernel
theorem dX8_rank_94 : decode cX8_rank 94 = .ok (.iconst 0, 1) := by decide +kernel
theorem dX8_rank_95 : decode cX8_rank 95 = .ok (.ireturn, 1) := by decide +kernel
theorem dX8_workOut_0 : decode cX8_workOut 0 = .ok (.aload_n 0, 1) := by decide +kernel
theorem dX8_workOut_1 : decode cX8_workOut 1 = .ok (.dup, 1) := by decide +kernel
theorem dX8_workOut_2 : decode cX8_workOut 2 = .ok (.getfield 86, 3) := by decide +kernel
theorem dX8_workOut_5 : decode cX8_workOut 5 = .ok (.iconst 1, 1) := by decide +kernel
theorem dX8_workOut_6 : decode cX8_workOut 6 = .ok (.isub, 1) := by decide +kernel
theorem dX8_workOut_7 : decode cX8_workOut 7 = .ok (.putfield 86, 3) := by decide +kernel
theorem dX8_workOut_10 : decode cX8_workOut 10 = .ok (.aload_n 0, 1) := by decide +kernel
theorem dX8_workOut_11 : decode cX8_workOut 11 = .ok (.dup, 1) := by decide +kernel
theorem dX8_workOut_12 : decode cX8_workOut 12 = .ok (.getfield 89, 3) := by decide +kernel
theorem dX8_workOut_15 : decode cX8_workOut 15 = .ok (.iconst 1, 1) := by decide +kernel
theorem dX8_workOut_16 : decode cX8_workOut 16 = .ok (.isub, 1) := by decide +kernel
theorem dX8_workOut_17 : decode cX8_workOut 17 = .ok (.putfield 89, 3) := by decide +kernel
theorem dX8_workOut_20 : decode cX8_workOut 20 = .ok (.aload_n 0, 1) := by decide +kernel
theorem dX8_workOut_21 : decode cX8_workOut 21 = .ok (.getfield 24, 3) := by decide +kernel
theorem dX8_workOut_24 : decode cX8_workOut 24 = .ok (.aload_n 0, 1) := by decide +kernel
theorem dX8_workOut_25 : decode cX8_workOut 25 = .ok (.getfield 89, 3) := by decide +kernel
theorem dX8_workOut_28 : decode cX8_workOut 28 = .ok (.iconst 1, 1) := by decide +kernel
theorem dX8_workOut_29 : decode cX8_workOut 29 = .ok (.isub, 1) := by decide +kernel
theorem dX8_workOut_30 : decode cX8_workOut 30 = .ok (.laload, 1) := by decide +kernel
theorem dX8_workOut_31 : decode cX8_workOut 31 = .ok (.lstore_n 1, 1) := by decide +kernel
theorem dX8_workOut_32 : decode cX8_workOut 32 = .ok (.aload_n 0, 1) := by decide +kernel
theorem dX8_workOut_33 : decode cX8_workOut 33 = .ok (.getfield 24, 3) := by decide +kernel
theorem dX8_workOut_36 : decode cX8_workOut 36 = .ok (.aload_n 0, 1) := by decide +kernel
theorem dX8_workOut_37 : decode cX8_workOut 37 = .ok (.getfield 89, 3) := by decide +kernel
theorem dX8_workOut_40 : decode cX8_workOut 40 = .ok (.laload, 1) := by decide +kernel
theorem dX8_workOut_41 : decode cX8_workOut 41 = .ok (.lstore_n 3, 1) := by decide +kernel
theorem dX8_workOut_42 : decode cX8_workOut 42 = .ok (.lconst 0, 1) := by decide +kernel
theorem dX8_workOut_43 : decode cX8_workOut 43 = .ok (.lstore 5, 2) := by decide +kernel
theorem dX8_workOut_45 : decode cX8_workOut 45 = .ok (.aload_n 0, 1) := by decide +kernel
theorem dX8_workOut_46 : decode cX8_workOut 46 = .ok (.getfield 27, 3) := by decide +kernel
theorem dX8_workOut_49 : decode cX8_workOut 49 = .ok (.aload_n 0, 1) := by decide +kernel
theorem dX8_workOut_50 : decode cX8_workOut 50 = .ok (.getfield 86, 3) := by decide +kernel
theorem dX8_workOut_53 : decode cX8_workOut 53 = .ok (.iaload, 1) := by decide +kernel
theorem dX8_workOut_54 : decode cX8_workOut 54 = .ok (.lookupswitch 190 #[(38, 96), (42, 182), (43, 166), (45, 174), (60, 118), (61, 150), (62, 134), (124, 74)], 74) := by decide +kernel
theorem dX8_workOut_128 : decode cX8_workOut 128 = .ok (.lload_n 1, 1) := by decide +kernel
theorem dX8_workOut_129 : decode cX8_workOut 129 = .ok (.lconst 0, 1) := by decide +kernel
theorem dX8_workOut_130 : decode cX8_workOut 130 = .ok (.lcmp, 1) := by decide +kernel
theorem dX8_workOut_131 : decode cX8_workOut 131 = .ok (.ifCond .ne 9, 3) := by decide +kernel
theorem dX8_workOut_134 : decode cX8_workOut 134 = .ok (.lload_n 3, 1) := by decide +kernel
theorem dX8_workOut_135 : decode cX8_workOut 135 = .ok (.lconst 0, 1) := by decide +kernel
theorem dX8_workOut_136 : decode cX8_workOut 136 = .ok (.lcmp, 1) := by decide +kernel
theorem dX8_workOut_137 : decode cX8_workOut 137 = .ok (.ifCond .eq 7, 3) := by decide +kernel
theorem dX8_workOut_140 : decode cX8_workOut 140 = .ok (.lconst 1, 1) := by decide +kernel
theorem dX8_workOut_141 : decode cX8_workOut 141 = .ok (.goto 4, 3) := by decide +kernel
theorem dX8_workOut_144 : decode cX8_workOut 144 = .ok (.lconst 0, 1) := by decide +kernel
theorem dX8_workOut_145 : decode cX8_workOut 145 = .ok (.lstore 5, 2) := by decide +kernel
theorem dX8_workOut_147 : decode cX8_workOut 147 = .ok (.goto 112, 3) := by decide +kernel
theorem dX8_workOut_150 : decode cX8_workOut 150 = .ok (.lload_n 1, 1) := by decide +kernel
theorem dX8_workOut_151 : decode cX8_workOut 151 = .ok (.lconst 0, 1) := by decide +kernel
theorem dX8_workOut_152 : decode cX8_workOut 152 = .ok (.lcmp, 1) := by decide +kernel
theorem dX8_workOut_153 : decode cX8_workOut 153 = .ok (.ifCond .eq 13, 3) := by decide +kernel
theorem dX8_workOut_156 : decode cX8_workOut 156 = .ok (.lload_n 3, 1) := by decide +kernel
theorem dX8_workOut_157 : decode cX8_workOut 157 = .ok (.lconst 0, 1) := by decide +kernel
theorem dX8_workOut_158 : decode cX8_workOut 158 = .ok (.lcmp, 1) := by decide +kernel
theorem dX8_workOut_159 : decode cX8_workOut 159 = .ok (.ifCond .eq 7, 3) := by decide +kernel
theorem dX8_workOut_162 : decode cX8_workOut 162 = .ok (.lconst 1, 1) := by decide +kernel
theorem dX8_workOut_163 : decode cX8_workOut 163 = .ok (.goto 4, 3) := by decide +kernel
theorem dX8_workOut_166 : decode cX8_workOut 166 = .ok (.lconst 0, 1) := by decide +kernel
theorem dX8_workOut_167 : decode cX8_workOut 167 = .ok (.lstore 5, 2) := by decide +kernel
theorem dX8_workOut_169 : decode cX8_workOut 169 = .ok (.goto 90, 3) := by decide +kernel
theorem dX8_workOut_172 : decode cX8_workOut 172 = .ok (.lload_n 1, 1) := by decide +kernel
theorem dX8_workOut_173 : decode cX8_workOut 173 = .ok (.lload_n 3, 1) := by decide +kernel
theorem dX8_workOut_174 : decode cX8_workOut 174 = .ok (.lcmp, 1) := by decide +kernel
theorem dX8_workOut_175 : decode cX8_workOut 175 = .ok (.ifCond .ge 7, 3) := by decide +kernel
theorem dX8_workOut_178 : decode cX8_workOut 178 = .ok (.lconst 1, 1) := by decide +kernel
theorem dX8_workOut_179 : decode cX8_workOut 179 = .ok (.goto 4, 3) := by decide +kernel
theorem dX8_workOut_182 : decode cX8_workOut 182 = .ok (.lconst 0, 1) := by decide +kernel
theorem dX8_workOut_183 : decode cX8_workOut 183 = .ok (.lstore 5, 2) := by decide +kernel
theorem dX8_workOut_185 : decode cX8_workOut 185 = .ok (.goto 74, 3) := by decide +kernel
theorem dX8_workOut_188 : decode cX8_workOut 188 = .ok (.lload_n 1, 1) := by decide +kernel
theorem dX8_workOut_189 : decode cX8_workOut 189 = .ok (.lload_n 3, 1) := by decide +kernel
theorem dX8_workOut_190 : decode cX8_workOut 190 = .ok (.lcmp, 1) := by decide +kernel
theorem dX8_workOut_191 : decode cX8_workOut 191 = .ok (.ifCond .le 7, 3) := by decide +kernel
theorem dX8_workOut_194 : decode cX8_workOut 194 = .ok (.lconst 1, 1) := by decide +kernel
theorem dX8_workOut_195 : decode cX8_workOut 195 = .ok (.goto 4, 3) := by decide +kernel
theorem dX8_workOut_198 : decode cX8_workOut 198 = .ok (.lconst 0, 1) := by decide +kernel
theorem dX8_workOut_199 : decode cX8_workOut 199 = .ok (.lstore 5, 2) := by decide +kernel
theorem dX8_workOut_201 : decode cX8_workOut 201 = .ok (.goto 58, 3) := by decide +kernel
theorem dX8_workOut_204 : decode cX8_workOut 204 = .ok (.lload_n 1, 1) := by decide +kernel
theorem dX8_workOut_205 : decode cX8_workOut 205 = .ok (.lload_n 3, 1) := by decide +kernel
theorem dX8_workOut_206 : decode cX8_workOut 206 = .ok (.lcmp, 1) := by decide +kernel
theorem dX8_workOut_207 : decode cX8_workOut 207 = .ok (.ifCond .ne 7, 3) := by decide +kernel
theorem dX8_workOut_210 : decode cX8_workOut 210 = .ok (.lconst 1, 1) := by decide +kernel
theorem dX8_workOut_211 : decode cX8_workOut 211 = .ok (.goto 4, 3) := by decide +kernel
theorem dX8_workOut_214 : decode cX8_workOut 214 = .ok (.lconst 0, 1) := by decide +kernel
theorem dX8_workOut_215 : decode cX8_workOut 215 = .ok (.lstore 5, 2) := by decide +kernel
theorem dX8_workOut_217 : decode cX8_workOut 217 = .ok (.goto 42, 3) := by decide +kernel
theorem dX8_workOut_220 : decode cX8_workOut 220 = .ok (.lload_n 1, 1) := by decide +kernel
theorem dX8_workOut_221 : decode cX8_workOut 221 = .ok (.lload_n 3, 1) := by decide +kernel
theorem dX8_workOut_222 : decode cX8_workOut 222 = .ok (.ladd, 1) := by decide +kernel
theorem dX8_workOut_223 : decode cX8_workOut 223 = .ok (.lstore 5, 2) := by decide +kernel
theorem dX8_workOut_225 : decode cX8_workOut 225 = .ok (.goto 34, 3) := by decide +kernel
theorem dX8_workOut_228 : decode cX8_workOut 228 = .ok (.lload_n 1, 1) := by decide +kernel
theorem dX8_workOut_229 : decode cX8_workOut 229 = .ok (.lload_n 3, 1) := by decide +kernel
theorem dX8_workOut_230 : decode cX8_workOut 230 = .ok (.lsub, 1) := by decide +kernel
theorem dX8_workOut_231 : decode cX8_workOut 231 = .ok (.lstore 5, 2) := by decide +kernel
theorem dX8_workOut_233 : decode cX8_workOut 233 = .ok (.goto 26, 3) := by decide +kernel
theorem dX8_workOut_236 : decode cX8_workOut 236 = .ok (.lload_n 1, 1) := by decide +kernel
theorem dX8_workOut_237 : decode cX8_workOut 237 = .ok (.lload_n 3, 1) := by decide +kernel
theorem dX8_workOut_238 : decode cX8_workOut 238 = .ok (.lmul, 1) := by decide +kernel
theorem dX8_workOut_239 : decode cX8_workOut 239 = .ok (.lstore 5, 2) := by decide +kernel
theorem dX8_workOut_241 : decode cX8_workOut 241 = .ok (.goto 18, 3) := by decide +kernel
theorem dX8_workOut_244 : decode cX8_workOut 244 = .ok (.lload_n 3, 1) := by decide +kernel
theorem dX8_workOut_245 : decode cX8_workOut 245 = .ok (.lconst 0, 1) := by decide +kernel
theorem dX8_workOut_246 : decode cX8_workOut 246 = .ok (.lcmp, 1) := by decide +kernel
theorem dX8_workOut_247 : decode cX8_workOut 247 = .ok (.ifCond .ne 7, 3) := by decide +kernel
theorem dX8_workOut_250 : decode cX8_workOut 250 = .ok (.lconst 0, 1) := by decide +kernel
theorem dX8_workOut_251 : decode cX8_workOut 251 = .ok (.goto 6, 3) := by decide +kernel
theorem dX8_workOut_254 : decode cX8_workOut 254 = .ok (.lload_n 1, 1) := by decide +kernel
theorem dX8_workOut_255 : decode cX8_workOut 255 = .ok (.lload_n 3, 1) := by decide +kernel
theorem dX8_workOut_256 : decode cX8_workOut 256 = .ok (.ldiv, 1) := by decide +kernel
theorem dX8_workOut_257 : decode cX8_workOut 257 = .ok (.lstore 5, 2) := by decide +kernel
theorem dX8_workOut_259 : decode cX8_workOut 259 = .ok (.aload_n 0, 1) := by decide +kernel
theorem dX8_workOut_260 : decode cX8_workOut 260 = .ok (.getfield 24, 3) := by decide +kernel
theorem dX8_workOut_263 : decode cX8_workOut 263 = .ok (.aload_n 0, 1) := by decide +kernel
theorem dX8_workOut_264 : decode cX8_workOut 264 = .ok (.getfield 89, 3) := by decide +kernel
theorem dX8_workOut_267 : decode cX8_workOut 267 = .ok (.iconst 1, 1) := by decide +kernel
theorem dX8_workOut_268 : decode cX8_workOut 268 = .ok (.isub, 1) := by decide +kernel
theorem dX8_workOut_269 : decode cX8_workOut 269 = .ok (.lload 5, 2) := by decide +kernel
theorem dX8_workOut_271 : decode cX8_workOut 271 = .ok (.lastore, 1) := by decide +kernel
theorem dX8_workOut_272 : decode cX8_workOut 272 = .ok (.return_, 1) := by decide +kernel
theorem dX8_workDown_0 : decode cX8_workDown 0 = .ok (.aload_n 0, 1) := by decide +kernel
theorem dX8_workDown_1 : decode cX8_workDown 1 = .ok (.getfield 86, 3) := by decide +kernel
theorem dX8_workDown_4 : decode cX8_workDown 4 = .ok (.ifCond .le 45, 3) := by decide +kernel
theorem dX8_workDown_7 : decode cX8_workDown 7 = .ok (.aload_n 0, 1) := by decide +kernel
theorem dX8_workDown_8 : decode cX8_workDown 8 = .ok (.getfield 27, 3) := by decide +kernel
theorem dX8_workDown_11 : decode cX8_workDown 11 = .ok (.aload_n 0, 1) := by decide +kernel
theorem dX8_workDown_12 : decode cX8_workDown 12 = .ok (.getfield 86, 3) := by decide +kernel
theorem dX8_workDown_15 : decode cX8_workDown 15 = .ok (.iconst 1, 1) := by decide +kernel
theorem dX8_workDown_16 : decode cX8_workDown 16 = .ok (.isub, 1) := by decide +kernel
theorem dX8_workDown_17 : decode cX8_workDown 17 = .ok (.iaload, 1) := by decide +kernel
theorem dX8_workDown_18 : decode cX8_workDown 18 = .ok (.sipush 1000, 3) := by decide +kernel
theorem dX8_workDown_21 : decode cX8_workDown 21 = .ok (.if_icmp .ge 28, 3) := by decide +kernel
theorem dX8_workDown_24 : decode cX8_workDown 24 = .ok (.aload_n 0, 1) := by decide +kernel
theorem dX8_workDown_25 : decode cX8_workDown 25 = .ok (.getfield 27, 3) := by decide +kernel
theorem dX8_workDown_28 : decode cX8_workDown 28 = .ok (.aload_n 0, 1) := by decide +kernel
theorem dX8_workDown_29 : decode cX8_workDown 29 = .ok (.getfield 86, 3) := by decide +kernel
theorem dX8_workDown_32 : decode cX8_workDown 32 = .ok (.iconst 1, 1) := by decide +kernel
theorem dX8_workDown_33 : decode cX8_workDown 33 = .ok (.isub, 1) := by decide +kernel
theorem dX8_workDown_34 : decode cX8_workDown 34 = .ok (.iaload, 1) := by decide +kernel
theorem dX8_workDown_35 : decode cX8_workDown 35 = .ok (.invokestatic 92, 3) := by decide +kernel
theorem dX8_workDown_38 : decode cX8_workDown 38 = .ok (.iload_n 1, 1) := by decide +kernel
theorem dX8_workDown_39 : decode cX8_workDown 39 = .ok (.if_icmp .lt 10, 3) := by decide +kernel
theorem dX8_workDown_42 : decode cX8_workDown 42 = .ok (.aload_n 0, 1) := by decide +kernel
theorem dX8_workDown_43 : decode cX8_workDown 43 = .ok (.invokevirtual 95, 3) := by decide +kernel
theorem dX8_workDown_46 : decode cX8_workDown 46 = .ok (.goto (-46), 3) := by decide +kernel
theorem dX8_workDown_49 : decode cX8_workDown 49 = .ok (.return_, 1) := by decide +kernel
theorem dX8_stands_0 : decode cX8_stands 0 = .ok (.lload_n 1, 1) := by decide +kernel
theorem dX8_stands_1 : decode cX8_stands 1 = .ok (.lstore_n 3, 1) := by decide +kernel
theorem dX8_stands_2 : decode cX8_stands 2 = .ok (.aload_n 0, 1) := by decide +kernel
theorem dX8_stands_3 : decode cX8_stands 3 = .ok (.getfield 86, 3) := by decide +kernel
theorem dX8_stands_6 : decode cX8_stands 6 = .ok (.ifCond .le 67, 3) := by decide +kernel
theorem dX8_stands_9 : decode cX8_stands 9 = .ok (.aload_n 0, 1) := by decide +kernel
theorem dX8_stands_10 : decode cX8_stands 10 = .ok (.getfield 27, 3) := by decide +kernel
theorem dX8_stands_13 : decode cX8_stands 13 = .ok (.aload_n 0, 1) := by decide +kernel
theorem dX8_stands_14 : decode cX8_stands 14 = .ok (.getfield 86, 3) := by decide +kernel
theorem dX8_stands_17 : decode cX8_stands 17 = .ok (.iconst 1, 1) := by decide +kernel
theorem dX8_stands_18 : decode cX8_stands 18 = .ok (.isub, 1) := by decide +kernel
theorem dX8_stands_19 : decode cX8_stands 19 = .ok (.iaload, 1) := by decide +kernel
theorem dX8_stands_20 : decode cX8_stands 20 = .ok (.sipush 1000, 3) := by decide +kernel
theorem dX8_stands_23 : decode cX8_stands 23 = .ok (.if_icmp .le 50, 3) := by decide +kernel
theorem dX8_stands_26 : decode cX8_stands 26 = .ok (.aload_n 0, 1) := by decide +kernel
theorem dX8_stands_27 : decode cX8_stands 27 = .ok (.getfield 27, 3) := by decide +kernel
theorem dX8_stands_30 : decode cX8_stands 30 = .ok (.aload_n 0, 1) := by decide +kernel
theorem dX8_stands_31 : decode cX8_stands 31 = .ok (.getfield 86, 3) := by decide +kernel
theorem dX8_stands_34 : decode cX8_stands 34 = .ok (.iconst 1, 1) := by decide +kernel
theorem dX8_stands_35 : decode cX8_stands 35 = .ok (.isub, 1) := by decide +kernel
theorem dX8_stands_36 : decode cX8_stands 36 = .ok (.iaload, 1) := by decide +kernel
theorem dX8_stands_37 : decode cX8_stands 37 = .ok (.sipush 1001, 3) := by decide +kernel
theorem dX8_stands_40 : decode cX8_stands 40 = .ok (.if_icmp .ne 17, 3) := by decide +kernel
theorem dX8_stands_43 : decode cX8_stands 43 = .ok (.lload_n 3, 1) := by decide +kernel
theorem dX8_stands_44 : decode cX8_stands 44 = .ok (.lconst 0, 1) := by decide +kernel
theorem dX8_stands_45 : decode cX8_stands 45 = .ok (.lcmp, 1) := by decide +kernel
theorem dX8_stands_46 : decode cX8_stands 46 = .ok (.ifCond .ne 7, 3) := by decide +kernel
theorem dX8_stands_49 : decode cX8_stands 49 = .ok (.lconst 1, 1) := by decide +kernel
theorem dX8_stands_50 : decode cX8_stands 50 = .ok (.goto 9, 3) := by decide +kernel
theorem dX8_stands_53 : decode cX8_stands 53 = .ok (.lconst 0, 1) := by decide +kernel
theorem dX8_stands_54 : decode cX8_stands 54 = .ok (.goto 5, 3) := by decide +kernel
theorem dX8_stands_57 : decode cX8_stands 57 = .ok (.lload_n 3, 1) := by decide +kernel
theorem dX8_stands_58 : decode cX8_stands 58 = .ok (.lneg, 1) := by decide +kernel
theorem dX8_stands_59 : decode cX8_stands 59 = .ok (.lstore_n 3, 1) := by decide +kernel
theorem dX8_stands_60 : decode cX8_stands 60 = .ok (.aload_n 0, 1) := by decide +kernel
theorem dX8_stands_61 : decode cX8_stands 61 = .ok (.dup, 1) := by decide +kernel
theorem dX8_stands_62 : decode cX8_stands 62 = .ok (.getfield 86, 3) := by decide +kernel
theorem dX8_stands_65 : decode cX8_stands 65 = .ok (.iconst 1, 1) := by decide +kernel
theorem dX8_stands_66 : decode cX8_stands 66 = .ok (.isub, 1) := by decide +kernel
theorem dX8_stands_67 : decode cX8_stands 67 = .ok (.putfield 86, 3) := by decide +kernel
theorem dX8_stands_70 : decode cX8_stands 70 = .ok (.goto (-68), 3) := by decide +kernel
theorem dX8_stands_73 : decode cX8_stands 73 = .ok (.aload_n 0, 1) := by decide +kernel
theorem dX8_stands_74 : decode cX8_stands 74 = .ok (.getfield 24, 3) := by decide +kernel
theorem dX8_stands_77 : decode cX8_stands 77 = .ok (.aload_n 0, 1) := by decide +kernel
theorem dX8_stands_78 : decode cX8_stands 78 = .ok (.getfield 89, 3) := by decide +kernel
theorem dX8_stands_81 : decode cX8_stands 81 = .ok (.lload_n 3, 1) := by decide +kernel
theorem dX8_stands_82 : decode cX8_stands 82 = .ok (.lastore, 1) := by decide +kernel
theorem dX8_stands_83 : decode cX8_stands 83 = .ok (.aload_n 0, 1) := by decide +kernel
theorem dX8_stands_84 : decode cX8_stands 84 = .ok (.dup, 1) := by decide +kernel
theorem dX8_stands_85 : decode cX8_stands 85 = .ok (.getfield 89, 3) := by decide +kernel
theorem dX8_stands_88 : decode cX8_stands 88 = .ok (.iconst 1, 1) := by decide +kernel
theorem dX8_stands_89 : decode cX8_stands 89 = .ok (.iadd, 1) := by decide +kernel
theorem dX8_stands_90 : decode cX8_stands 90 = .ok (.putfield 89, 3) := by decide +kernel
theorem dX8_stands_93 : decode cX8_stands 93 = .ok (.return_, 1) := by decide +kernel
theorem dX8_nameOf_0 : decode cX8_nameOf 0 = .ok (.iload_n 0, 1) := by decide +kernel
theorem dX8_nameOf_1 : decode cX8_nameOf 1 = .ok (.bipush 97, 2) := by decide +kernel
theorem dX8_nameOf_3 : decode cX8_nameOf 3 = .ok (.if_icmp .ne 7, 3) := by decide +kernel
theorem dX8_nameOf_6 : decode cX8_nameOf 6 = .ok (.iconst 0, 1) := by decide +kernel
theorem dX8_nameOf_7 : decode cX8_nameOf 7 = .ok (.goto 54, 3) := by decide +kernel
theorem dX8_nameOf_10 : decode cX8_nameOf 10 = .ok (.iload_n 0, 1) := by decide +kernel
theorem dX8_nameOf_11 : decode cX8_nameOf 11 = .ok (.bipush 118, 2) := by decide +kernel
theorem dX8_nameOf_13 : decode cX8_nameOf 13 = .ok (.if_icmp .ne 7, 3) := by decide +kernel
theorem dX8_nameOf_16 : decode cX8_nameOf 16 = .ok (.iconst 1, 1) := by decide +kernel
theorem dX8_nameOf_17 : decode cX8_nameOf 17 = .ok (.goto 44, 3) := by decide +kernel
theorem dX8_nameOf_20 : decode cX8_nameOf 20 = .ok (.iload_n 0, 1) := by decide +kernel
theorem dX8_nameOf_21 : decode cX8_nameOf 21 = .ok (.bipush 104, 2) := by decide +kernel
theorem dX8_nameOf_23 : decode cX8_nameOf 23 = .ok (.if_icmp .ne 7, 3) := by decide +kernel
theorem dX8_nameOf_26 : decode cX8_nameOf 26 = .ok (.iconst 2, 1) := by decide +kernel
theorem dX8_nameOf_27 : decode cX8_nameOf 27 = .ok (.goto 34, 3) := by decide +kernel
theorem dX8_nameOf_30 : decode cX8_nameOf 30 = .ok (.iload_n 0, 1) := by decide +kernel
theorem dX8_nameOf_31 : decode cX8_nameOf 31 = .ok (.bipush 116, 2) := by decide +kernel
theorem dX8_nameOf_33 : decode cX8_nameOf 33 = .ok (.if_icmp .ne 7, 3) := by decide +kernel
theorem dX8_nameOf_36 : decode cX8_nameOf 36 = .ok (.iconst 3, 1) := by decide +kernel
theorem dX8_nameOf_37 : decode cX8_nameOf 37 = .ok (.goto 24, 3) := by decide +kernel
theorem dX8_nameOf_40 : decode cX8_nameOf 40 = .ok (.iload_n 0, 1) := by decide +kernel
theorem dX8_nameOf_41 : decode cX8_nameOf 41 = .ok (.bipush 117, 2) := by decide +kernel
theorem dX8_nameOf_43 : decode cX8_nameOf 43 = .ok (.if_icmp .ne 7, 3) := by decide +kernel
theorem dX8_nameOf_46 : decode cX8_nameOf 46 = .ok (.iconst 4, 1) := by decide +kernel
theorem dX8_nameOf_47 : decode cX8_nameOf 47 = .ok (.goto 14, 3) := by decide +kernel
theorem dX8_nameOf_50 : decode cX8_nameOf 50 = .ok (.iload_n 0, 1) := by decide +kernel
theorem dX8_nameOf_51 : decode cX8_nameOf 51 = .ok (.bipush 107, 2) := by decide +kernel
theorem dX8_nameOf_53 : decode cX8_nameOf 53 = .ok (.if_icmp .ne 7, 3) := by decide +kernel
theorem dX8_nameOf_56 : decode cX8_nameOf 56 = .ok (.iconst 5, 1) := by decide +kernel
theorem dX8_nameOf_57 : decode cX8_nameOf 57 = .ok (.goto 4, 3) := by decide +kernel
theorem dX8_nameOf_60 : decode cX8_nameOf 60 = .ok (.iconst (-1), 1) := by decide +kernel
theorem dX8_nameOf_61 : decode cX8_nameOf 61 = .ok (.ireturn, 1) := by decide +kernel
theorem dX8_digits_0 : decode cX8_digits 0 = .ok (.aload_n 0, 1) := by decide +kernel
theorem dX8_digits_1 : decode cX8_digits 1 = .ok (.getfield 79, 3) := by decide +kernel
theorem dX8_digits_4 : decode cX8_digits 4 = .ok (.istore_n 1, 1) := by decide +kernel
theorem dX8_digits_5 : decode cX8_digits 5 = .ok (.lconst 0, 1) := by decide +kernel
theorem dX8_digits_6 : decode cX8_digits 6 = .ok (.lstore_n 2, 1) := by decide +kernel
theorem dX8_digits_7 : decode cX8_digits 7 = .ok (.aload_n 0, 1) := by decide +kernel
theorem dX8_digits_8 : decode cX8_digits 8 = .ok (.getfield 79, 3) := by decide +kernel
theorem dX8_digits_11 : decode cX8_digits 11 = .ok (.aload_n 0, 1) := by decide +kernel
theorem dX8_digits_12 : decode cX8_digits 12 = .ok (.invokevirtual 75, 3) := by decide +kernel
theorem dX8_digits_15 : decode cX8_digits 15 = .ok (.if_icmp .ge 80, 3) := by decide +kernel
theorem dX8_digits_18 : decode cX8_digits 18 = .ok (.aload_n 0, 1) := by decide +kernel
theorem dX8_digits_19 : decode cX8_digits 19 = .ok (.aload_n 0, 1) := by decide +kernel
theorem dX8_digits_20 : decode cX8_digits 20 = .ok (.getfield 79, 3) := by decide +kernel
theorem dX8_digits_23 : decode cX8_digits 23 = .ok (.invokevirtual 83, 3) := by decide +kernel
theorem dX8_digits_26 : decode cX8_digits 26 = .ok (.i2l, 1) := by decide +kernel
theorem dX8_digits_27 : decode cX8_digits 27 = .ok (.ldc2_w 98, 3) := by decide +kernel
theorem dX8_digits_30 : decode cX8_digits 30 = .ok (.ldc2_w 100, 3) := by decide +kernel
theorem dX8_digits_33 : decode cX8_digits 33 = .ok (.invokestatic 49, 3) := by decide +kernel
theorem dX8_digits_36 : decode cX8_digits 36 = .ok (.ifCond .eq 59, 3) := by decide +kernel
theorem dX8_digits_39 : decode cX8_digits 39 = .ok (.aload_n 0, 1) := by decide +kernel
theorem dX8_digits_40 : decode cX8_digits 40 = .ok (.getfield 79, 3) := by decide +kernel
theorem dX8_digits_43 : decode cX8_digits 43 = .ok (.iload_n 1, 1) := by decide +kernel
theorem dX8_digits_44 : decode cX8_digits 44 = .ok (.isub, 1) := by decide +kernel
theorem dX8_digits_45 : decode cX8_digits 45 = .ok (.bipush 6, 2) := by decide +kernel
theorem dX8_digits_47 : decode cX8_digits 47 = .ok (.if_icmp .ne 15, 3) := by decide +kernel
theorem dX8_digits_50 : decode cX8_digits 50 = .ok (.aload_n 0, 1) := by decide +kernel
theorem dX8_digits_51 : decode cX8_digits 51 = .ok (.bipush 10, 2) := by decide +kernel
theorem dX8_digits_53 : decode cX8_digits 53 = .ok (.iload_n 1, 1) := by decide +kernel
theorem dX8_digits_54 : decode cX8_digits 54 = .ok (.imul, 1) := by decide +kernel
theorem dX8_digits_55 : decode cX8_digits 55 = .ok (.iconst 2, 1) := by decide +kernel
theorem dX8_digits_56 : decode cX8_digits 56 = .ok (.iadd, 1) := by decide +kernel
theorem dX8_digits_57 : decode cX8_digits 57 = .ok (.putfield 102, 3) := by decide +kernel
theorem dX8_digits_60 : decode cX8_digits 60 = .ok (.lconst 0, 1) := by decide +kernel
theorem dX8_digits_61 : decode cX8_digits 61 = .ok (.lreturn, 1) := by decide +kernel
theorem dX8_digits_62 : decode cX8_digits 62 = .ok (.ldc2_w 105, 3) := by decide +kernel
theorem dX8_digits_65 : decode cX8_digits 65 = .ok (.lload_n 2, 1) := by decide +kernel
theorem dX8_digits_66 : decode cX8_digits 66 = .ok (.lmul, 1) := by decide +kernel
theorem dX8_digits_67 : decode cX8_digits 67 = .ok (.aload_n 0, 1) := by decide +kernel
theorem dX8_digits_68 : decode cX8_digits 68 = .ok (.aload_n 0, 1) := by decide +kernel
theorem dX8_digits_69 : decode cX8_digits 69 = .ok (.getfield 79, 3) := by decide +kernel
theorem dX8_digits_72 : decode cX8_digits 72 = .ok (.invokevirtual 83, 3) := by decide +kernel
theorem dX8_digits_75 : decode cX8_digits 75 = .ok (.i2l, 1) := by decide +kernel
theorem dX8_digits_76 : decode cX8_digits 76 = .ok (.ladd, 1) := by decide +kernel
theorem dX8_digits_77 : decode cX8_digits 77 = .ok (.ldc2_w 98, 3) := by decide +kernel
theorem dX8_digits_80 : decode cX8_digits 80 = .ok (.lsub, 1) := by decide +kernel
theorem dX8_digits_81 : decode cX8_digits 81 = .ok (.lstore_n 2, 1) := by decide +kernel
theorem dX8_digits_82 : decode cX8_digits 82 = .ok (.aload_n 0, 1) := by decide +kernel
theorem dX8_digits_83 : decode cX8_digits 83 = .ok (.dup, 1) := by decide +kernel
theorem dX8_digits_84 : decode cX8_digits 84 = .ok (.getfield 79, 3) := by decide +kernel
theorem dX8_digits_87 : decode cX8_digits 87 = .ok (.iconst 1, 1) := by decide +kernel
theorem dX8_digits_88 : decode cX8_digits 88 = .ok (.iadd, 1) := by decide +kernel
theorem dX8_digits_89 : decode cX8_digits 89 = .ok (.putfield 79, 3) := by decide +kernel
theorem dX8_digits_92 : decode cX8_digits 92 = .ok (.goto (-85), 3) := by decide +kernel
theorem dX8_digits_95 : decode cX8_digits 95 = .ok (.lload_n 2, 1) := by decide +kernel
theorem dX8_digits_96 : decode cX8_digits 96 = .ok (.lreturn, 1) := by decide +kernel
theorem dX8_reads_0 : decode cX8_reads 0 = .ok (.aload_n 0, 1) := by decide +kernel
theorem dX8_reads_1 : decode cX8_reads 1 = .ok (.iconst 0, 1) := by decide +kernel
theorem dX8_reads_2 : decode cX8_reads 2 = .ok (.putfield 79, 3) := by decide +kernel
theorem dX8_reads_5 : decode cX8_reads 5 = .ok (.aload_n 0, 1) := by decide +kernel
theorem dX8_reads_6 : decode cX8_reads 6 = .ok (.iconst (-1), 1) := by decide +kernel
theorem dX8_reads_7 : decode cX8_reads 7 = .ok (.putfield 102, 3) := by decide +kernel
theorem dX8_reads_10 : decode cX8_reads 10 = .ok (.aload_n 0, 1) := by decide +kernel
theorem dX8_reads_11 : decode cX8_reads 11 = .ok (.iconst 0, 1) := by decide +kernel
theorem dX8_reads_12 : decode cX8_reads 12 = .ok (.putfield 89, 3) := by decide +kernel
theorem dX8_reads_15 : decode cX8_reads 15 = .ok (.aload_n 0, 1) := by decide +kernel
theorem dX8_reads_16 : decode cX8_reads 16 = .ok (.iconst 0, 1) := by decide +kernel
theorem dX8_reads_17 : decode cX8_reads 17 = .ok (.putfield 86, 3) := by decide +kernel
theorem dX8_reads_20 : decode cX8_reads 20 = .ok (.iconst 0, 1) := by decide +kernel
theorem dX8_reads_21 : decode cX8_reads 21 = .ok (.istore_n 1, 1) := by decide +kernel
theorem dX8_reads_22 : decode cX8_reads 22 = .ok (.iconst 1, 1) := by decide +kernel
theorem dX8_reads_23 : decode cX8_reads 23 = .ok (.istore_n 2, 1) := by decide +kernel
theorem dX8_reads_24 : decode cX8_reads 24 = .ok (.iconst 1, 1) := by decide +kernel
theorem dX8_reads_25 : decode cX8_reads 25 = .ok (.istore_n 3, 1) := by decide +kernel
theorem dX8_reads_26 : decode cX8_reads 26 = .ok (.iload_n 3, 1) := by decide +kernel
theorem dX8_reads_27 : decode cX8_reads 27 = .ok (.ifCond .eq 461, 3) := by decide +kernel
theorem dX8_reads_30 : decode cX8_reads 30 = .ok (.aload_n 0, 1) := by decide +kernel
theorem dX8_reads_31 : decode cX8_reads 31 = .ok (.getfield 102, 3) := by decide +kernel
theorem dX8_reads_34 : decode cX8_reads 34 = .ok (.iconst (-1), 1) := by decide +kernel
theorem dX8_reads_35 : decode cX8_reads 35 = .ok (.if_icmp .ne 453, 3) := by decide +kernel
theorem dX8_reads_38 : decode cX8_reads 38 = .ok (.aload_n 0, 1) := by decide +kernel
theorem dX8_reads_39 : decode cX8_reads 39 = .ok (.invokevirtual 107, 3) := by decide +kernel
theorem dX8_reads_42 : decode cX8_reads 42 = .ok (.istore 4, 2) := by decide +kernel
theorem dX8_reads_44 : decode cX8_reads 44 = .ok (.iload_n 2, 1) := by decide +kernel
theorem dX8_reads_45 : decode cX8_reads 45 = .ok (.ifCond .eq 209, 3) := by decide +kernel
theorem dX8_reads_48 : decode cX8_reads 48 = .ok (.iload 4, 2) := by decide +kernel
theorem dX8_reads_50 : decode cX8_reads 50 = .ok (.i2l, 1) := by decide +kernel
theorem dX8_reads_51 : decode cX8_reads 51 = .ok (.ldc2_w 98, 3) := by decide +kernel
theorem dX8_reads_54 : decode cX8_reads 54 = .ok (.ldc2_w 100, 3) := by decide +kernel
theorem dX8_reads_57 : decode cX8_reads 57 = .ok (.invokestatic 49, 3) := by decide +kernel
theorem dX8_reads_60 : decode cX8_reads 60 = .ok (.ifCond .eq 16, 3) := by decide +kernel
theorem dX8_reads_63 : decode cX8_reads 63 = .ok (.aload_n 0, 1) := by decide +kernel
theorem dX8_reads_64 : decode cX8_reads 64 = .ok (.aload_n 0, 1) := by decide +kernel
theorem dX8_reads_65 : decode cX8_reads 65 = .ok (.invokevirtual 110, 3) := by decide +kernel
theorem dX8_reads_68 : decode cX8_reads 68 = .ok (.invokevirtual 114, 3) := by decide +kernel
theorem dX8_reads_71 : decode cX8_reads 71 = .ok (.iconst 0, 1) := by decide +kernel
theorem dX8_reads_72 : decode cX8_reads 72 = .ok (.istore_n 2, 1) := by decide +kernel
theorem dX8_reads_73 : decode cX8_reads 73 = .ok (.goto 412, 3) := by decide +kernel
theorem dX8_reads_76 : decode cX8_reads 76 = .ok (.iload 4, 2) := by decide +kernel
theorem dX8_reads_78 : decode cX8_reads 78 = .ok (.invokestatic 118, 3) := by decide +kernel
theorem dX8_reads_81 : decode cX8_reads 81 = .ok (.iconst (-1), 1) := by decide +kernel
theorem dX8_reads_82 : decode cX8_reads 82 = .ok (.if_icmp .eq 32, 3) := by decide +kernel
theorem dX8_reads_85 : decode cX8_reads 85 = .ok (.aload_n 0, 1) := by decide +kernel
theorem dX8_reads_86 : decode cX8_reads 86 = .ok (.dup, 1) := by decide +kernel
theorem dX8_reads_87 : decode cX8_reads 87 = .ok (.getfield 79, 3) := by decide +kernel
theorem dX8_reads_90 : decode cX8_reads 90 = .ok (.iconst 1, 1) := by decide +kernel
theorem dX8_reads_91 : decode cX8_reads 91 = .ok (.iadd, 1) := by decide +kernel
theorem dX8_reads_92 : decode cX8_reads 92 = .ok (.putfield 79, 3) := by decide +kernel
theorem dX8_reads_95 : decode cX8_reads 95 = .ok (.aload_n 0, 1) := by decide +kernel
theorem dX8_reads_96 : decode cX8_reads 96 = .ok (.aload_n 0, 1) := by decide +kernel
theorem dX8_reads_97 : decode cX8_reads 97 = .ok (.getfield 7, 3) := by decide +kernel
theorem dX8_reads_100 : decode cX8_reads 100 = .ok (.iload 4, 2) := by decide +kernel
theorem dX8_reads_102 : decode cX8_reads 102 = .ok (.invokestatic 118, 3) := by decide +kernel
theorem dX8_reads_105 : decode cX8_reads 105 = .ok (.laload, 1) := by decide +kernel
theorem dX8_reads_106 : decode cX8_reads 106 = .ok (.invokevirtual 114, 3) := by decide +kernel
theorem dX8_reads_109 : decode cX8_reads 109 = .ok (.iconst 0, 1) := by decide +kernel
theorem dX8_reads_110 : decode cX8_reads 110 = .ok (.istore_n 2, 1) := by decide +kernel
theorem dX8_reads_111 : decode cX8_reads 111 = .ok (.goto 374, 3) := by decide +kernel
theorem dX8_reads_114 : decode cX8_reads 114 = .ok (.iload 4, 2) := by decide +kernel
theorem dX8_reads_116 : decode cX8_reads 116 = .ok (.bipush 33, 2) := by decide +kernel
theorem dX8_reads_118 : decode cX8_reads 118 = .ok (.if_icmp .eq 10, 3) := by decide +kernel
theorem dX8_reads_121 : decode cX8_reads 121 = .ok (.iload 4, 2) := by decide +kernel
theorem dX8_reads_123 : decode cX8_reads 123 = .ok (.bipush 45, 2) := by decide +kernel
theorem dX8_reads_125 : decode cX8_reads 125 = .ok (.if_icmp .ne 51, 3) := by decide +kernel
theorem dX8_reads_128 : decode cX8_reads 128 = .ok (.aload_n 0, 1) := by decide +kernel
theorem dX8_reads_129 : decode cX8_reads 129 = .ok (.dup, 1) := by decide +kernel
theorem dX8_reads_130 : decode cX8_reads 130 = .ok (.getfield 79, 3) := by decide +kernel
theorem dX8_reads_133 : decode cX8_reads 133 = .ok (.iconst 1, 1) := by decide +kernel
theorem dX8_reads_134 : decode cX8_reads 134 = .ok (.iadd, 1) := by decide +kernel
theorem dX8_reads_135 : decode cX8_reads 135 = .ok (.putfield 79, 3) := by decide +kernel
theorem dX8_reads_138 : decode cX8_reads 138 = .ok (.aload_n 0, 1) := by decide +kernel
theorem dX8_reads_139 : decode cX8_reads 139 = .ok (.getfield 27, 3) := by decide +kernel
theorem dX8_reads_142 : decode cX8_reads 142 = .ok (.aload_n 0, 1) := by decide +kernel
theorem dX8_reads_143 : decode cX8_reads 143 = .ok (.getfield 86, 3) := by decide +kernel
theorem dX8_reads_146 : decode cX8_reads 146 = .ok (.iload 4, 2) := by decide +kernel
theorem dX8_reads_148 : decode cX8_reads 148 = .ok (.bipush 33, 2) := by decide +kernel
theorem dX8_reads_150 : decode cX8_reads 150 = .ok (.if_icmp .ne 9, 3) := by decide +kernel
theorem dX8_reads_153 : decode cX8_reads 153 = .ok (.sipush 1001, 3) := by decide +kernel
theorem dX8_reads_156 : decode cX8_reads 156 = .ok (.goto 6, 3) := by decide +kernel
theorem dX8_reads_159 : decode cX8_reads 159 = .ok (.sipush 1002, 3) := by decide +kernel
theorem dX8_reads_162 : decode cX8_reads 162 = .ok (.iastore, 1) := by decide +kernel
theorem dX8_reads_163 : decode cX8_reads 163 = .ok (.aload_n 0, 1) := by decide +kernel
theorem dX8_reads_164 : decode cX8_reads 164 = .ok (.dup, 1) := by decide +kernel
theorem dX8_reads_165 : decode cX8_reads 165 = .ok (.getfield 86, 3) := by decide +kernel
theorem dX8_reads_168 : decode cX8_reads 168 = .ok (.iconst 1, 1) := by decide +kernel
theorem dX8_reads_169 : decode cX8_reads 169 = .ok (.iadd, 1) := by decide +kernel
theorem dX8_reads_170 : decode cX8_reads 170 = .ok (.putfield 86, 3) := by decide +kernel
theorem dX8_reads_173 : decode cX8_reads 173 = .ok (.goto 312, 3) := by decide +kernel
theorem dX8_reads_176 : decode cX8_reads 176 = .ok (.iload 4, 2) := by decide +kernel
theorem dX8_reads_178 : decode cX8_reads 178 = .ok (.bipush 40, 2) := by decide +kernel
theorem dX8_reads_180 : decode cX8_reads 180 = .ok (.if_icmp .ne 47, 3) := by decide +kernel
theorem dX8_reads_183 : decode cX8_reads 183 = .ok (.iload_n 1, 1) := by decide +kernel
theorem dX8_reads_184 : decode cX8_reads 184 = .ok (.bipush 8, 2) := by decide +kernel
theorem dX8_reads_186 : decode cX8_reads 186 = .ok (.if_icmp .ge 41, 3) := by decide +kernel
theorem dX8_reads_189 : decode cX8_reads 189 = .ok (.aload_n 0, 1) := by decide +kernel
theorem dX8_reads_190 : decode cX8_reads 190 = .ok (.dup, 1) := by decide +kernel
theorem dX8_reads_191 : decode cX8_reads 191 = .ok (.getfield 79, 3) := by decide +kernel
theorem dX8_reads_194 : decode cX8_reads 194 = .ok (.iconst 1, 1) := by decide +kernel
theorem dX8_reads_195 : decode cX8_reads 195 = .ok (.iadd, 1) := by decide +kernel
theorem dX8_reads_196 : decode cX8_reads 196 = .ok (.putfield 79, 3) := by decide +kernel
theorem dX8_reads_199 : decode cX8_reads 199 = .ok (.iinc 1 1, 3) := by decide +kernel
theorem dX8_reads_202 : decode cX8_reads 202 = .ok (.aload_n 0, 1) := by decide +kernel
theorem dX8_reads_203 : decode cX8_reads 203 = .ok (.getfield 27, 3) := by decide +kernel
theorem dX8_reads_206 : decode cX8_reads 206 = .ok (.aload_n 0, 1) := by decide +kernel
theorem dX8_reads_207 : decode cX8_reads 207 = .ok (.getfield 86, 3) := by decide +kernel
theorem dX8_reads_210 : decode cX8_reads 210 = .ok (.sipush 1000, 3) := by decide +kernel
theorem dX8_reads_213 : decode cX8_reads 213 = .ok (.iastore, 1) := by decide +kernel
theorem dX8_reads_214 : decode cX8_reads 214 = .ok (.aload_n 0, 1) := by decide +kernel
theorem dX8_reads_215 : decode cX8_reads 215 = .ok (.dup, 1) := by decide +kernel
theorem dX8_reads_216 : decode cX8_reads 216 = .ok (.getfield 86, 3) := by decide +kernel
theorem dX8_reads_219 : decode cX8_reads 219 = .ok (.iconst 1, 1) := by decide +kernel
theorem dX8_reads_220 : decode cX8_reads 220 = .ok (.iadd, 1) := by decide +kernel
theorem dX8_reads_221 : decode cX8_reads 221 = .ok (.putfield 86, 3) := by decide +kernel
theorem dX8_reads_224 : decode cX8_reads 224 = .ok (.goto 261, 3) := by decide +kernel
theorem dX8_reads_227 : decode cX8_reads 227 = .ok (.aload_n 0, 1) := by decide +kernel
theorem dX8_reads_228 : decode cX8_reads 228 = .ok (.bipush 10, 2) := by decide +kernel
theorem dX8_reads_230 : decode cX8_reads 230 = .ok (.aload_n 0, 1) := by decide +kernel
theorem dX8_reads_231 : decode cX8_reads 231 = .ok (.getfield 79, 3) := by decide +kernel
theorem dX8_reads_234 : decode cX8_reads 234 = .ok (.imul, 1) := by decide +kernel
theorem dX8_reads_235 : decode cX8_reads 235 = .ok (.iload 4, 2) := by decide +kernel
theorem dX8_reads_237 : decode cX8_reads 237 = .ok (.bipush 40, 2) := by decide +kernel
theorem dX8_reads_239 : decode cX8_reads 239 = .ok (.if_icmp .ne 7, 3) := by decide +kernel
theorem dX8_reads_242 : decode cX8_reads 242 = .ok (.iconst 3, 1) := by decide +kernel
theorem dX8_reads_243 : decode cX8_reads 243 = .ok (.goto 4, 3) := by decide +kernel
theorem dX8_reads_246 : decode cX8_reads 246 = .ok (.iconst 1, 1) := by decide +kernel
theorem dX8_reads_247 : decode cX8_reads 247 = .ok (.iadd, 1) := by decide +kernel
theorem dX8_reads_248 : decode cX8_reads 248 = .ok (.putfield 102, 3) := by decide +kernel
theorem dX8_reads_251 : decode cX8_reads 251 = .ok (.goto 234, 3) := by decide +kernel
theorem dX8_reads_254 : decode cX8_reads 254 = .ok (.iload 4, 2) := by decide +kernel
theorem dX8_reads_256 : decode cX8_reads 256 = .ok (.bipush 41, 2) := by decide +kernel
theorem dX8_reads_258 : decode cX8_reads 258 = .ok (.if_icmp .ne 61, 3) := by decide +kernel
theorem dX8_reads_261 : decode cX8_reads 261 = .ok (.iload_n 1, 1) := by decide +kernel
theorem dX8_reads_262 : decode cX8_reads 262 = .ok (.ifCond .le 57, 3) := by decide +kernel
theorem dX8_reads_265 : decode cX8_reads 265 = .ok (.aload_n 0, 1) := by decide +kernel
theorem dX8_reads_266 : decode cX8_reads 266 = .ok (.dup, 1) := by decide +kernel
theorem dX8_reads_267 : decode cX8_reads 267 = .ok (.getfield 79, 3) := by decide +kernel
theorem dX8_reads_270 : decode cX8_reads 270 = .ok (.iconst 1, 1) := by decide +kernel
theorem dX8_reads_271 : decode cX8_reads 271 = .ok (.iadd, 1) := by decide +kernel
theorem dX8_reads_272 : decode cX8_reads 272 = .ok (.putfield 79, 3) := by decide +kernel
theorem dX8_reads_275 : decode cX8_reads 275 = .ok (.iinc 1 (-1), 3) := by decide +kernel
theorem dX8_reads_278 : decode cX8_reads 278 = .ok (.aload_n 0, 1) := by decide +kernel
theorem dX8_reads_279 : decode cX8_reads 279 = .ok (.iconst 1, 1) := by decide +kernel
theorem dX8_reads_280 : decode cX8_reads 280 = .ok (.invokevirtual 121, 3) := by decide +kernel
theorem dX8_reads_283 : decode cX8_reads 283 = .ok (.aload_n 0, 1) := by decide +kernel
theorem dX8_reads_284 : decode cX8_reads 284 = .ok (.dup, 1) := by decide +kernel
theorem dX8_reads_285 : decode cX8_reads 285 = .ok (.getfield 86, 3) := by decide +kernel
theorem dX8_reads_288 : decode cX8_reads 288 = .ok (.iconst 1, 1) := by decide +kernel
theorem dX8_reads_289 : decode cX8_reads 289 = .ok (.isub, 1) := by decide +kernel
theorem dX8_reads_290 : decode cX8_reads 290 = .ok (.putfield 86, 3) := by decide +kernel
theorem dX8_reads_293 : decode cX8_reads 293 = .ok (.aload_n 0, 1) := by decide +kernel
theorem dX8_reads_294 : decode cX8_reads 294 = .ok (.dup, 1) := by decide +kernel
theorem dX8_reads_295 : decode cX8_reads 295 = .ok (.getfield 89, 3) := by decide +kernel
theorem dX8_reads_298 : decode cX8_reads 298 = .ok (.iconst 1, 1) := by decide +kernel
theorem dX8_reads_299 : decode cX8_reads 299 = .ok (.isub, 1) := by decide +kernel
theorem dX8_reads_300 : decode cX8_reads 300 = .ok (.putfield 89, 3) := by decide +kernel
theorem dX8_reads_303 : decode cX8_reads 303 = .ok (.aload_n 0, 1) := by decide +kernel
theorem dX8_reads_304 : decode cX8_reads 304 = .ok (.aload_n 0, 1) := by decide +kernel
theorem dX8_reads_305 : decode cX8_reads 305 = .ok (.getfield 24, 3) := by decide +kernel
theorem dX8_reads_308 : decode cX8_reads 308 = .ok (.aload_n 0, 1) := by decide +kernel
theorem dX8_reads_309 : decode cX8_reads 309 = .ok (.getfield 89, 3) := by decide +kernel
theorem dX8_reads_312 : decode cX8_reads 312 = .ok (.laload, 1) := by decide +kernel
theorem dX8_reads_313 : decode cX8_reads 313 = .ok (.invokevirtual 114, 3) := by decide +kernel
theorem dX8_reads_316 : decode cX8_reads 316 = .ok (.goto 169, 3) := by decide +kernel
theorem dX8_reads_319 : decode cX8_reads 319 = .ok (.iload 4, 2) := by decide +kernel
theorem dX8_reads_321 : decode cX8_reads 321 = .ok (.invokestatic 92, 3) := by decide +kernel
theorem dX8_reads_324 : decode cX8_reads 324 = .ok (.ifCond .le 128, 3) := by decide +kernel
theorem dX8_reads_327 : decode cX8_reads 327 = .ok (.aload_n 0, 1) := by decide +kernel
theorem dX8_reads_328 : decode cX8_reads 328 = .ok (.iload 4, 2) := by decide +kernel
theorem dX8_reads_330 : decode cX8_reads 330 = .ok (.invokestatic 92, 3) := by decide +kernel
theorem dX8_reads_333 : decode cX8_reads 333 = .ok (.iconst 3, 1) := by decide +kernel
theorem dX8_reads_334 : decode cX8_reads 334 = .ok (.if_icmp .ne 7, 3) := by decide +kernel
theorem dX8_reads_337 : decode cX8_reads 337 = .ok (.iconst 4, 1) := by decide +kernel
theorem dX8_reads_338 : decode cX8_reads 338 = .ok (.goto 8, 3) := by decide +kernel
theorem dX8_reads_341 : decode cX8_reads 341 = .ok (.iload 4, 2) := by decide +kernel
theorem dX8_reads_343 : decode cX8_reads 343 = .ok (.invokestatic 92, 3) := by decide +kernel
theorem dX8_reads_346 : decode cX8_reads 346 = .ok (.invokevirtual 121, 3) := by decide +kernel
theorem dX8_reads_349 : decode cX8_reads 349 = .ok (.iload 4, 2) := by decide +kernel
theorem dX8_reads_351 : decode cX8_reads 351 = .ok (.invokestatic 92, 3) := by decide +kernel
theorem dX8_reads_354 : decode cX8_reads 354 = .ok (.iconst 3, 1) := by decide +kernel
theorem dX8_reads_355 : decode cX8_reads 355 = .ok (.if_icmp .ne 61, 3) := by decide +kernel
theorem dX8_reads_358 : decode cX8_reads 358 = .ok (.aload_n 0, 1) := by decide +kernel
theorem dX8_reads_359 : decode cX8_reads 359 = .ok (.getfield 86, 3) := by decide +kernel
theorem dX8_reads_362 : decode cX8_reads 362 = .ok (.ifCond .le 54, 3) := by decide +kernel
theorem dX8_reads_365 : decode cX8_reads 365 = .ok (.aload_n 0, 1) := by decide +kernel
theorem dX8_reads_366 : decode cX8_reads 366 = .ok (.getfield 27, 3) := by decide +kernel
theorem dX8_reads_369 : decode cX8_reads 369 = .ok (.aload_n 0, 1) := by decide +kernel
theorem dX8_reads_370 : decode cX8_reads 370 = .ok (.getfield 86, 3) := by decide +kernel
theorem dX8_reads_373 : decode cX8_reads 373 = .ok (.iconst 1, 1) := by decide +kernel
theorem dX8_reads_374 : decode cX8_reads 374 = .ok (.isub, 1) := by decide +kernel
theorem dX8_reads_375 : decode cX8_reads 375 = .ok (.iaload, 1) := by decide +kernel
theorem dX8_reads_376 : decode cX8_reads 376 = .ok (.sipush 1000, 3) := by decide +kernel
theorem dX8_reads_379 : decode cX8_reads 379 = .ok (.if_icmp .ge 37, 3) := by decide +kernel
theorem dX8_reads_382 : decode cX8_reads 382 = .ok (.aload_n 0, 1) := by decide +kernel
theorem dX8_reads_383 : decode cX8_reads 383 = .ok (.getfield 27, 3) := by decide +kernel
theorem dX8_reads_386 : decode cX8_reads 386 = .ok (.aload_n 0, 1) := by decide +kernel
theorem dX8_reads_387 : decode cX8_reads 387 = .ok (.getfield 86, 3) := by decide +kernel
theorem dX8_reads_390 : decode cX8_reads 390 = .ok (.iconst 1, 1) := by decide +kernel
theorem dX8_reads_391 : decode cX8_reads 391 = .ok (.isub, 1) := by decide +kernel
theorem dX8_reads_392 : decode cX8_reads 392 = .ok (.iaload, 1) := by decide +kernel
theorem dX8_reads_393 : decode cX8_reads 393 = .ok (.invokestatic 92, 3) := by decide +kernel
theorem dX8_reads_396 : decode cX8_reads 396 = .ok (.iconst 3, 1) := by decide +kernel
theorem dX8_reads_397 : decode cX8_reads 397 = .ok (.if_icmp .ne 19, 3) := by decide +kernel
theorem dX8_reads_400 : decode cX8_reads 400 = .ok (.aload_n 0, 1) := by decide +kernel
theorem dX8_reads_401 : decode cX8_reads 401 = .ok (.bipush 10, 2) := by decide +kernel
theorem dX8_reads_403 : decode cX8_reads 403 = .ok (.aload_n 0, 1) := by decide +kernel
theorem dX8_reads_404 : decode cX8_reads 404 = .ok (.getfield 79, 3) := by decide +kernel
theorem dX8_reads_407 : decode cX8_reads 407 = .ok (.imul, 1) := by decide +kernel
theorem dX8_reads_408 : decode cX8_reads 408 = .ok (.iconst 1, 1) := by decide +kernel
theorem dX8_reads_409 : decode cX8_reads 409 = .ok (.iadd, 1) := by decide +kernel
theorem dX8_reads_410 : decode cX8_reads 410 = .ok (.putfield 102, 3) := by decide +kernel
theorem dX8_reads_413 : decode cX8_reads 413 = .ok (.goto 72, 3) := by decide +kernel
theorem dX8_reads_416 : decode cX8_reads 416 = .ok (.aload_n 0, 1) := by decide +kernel
theorem dX8_reads_417 : decode cX8_reads 417 = .ok (.dup, 1) := by decide +kernel
theorem dX8_reads_418 : decode cX8_reads 418 = .ok (.getfield 79, 3) := by decide +kernel
theorem dX8_reads_421 : decode cX8_reads 421 = .ok (.iconst 1, 1) := by decide +kernel
theorem dX8_reads_422 : decode cX8_reads 422 = .ok (.iadd, 1) := by decide +kernel
theorem dX8_reads_423 : decode cX8_reads 423 = .ok (.putfield 79, 3) := by decide +kernel
theorem dX8_reads_426 : decode cX8_reads 426 = .ok (.aload_n 0, 1) := by decide +kernel
theorem dX8_reads_427 : decode cX8_reads 427 = .ok (.getfield 27, 3) := by decide +kernel
theorem dX8_reads_430 : decode cX8_reads 430 = .ok (.aload_n 0, 1) := by decide +kernel
theorem dX8_reads_431 : decode cX8_reads 431 = .ok (.getfield 86, 3) := by decide +kernel
theorem dX8_reads_434 : decode cX8_reads 434 = .ok (.iload 4, 2) := by decide +kernel
theorem dX8_reads_436 : decode cX8_reads 436 = .ok (.iastore, 1) := by decide +kernel
theorem dX8_reads_437 : decode cX8_reads 437 = .ok (.aload_n 0, 1) := by decide +kernel
theorem dX8_reads_438 : decode cX8_reads 438 = .ok (.dup, 1) := by decide +kernel
theorem dX8_reads_439 : decode cX8_reads 439 = .ok (.getfield 86, 3) := by decide +kernel
theorem dX8_reads_442 : decode cX8_reads 442 = .ok (.iconst 1, 1) := by decide +kernel
theorem dX8_reads_443 : decode cX8_reads 443 = .ok (.iadd, 1) := by decide +kernel
theorem dX8_reads_444 : decode cX8_reads 444 = .ok (.putfield 86, 3) := by decide +kernel
theorem dX8_reads_447 : decode cX8_reads 447 = .ok (.iconst 1, 1) := by decide +kernel
theorem dX8_reads_448 : decode cX8_reads 448 = .ok (.istore_n 2, 1) := by decide +kernel
theorem dX8_reads_449 : decode cX8_reads 449 = .ok (.goto 36, 3) := by decide +kernel
theorem dX8_reads_452 : decode cX8_reads 452 = .ok (.iload 4, 2) := by decide +kernel
theorem dX8_reads_454 : decode cX8_reads 454 = .ok (.iconst (-1), 1) := by decide +kernel
theorem dX8_reads_455 : decode cX8_reads 455 = .ok (.if_icmp .ne 17, 3) := by decide +kernel
theorem dX8_reads_458 : decode cX8_reads 458 = .ok (.iload_n 1, 1) := by decide +kernel
theorem dX8_reads_459 : decode cX8_reads 459 = .ok (.ifCond .ne 13, 3) := by decide +kernel
theorem dX8_reads_462 : decode cX8_reads 462 = .ok (.aload_n 0, 1) := by decide +kernel
theorem dX8_reads_463 : decode cX8_reads 463 = .ok (.iconst 1, 1) := by decide +kernel
theorem dX8_reads_464 : decode cX8_reads 464 = .ok (.invokevirtual 121, 3) := by decide +kernel
theorem dX8_reads_467 : decode cX8_reads 467 = .ok (.iconst 0, 1) := by decide +kernel
theorem dX8_reads_468 : decode cX8_reads 468 = .ok (.istore_n 3, 1) := by decide +kernel
theorem dX8_reads_469 : decode cX8_reads 469 = .ok (.goto 16, 3) := by decide +kernel
theorem dX8_reads_472 : decode cX8_reads 472 = .ok (.aload_n 0, 1) := by decide +kernel
theorem dX8_reads_473 : decode cX8_reads 473 = .ok (.bipush 10, 2) := by decide +kernel
theorem dX8_reads_475 : decode cX8_reads 475 = .ok (.aload_n 0, 1) := by decide +kernel
theorem dX8_reads_476 : decode cX8_reads 476 = .ok (.getfield 79, 3) := by decide +kernel
theorem dX8_reads_479 : decode cX8_reads 479 = .ok (.imul, 1) := by decide +kernel
theorem dX8_reads_480 : decode cX8_reads 480 = .ok (.iconst 1, 1) := by decide +kernel
theorem dX8_reads_481 : decode cX8_reads 481 = .ok (.iadd, 1) := by decide +kernel
theorem dX8_reads_482 : decode cX8_reads 482 = .ok (.putfield 102, 3) := by decide +kernel
theorem dX8_reads_485 : decode cX8_reads 485 = .ok (.goto (-459), 3) := by decide +kernel
theorem dX8_reads_488 : decode cX8_reads 488 = .ok (.aload_n 0, 1) := by decide +kernel
theorem dX8_reads_489 : decode cX8_reads 489 = .ok (.aload_n 0, 1) := by decide +kernel
theorem dX8_reads_490 : decode cX8_reads 490 = .ok (.getfield 102, 3) := by decide +kernel
theorem dX8_reads_493 : decode cX8_reads 493 = .ok (.iconst (-1), 1) := by decide +kernel
theorem dX8_reads_494 : decode cX8_reads 494 = .ok (.if_icmp .ne 12, 3) := by decide +kernel
theorem dX8_reads_497 : decode cX8_reads 497 = .ok (.aload_n 0, 1) := by decide +kernel
theorem dX8_reads_498 : decode cX8_reads 498 = .ok (.getfield 24, 3) := by decide +kernel
theorem dX8_reads_501 : decode cX8_reads 501 = .ok (.iconst 0, 1) := by decide +kernel
theorem dX8_reads_502 : decode cX8_reads 502 = .ok (.laload, 1) := by decide +kernel
theorem dX8_reads_503 : decode cX8_reads 503 = .ok (.goto 4, 3) := by decide +kernel
theorem dX8_reads_506 : decode cX8_reads 506 = .ok (.lconst 0, 1) := by decide +kernel
theorem dX8_reads_507 : decode cX8_reads 507 = .ok (.putfield 125, 3) := by decide +kernel
theorem dX8_reads_510 : decode cX8_reads 510 = .ok (.aload_n 0, 1) := by decide +kernel
theorem dX8_reads_511 : decode cX8_reads 511 = .ok (.getfield 102, 3) := by decide +kernel
theorem dX8_reads_514 : decode cX8_reads 514 = .ok (.iconst (-1), 1) := by decide +kernel
theorem dX8_reads_515 : decode cX8_reads 515 = .ok (.if_icmp .ne 7, 3) := by decide +kernel
theorem dX8_reads_518 : decode cX8_reads 518 = .ok (.iconst 1, 1) := by decide +kernel
theorem dX8_reads_519 : decode cX8_reads 519 = .ok (.goto 4, 3) := by decide +kernel
theorem dX8_reads_522 : decode cX8_reads 522 = .ok (.iconst 0, 1) := by decide +kernel
theorem dX8_reads_523 : decode cX8_reads 523 = .ok (.ireturn, 1) := by decide +kernel
theorem dX8_fault_0 : decode cX8_fault 0 = .ok (.aload_n 0, 1) := by decide +kernel
theorem dX8_fault_1 : decode cX8_fault 1 = .ok (.invokevirtual 128, 3) := by decide +kernel
theorem dX8_fault_4 : decode cX8_fault 4 = .ok (.istore_n 1, 1) := by decide +kernel
theorem dX8_fault_5 : decode cX8_fault 5 = .ok (.aload_n 0, 1) := by decide +kernel
theorem dX8_fault_6 : decode cX8_fault 6 = .ok (.getfield 102, 3) := by decide +kernel
theorem dX8_fault_9 : decode cX8_fault 9 = .ok (.ireturn, 1) := by decide +kernel
theorem dX8_pushMany_0 : decode cX8_pushMany 0 = .ok (.aload_n 0, 1) := by decide +kernel
theorem dX8_pushMany_1 : decode cX8_pushMany 1 = .ok (.getfield 7, 3) := by decide +kernel
theorem dX8_pushMany_4 : decode cX8_pushMany 4 = .ok (.bipush 122, 2) := by decide +kernel
theorem dX8_pushMany_6 : decode cX8_pushMany 6 = .ok (.laload, 1) := by decide +kernel
theorem dX8_pushMany_7 : decode cX8_pushMany 7 = .ok (.l2i, 1) := by decide +kernel
theorem dX8_pushMany_8 : decode cX8_pushMany 8 = .ok (.ireturn, 1) := by decide +kernel
theorem dX8_isForce_0 : decode cX8_isForce 0 = .ok (.iload_n 0, 1) := by decide +kernel
theorem dX8_isForce_1 : decode cX8_isForce 1 = .ok (.i2l, 1) := by decide +kernel
theorem dX8_isForce_2 : decode cX8_isForce 2 = .ok (.ldc2_w 132, 3) := by decide +kernel
theorem dX8_isForce_5 : decode cX8_isForce 5 = .ok (.ldc2_w 134, 3) := by decide +kernel
theorem dX8_isForce_8 : decode cX8_isForce 8 = .ok (.invokestatic 49, 3) := by decide +kernel
theorem dX8_isForce_11 : decode cX8_isForce 11 = .ok (.ireturn, 1) := by decide +kernel
theorem dX8_push_0 : decode cX8_push 0 = .ok (.iload_n 1, 1) := by decide +kernel
theorem dX8_push_1 : decode cX8_push 1 = .ok (.i2l, 1) := by decide +kernel
theorem dX8_push_2 : decode cX8_push 2 = .ok (.lconst 0, 1) := by decide +kernel
theorem dX8_push_3 : decode cX8_push 3 = .ok (.ldc2_w 136, 3) := by decide +kernel
theorem dX8_push_6 : decode cX8_push 6 = .ok (.invokestatic 49, 3) := by decide +kernel
theorem dX8_push_9 : decode cX8_push 9 = .ok (.ifCond .eq 10, 3) := by decide +kernel
theorem dX8_push_12 : decode cX8_push 12 = .ok (.iload_n 2, 1) := by decide +kernel
theorem dX8_push_13 : decode cX8_push 13 = .ok (.invokestatic 138, 3) := by decide +kernel
theorem dX8_push_16 : decode cX8_push 16 = .ok (.ifCond .ne 10, 3) := by decide +kernel
theorem dX8_push_19 : decode cX8_push 19 = .ok (.aload_n 0, 1) := by decide +kernel
theorem dX8_push_20 : decode cX8_push 20 = .ok (.bipush (-2), 2) := by decide +kernel
theorem dX8_push_22 : decode cX8_push 22 = .ok (.invokevirtual 65, 3) := by decide +kernel
theorem dX8_push_25 : decode cX8_push 25 = .ok (.ireturn, 1) := by decide +kernel
theorem dX8_push_26 : decode cX8_push 26 = .ok (.aload_n 0, 1) := by decide +kernel
theorem dX8_push_27 : decode cX8_push 27 = .ok (.invokevirtual 142, 3) := by decide +kernel
theorem dX8_push_30 : decode cX8_push 30 = .ok (.istore_n 3, 1) := by decide +kernel
theorem dX8_push_31 : decode cX8_push 31 = .ok (.iload_n 3, 1) := by decide +kernel
theorem dX8_push_32 : decode cX8_push 32 = .ok (.bipush 8, 2) := by decide +kernel
theorem dX8_push_34 : decode cX8_push 34 = .ok (.if_icmp .ne 16, 3) := by decide +kernel
theorem dX8_push_37 : decode cX8_push 37 = .ok (.aload_n 0, 1) := by decide +kernel
theorem dX8_push_38 : decode cX8_push 38 = .ok (.getfield 20, 3) := by decide +kernel
theorem dX8_push_41 : decode cX8_push 41 = .ok (.iconst 2, 1) := by decide +kernel
theorem dX8_push_42 : decode cX8_push 42 = .ok (.dup2, 1) := by decide +kernel
theorem dX8_push_43 : decode cX8_push 43 = .ok (.iaload, 1) := by decide +kernel
theorem dX8_push_44 : decode cX8_push 44 = .ok (.iconst 1, 1) := by decide +kernel
theorem dX8_push_45 : decode cX8_push 45 = .ok (.iadd, 1) := by decide +kernel
theorem dX8_push_46 : decode cX8_push 46 = .ok (.iastore, 1) := by decide +kernel
theorem dX8_push_47 : decode cX8_push 47 = .ok (.bipush (-4), 2) := by decide +kernel
theorem dX8_push_49 : decode cX8_push 49 = .ok (.ireturn, 1) := by decide +kernel
theorem dX8_push_50 : decode cX8_push 50 = .ok (.aload_n 0, 1) := by decide +kernel
theorem dX8_push_51 : decode cX8_push 51 = .ok (.getfield 7, 3) := by decide +kernel
theorem dX8_push_54 : decode cX8_push 54 = .ok (.bipush 123, 2) := by decide +kernel
theorem dX8_push_56 : decode cX8_push 56 = .ok (.iconst 2, 1) := by decide +kernel
theorem dX8_push_57 : decode cX8_push 57 = .ok (.iload_n 3, 1) := by decide +kernel
theorem dX8_push_58 : decode cX8_push 58 = .ok (.imul, 1) := by decide +kernel
theorem dX8_push_59 : decode cX8_push 59 = .ok (.iadd, 1) := by decide +kernel
theorem dX8_push_60 : decode cX8_push 60 = .ok (.iload_n 1, 1) := by decide +kernel
theorem dX8_push_61 : decode cX8_push 61 = .ok (.i2l, 1) := by decide +kernel
theorem dX8_push_62 : decode cX8_push 62 = .ok (.lastore, 1) := by decide +kernel
theorem dX8_push_63 : decode cX8_push 63 = .ok (.aload_n 0, 1) := by decide +kernel
theorem dX8_push_64 : decode cX8_push 64 = .ok (.getfield 7, 3) := by decide +kernel
theorem dX8_push_67 : decode cX8_push 67 = .ok (.bipush 124, 2) := by decide +kernel
theorem dX8_push_69 : decode cX8_push 69 = .ok (.iconst 2, 1) := by decide +kernel
theorem dX8_push_70 : decode cX8_push 70 = .ok (.iload_n 3, 1) := by decide +kernel
theorem dX8_push_71 : decode cX8_push 71 = .ok (.imul, 1) := by decide +kernel
theorem dX8_push_72 : decode cX8_push 72 = .ok (.iadd, 1) := by decide +kernel
theorem dX8_push_73 : decode cX8_push 73 = .ok (.iload_n 2, 1) := by decide +kernel
theorem dX8_push_74 : decode cX8_push 74 = .ok (.i2l, 1) := by decide +kernel
theorem dX8_push_75 : decode cX8_push 75 = .ok (.lastore, 1) := by decide +kernel
theorem dX8_push_76 : decode cX8_push 76 = .ok (.aload_n 0, 1) := by decide +kernel
theorem dX8_push_77 : decode cX8_push 77 = .ok (.getfield 7, 3) := by decide +kernel
theorem dX8_push_80 : decode cX8_push 80 = .ok (.bipush 122, 2) := by decide +kernel
theorem dX8_push_82 : decode cX8_push 82 = .ok (.dup2, 1) := by decide +kernel
theorem dX8_push_83 : decode cX8_push 83 = .ok (.laload, 1) := by decide +kernel
theorem dX8_push_84 : decode cX8_push 84 = .ok (.lconst 1, 1) := by decide +kernel
theorem dX8_push_85 : decode cX8_push 85 = .ok (.ladd, 1) := by decide +kernel
theorem dX8_push_86 : decode cX8_push 86 = .ok (.lastore, 1) := by decide +kernel
theorem dX8_push_87 : decode cX8_push 87 = .ok (.iload_n 3, 1) := by decide +kernel
theorem dX8_push_88 : decode cX8_push 88 = .ok (.iconst 1, 1) := by decide +kernel
theorem dX8_push_89 : decode cX8_push 89 = .ok (.iadd, 1) := by decide +kernel
theorem dX8_push_90 : decode cX8_push 90 = .ok (.ireturn, 1) := by decide +kernel
theorem dX8_rest_0 : decode cX8_rest 0 = .ok (.aload_n 0, 1) := by decide +kernel
theorem dX8_rest_1 : decode cX8_rest 1 = .ok (.invokevirtual 142, 3) := by decide +kernel
theorem dX8_rest_4 : decode cX8_rest 4 = .ok (.istore_n 1, 1) := by decide +kernel
theorem dX8_rest_5 : decode cX8_rest 5 = .ok (.aload_n 0, 1) := by decide +kernel
theorem dX8_rest_6 : decode cX8_rest 6 = .ok (.getfield 7, 3) := by decide +kernel
theorem dX8_rest_9 : decode cX8_rest 9 = .ok (.bipush 122, 2) := by decide +kernel
theorem dX8_rest_11 : decode cX8_rest 11 = .ok (.lconst 0, 1) := by decide +kernel
theorem dX8_rest_12 : decode cX8_rest 12 = .ok (.lastore, 1) := by decide +kernel
theorem dX8_rest_13 : decode cX8_rest 13 = .ok (.iload_n 1, 1) := by decide +kernel
theorem dX8_rest_14 : decode cX8_rest 14 = .ok (.ireturn, 1) := by decide +kernel
theorem dX8_size_0 : decode cX8_size 0 = .ok (.lload_n 0, 1) := by decide +kernel
theorem dX8_size_1 : decode cX8_size 1 = .ok (.lconst 0, 1) := by decide +kernel
theorem dX8_size_2 : decode cX8_size 2 = .ok (.lcmp, 1) := by decide +kernel
theorem dX8_size_3 : decode cX8_size 3 = .ok (.ifCond .ge 8, 3) := by decide +kernel
theorem dX8_size_6 : decode cX8_size 6 = .ok (.lload_n 0, 1) := by decide +kernel
theorem dX8_size_7 : decode cX8_size 7 = .ok (.lneg, 1) := by decide +kernel
theorem dX8_size_8 : decode cX8_size 8 = .ok (.goto 4, 3) := by decide +kernel
theorem dX8_size_11 : decode cX8_size 11 = .ok (.lload_n 0, 1) := by decide +kernel
theorem dX8_size_12 : decode cX8_size 12 = .ok (.lreturn, 1) := by decide +kernel
theorem dX8_signOf_0 : decode cX8_signOf 0 = .ok (.lload_n 0, 1) := by decide +kernel
theorem dX8_signOf_1 : decode cX8_signOf 1 = .ok (.lconst 0, 1) := by decide +kernel
theorem dX8_signOf_2 : decode cX8_signOf 2 = .ok (.lcmp, 1) := by decide +kernel
theorem dX8_signOf_3 : decode cX8_signOf 3 = .ok (.ifCond .ge 7, 3) := by decide +kernel
theorem dX8_signOf_6 : decode cX8_signOf 6 = .ok (.iconst (-1), 1) := by decide +kernel
theorem dX8_signOf_7 : decode cX8_signOf 7 = .ok (.goto 14, 3) := by decide +kernel
theorem dX8_signOf_10 : decode cX8_signOf 10 = .ok (.lload_n 0, 1) := by decide +kernel
theorem dX8_signOf_11 : decode cX8_signOf 11 = .ok (.lconst 0, 1) := by decide +kernel
theorem dX8_signOf_12 : decode cX8_signOf 12 = .ok (.lcmp, 1) := by decide +kernel
theorem dX8_signOf_13 : decode cX8_signOf 13 = .ok (.ifCond .le 7, 3) := by decide +kernel
theorem dX8_signOf_16 : decode cX8_signOf 16 = .ok (.iconst 1, 1) := by decide +kernel
theorem dX8_signOf_17 : decode cX8_signOf 17 = .ok (.goto 4, 3) := by decide +kernel
theorem dX8_signOf_20 : decode cX8_signOf 20 = .ok (.iconst 0, 1) := by decide +kernel
theorem dX8_signOf_21 : decode cX8_signOf 21 = .ok (.ireturn, 1) := by decide +kernel
theorem dX8_wished_0 : decode cX8_wished 0 = .ok (.aload_n 0, 1) := by decide +kernel
theorem dX8_wished_1 : decode cX8_wished 1 = .ok (.getfield 145, 3) := by decide +kernel
theorem dX8_wished_4 : decode cX8_wished 4 = .ok (.iconst 1, 1) := by decide +kernel
theorem dX8_wished_5 : decode cX8_wished 5 = .ok (.if_icmp .ne 9, 3) := by decide +kernel
theorem dX8_wished_8 : decode cX8_wished 8 = .ok (.aload_n 0, 1) := by decide +kernel
theorem dX8_wished_9 : decode cX8_wished 9 = .ok (.getfield 148, 3) := by decide +kernel
theorem dX8_wished_12 : decode cX8_wished 12 = .ok (.i2l, 1) := by decide +kernel
theorem dX8_wished_13 : decode cX8_wished 13 = .ok (.lreturn, 1) := by decide +kernel
theorem dX8_wished_14 : decode cX8_wished 14 = .ok (.aload_n 0, 1) := by decide +kernel
theorem dX8_wished_15 : decode cX8_wished 15 = .ok (.getfield 145, 3) := by decide +kernel
theorem dX8_wished_18 : decode cX8_wished 18 = .ok (.iconst 2, 1) := by decide +kernel
theorem dX8_wished_19 : decode cX8_wished 19 = .ok (.if_icmp .ne 33, 3) := by decide +kernel
theorem dX8_wished_22 : decode cX8_wished 22 = .ok (.aload_n 0, 1) := by decide +kernel
theorem dX8_wished_23 : decode cX8_wished 23 = .ok (.getfield 7, 3) := by decide +kernel
theorem dX8_wished_26 : decode cX8_wished 26 = .ok (.iconst 0, 1) := by decide +kernel
theorem dX8_wished_27 : decode cX8_wished 27 = .ok (.laload, 1) := by decide +kernel
theorem dX8_wished_28 : decode cX8_wished 28 = .ok (.invokestatic 151, 3) := by decide +kernel
theorem dX8_wished_31 : decode cX8_wished 31 = .ok (.ldc2_w 155, 3) := by decide +kernel
theorem dX8_wished_34 : decode cX8_wished 34 = .ok (.aload_n 0, 1) := by decide +kernel
theorem dX8_wished_35 : decode cX8_wished 35 = .ok (.getfield 148, 3) := by decide +kernel
theorem dX8_wished_38 : decode cX8_wished 38 = .ok (.i2l, 1) := by decide +kernel
theorem dX8_wished_39 : decode cX8_wished 39 = .ok (.lmul, 1) := by decide +kernel
theorem dX8_wished_40 : decode cX8_wished 40 = .ok (.lcmp, 1) := by decide +kernel
theorem dX8_wished_41 : decode cX8_wished 41 = .ok (.ifCond .ge 9, 3) := by decide +kernel
theorem dX8_wished_44 : decode cX8_wished 44 = .ok (.ldc2_w 53, 3) := by decide +kernel
theorem dX8_wished_47 : decode cX8_wished 47 = .ok (.goto 4, 3) := by decide +kernel
theorem dX8_wished_50 : decode cX8_wished 50 = .ok (.lconst 0, 1) := by decide +kernel
theorem dX8_wished_51 : decode cX8_wished 51 = .ok (.lreturn, 1) := by decide +kernel
theorem dX8_wished_52 : decode cX8_wished 52 = .ok (.aload_n 0, 1) := by decide +kernel
theorem dX8_wished_53 : decode cX8_wished 53 = .ok (.invokevirtual 128, 3) := by decide +kernel
theorem dX8_wished_56 : decode cX8_wished 56 = .ok (.ifCond .ne 10, 3) := by decide +kernel
theorem dX8_wished_59 : decode cX8_wished 59 = .ok (.aload_n 0, 1) := by decide +kernel
theorem dX8_wished_60 : decode cX8_wished 60 = .ok (.getfield 7, 3) := by decide +kernel
theorem dX8_wished_63 : decode cX8_wished 63 = .ok (.iconst 2, 1) := by decide +kernel
theorem dX8_wished_64 : decode cX8_wished 64 = .ok (.laload, 1) := by decide +kernel
theorem dX8_wished_65 : decode cX8_wished 65 = .ok (.lreturn, 1) := by decide +kernel
theorem dX8_wished_66 : decode cX8_wished 66 = .ok (.aload_n 0, 1) := by decide +kernel
theorem dX8_wished_67 : decode cX8_wished 67 = .ok (.getfield 125, 3) := by decide +kernel
theorem dX8_wished_70 : decode cX8_wished 70 = .ok (.lconst 0, 1) := by decide +kernel
theorem dX8_wished_71 : decode cX8_wished 71 = .ok (.lcmp, 1) := by decide +kernel
theorem dX8_wished_72 : decode cX8_wished 72 = .ok (.ifCond .ge 7, 3) := by decide +kernel
theorem dX8_wished_75 : decode cX8_wished 75 = .ok (.lconst 0, 1) := by decide +kernel
theorem dX8_wished_76 : decode cX8_wished 76 = .ok (.goto 24, 3) := by decide +kernel
theorem dX8_wished_79 : decode cX8_wished 79 = .ok (.aload_n 0, 1) := by decide +kernel
theorem dX8_wished_80 : decode cX8_wished 80 = .ok (.getfield 125, 3) := by decide +kernel
theorem dX8_wished_83 : decode cX8_wished 83 = .ok (.ldc2_w 53, 3) := by decide +kernel
theorem dX8_wished_86 : decode cX8_wished 86 = .ok (.lcmp, 1) := by decide +kernel
theorem dX8_wished_87 : decode cX8_wished 87 = .ok (.ifCond .le 9, 3) := by decide +kernel
theorem dX8_wished_90 : decode cX8_wished 90 = .ok (.ldc2_w 53, 3) := by decide +kernel
theorem dX8_wished_93 : decode cX8_wished 93 = .ok (.goto 7, 3) := by decide +kernel
theorem dX8_wished_96 : decode cX8_wished 96 = .ok (.aload_n 0, 1) := by decide +kernel
theorem dX8_wished_97 : decode cX8_wished 97 = .ok (.getfield 125, 3) := by decide +kernel
theorem dX8_wished_100 : decode cX8_wished 100 = .ok (.lreturn, 1) := by decide +kernel
theorem dX8_lengthNow_0 : decode cX8_lengthNow 0 = .ok (.aload_n 0, 1) := by decide +kernel
theorem dX8_lengthNow_1 : decode cX8_lengthNow 1 = .ok (.iconst 0, 1) := by decide +kernel
theorem dX8_lengthNow_2 : decode cX8_lengthNow 2 = .ok (.invokevirtual 69, 3) := by decide +kernel
theorem dX8_lengthNow_5 : decode cX8_lengthNow 5 = .ok (.aload_n 0, 1) := by decide +kernel
theorem dX8_lengthNow_6 : decode cX8_lengthNow 6 = .ok (.iconst 3, 1) := by decide +kernel
theorem dX8_lengthNow_7 : decode cX8_lengthNow 7 = .ok (.invokevirtual 69, 3) := by decide +kernel
theorem dX8_lengthNow_10 : decode cX8_lengthNow 10 = .ok (.aload_n 0, 1) := by decide +kernel
theorem dX8_lengthNow_11 : decode cX8_lengthNow 11 = .ok (.getfield 7, 3) := by decide +kernel
theorem dX8_lengthNow_14 : decode cX8_lengthNow 14 = .ok (.iconst 2, 1) := by decide +kernel
theorem dX8_lengthNow_15 : decode cX8_lengthNow 15 = .ok (.laload, 1) := by decide +kernel
theorem dX8_lengthNow_16 : decode cX8_lengthNow 16 = .ok (.lmul, 1) := by decide +kernel
theorem dX8_lengthNow_17 : decode cX8_lengthNow 17 = .ok (.lsub, 1) := by decide +kernel
theorem dX8_lengthNow_18 : decode cX8_lengthNow 18 = .ok (.lreturn, 1) := by decide +kernel
theorem dX8_tickOnce_0 : decode cX8_tickOnce 0 = .ok (.aload_n 0, 1) := by decide +kernel
theorem dX8_tickOnce_1 : decode cX8_tickOnce 1 = .ok (.getfield 7, 3) := by decide +kernel
theorem dX8_tickOnce_4 : decode cX8_tickOnce 4 = .ok (.iconst 0, 1) := by decide +kernel
theorem dX8_tickOnce_5 : decode cX8_tickOnce 5 = .ok (.laload, 1) := by decide +kernel
theorem dX8_tickOnce_6 : decode cX8_tickOnce 6 = .ok (.lstore_n 1, 1) := by decide +kernel
theorem dX8_tickOnce_7 : decode cX8_tickOnce 7 = .ok (.aload_n 0, 1) := by decide +kernel
theorem dX8_tickOnce_8 : decode cX8_tickOnce 8 = .ok (.getfield 7, 3) := by decide +kernel
theorem dX8_tickOnce_11 : decode cX8_tickOnce 11 = .ok (.iconst 1, 1) := by decide +kernel
theorem dX8_tickOnce_12 : decode cX8_tickOnce 12 = .ok (.laload, 1) := by decide +kernel
theorem dX8_tickOnce_13 : decode cX8_tickOnce 13 = .ok (.invokestatic 151, 3) := by decide +kernel
theorem dX8_tickOnce_16 : decode cX8_tickOnce 16 = .ok (.lstore_n 3, 1) := by decide +kernel
theorem dX8_tickOnce_17 : decode cX8_tickOnce 17 = .ok (.aload_n 0, 1) := by decide +kernel
theorem dX8_tickOnce_18 : decode cX8_tickOnce 18 = .ok (.invokevirtual 157, 3) := by decide +kernel
theorem dX8_tickOnce_21 : decode cX8_tickOnce 21 = .ok (.aload_n 0, 1) := by decide +kernel
theorem dX8_tickOnce_22 : decode cX8_tickOnce 22 = .ok (.getfield 7, 3) := by decide +kernel
theorem dX8_tickOnce_25 : decode cX8_tickOnce 25 = .ok (.iconst 2, 1) := by decide +kernel
theorem dX8_tickOnce_26 : decode cX8_tickOnce 26 = .ok (.laload, 1) := by decide +kernel
theorem dX8_tickOnce_27 : decode cX8_tickOnce 27 = .ok (.lsub, 1) := by decide +kernel
theorem dX8_tickOnce_28 : decode cX8_tickOnce 28 = .ok (.lstore 5, 2) := by decide +kernel
theorem dX8_tickOnce_30 : decode cX8_tickOnce 30 = .ok (.lload 5, 2) := by decide +kernel
theorem dX8_tickOnce_32 : decode cX8_tickOnce 32 = .ok (.aload_n 0, 1) := by decide +kernel
theorem dX8_tickOnce_33 : decode cX8_tickOnce 33 = .ok (.iconst 4, 1) := by decide +kernel
theorem dX8_tickOnce_34 : decode cX8_tickOnce 34 = .ok (.invokevirtual 69, 3) := by decide +kernel
theorem dX8_tickOnce_37 : decode cX8_tickOnce 37 = .ok (.lcmp, 1) := by decide +kernel
theorem dX8_tickOnce_38 : decode cX8_tickOnce 38 = .ok (.ifCond .le 11, 3) := by decide +kernel
theorem dX8_tickOnce_41 : decode cX8_tickOnce 41 = .ok (.aload_n 0, 1) := by decide +kernel
theorem dX8_tickOnce_42 : decode cX8_tickOnce 42 = .ok (.iconst 4, 1) := by decide +kernel
theorem dX8_tickOnce_43 : decode cX8_tickOnce 43 = .ok (.invokevirtual 69, 3) := by decide +kernel
theorem dX8_tickOnce_46 : decode cX8_tickOnce 46 = .ok (.goto 26, 3) := by decide +kernel
theorem dX8_tickOnce_49 : decode cX8_tickOnce 49 = .ok (.lload 5, 2) := by decide +kernel
theorem dX8_tickOnce_51 : decode cX8_tickOnce 51 = .ok (.aload_n 0, 1) := by decide +kernel
theorem dX8_tickOnce_52 : decode cX8_tickOnce 52 = .ok (.iconst 4, 1) := by decide +kernel
theorem dX8_tickOnce_53 : decode cX8_tickOnce 53 = .ok (.invokevirtual 69, 3) := by decide +kernel
theorem dX8_tickOnce_56 : decode cX8_tickOnce 56 = .ok (.lneg, 1) := by decide +kernel
theorem dX8_tickOnce_57 : decode cX8_tickOnce 57 = .ok (.lcmp, 1) := by decide +kernel
theorem dX8_tickOnce_58 : decode cX8_tickOnce 58 = .ok (.ifCond .ge 12, 3) := by decide +kernel
theorem dX8_tickOnce_61 : decode cX8_tickOnce 61 = .ok (.aload_n 0, 1) := by decide +kernel
theorem dX8_tickOnce_62 : decode cX8_tickOnce 62 = .ok (.iconst 4, 1) := by decide +kernel
theorem dX8_tickOnce_63 : decode cX8_tickOnce 63 = .ok (.invokevirtual 69, 3) := by decide +kernel
theorem dX8_tickOnce_66 : decode cX8_tickOnce 66 = .ok (.lneg, 1) := by decide +kernel
theorem dX8_tickOnce_67 : decode cX8_tickOnce 67 = .ok (.goto 5, 3) := by decide +kernel
theorem dX8_tickOnce_70 : decode cX8_tickOnce 70 = .ok (.lload 5, 2) := by decide +kernel
theorem dX8_tickOnce_72 : decode cX8_tickOnce 72 = .ok (.lstore 5, 2) := by decide +kernel
theorem dX8_tickOnce_74 : decode cX8_tickOnce 74 = .ok (.aload_n 0, 1) := by decide +kernel
theorem dX8_tickOnce_75 : decode cX8_tickOnce 75 = .ok (.invokevirtual 160, 3) := by decide +kernel
theorem dX8_tickOnce_78 : decode cX8_tickOnce 78 = .ok (.lstore 7, 2) := by decide +kernel
theorem dX8_tickOnce_80 : decode cX8_tickOnce 80 = .ok (.aload_n 0, 1) := by decide +kernel
theorem dX8_tickOnce_81 : decode cX8_tickOnce 81 = .ok (.getfield 7, 3) := by decide +kernel
theorem dX8_tickOnce_84 : decode cX8_tickOnce 84 = .ok (.iconst 2, 1) := by decide +kernel
theorem dX8_tickOnce_85 : decode cX8_tickOnce 85 = .ok (.dup2, 1) := by decide +kernel
theorem dX8_tickOnce_86 : decode cX8_tickOnce 86 = .ok (.laload, 1) := by decide +kernel
theorem dX8_tickOnce_87 : decode cX8_tickOnce 87 = .ok (.lload 5, 2) := by decide +kernel
theorem dX8_tickOnce_89 : decode cX8_tickOnce 89 = .ok (.ladd, 1) := by decide +kernel
theorem dX8_tickOnce_90 : decode cX8_tickOnce 90 = .ok (.lastore, 1) := by decide +kernel
theorem dX8_tickOnce_91 : decode cX8_tickOnce 91 = .ok (.aload_n 0, 1) := by decide +kernel
theorem dX8_tickOnce_92 : decode cX8_tickOnce 92 = .ok (.invokevirtual 160, 3) := by decide +kernel
theorem dX8_tickOnce_95 : decode cX8_tickOnce 95 = .ok (.lstore 9, 2) := by decide +kernel
theorem dX8_tickOnce_97 : decode cX8_tickOnce 97 = .ok (.aload_n 0, 1) := by decide +kernel
theorem dX8_tickOnce_98 : decode cX8_tickOnce 98 = .ok (.getfield 7, 3) := by decide +kernel
theorem dX8_tickOnce_101 : decode cX8_tickOnce 101 = .ok (.iconst 1, 1) := by decide +kernel
theorem dX8_tickOnce_102 : decode cX8_tickOnce 102 = .ok (.aload_n 0, 1) := by decide +kernel
theorem dX8_tickOnce_103 : decode cX8_tickOnce 103 = .ok (.getfield 7, 3) := by decide +kernel
theorem dX8_tickOnce_106 : decode cX8_tickOnce 106 = .ok (.iconst 1, 1) := by decide +kernel
theorem dX8_tickOnce_107 : decode cX8_tickOnce 107 = .ok (.laload, 1) := by decide +kernel
theorem dX8_tickOnce_108 : decode cX8_tickOnce 108 = .ok (.lload 7, 2) := by decide +kernel
theorem dX8_tickOnce_110 : decode cX8_tickOnce 110 = .ok (.lmul, 1) := by decide +kernel
theorem dX8_tickOnce_111 : decode cX8_tickOnce 111 = .ok (.lload 7, 2) := by decide +kernel
theorem dX8_tickOnce_113 : decode cX8_tickOnce 113 = .ok (.lmul, 1) := by decide +kernel
theorem dX8_tickOnce_114 : decode cX8_tickOnce 114 = .ok (.lload 9, 2) := by decide +kernel
theorem dX8_tickOnce_116 : decode cX8_tickOnce 116 = .ok (.lload 9, 2) := by decide +kernel
theorem dX8_tickOnce_118 : decode cX8_tickOnce 118 = .ok (.lmul, 1) := by decide +kernel
theorem dX8_tickOnce_119 : decode cX8_tickOnce 119 = .ok (.ldiv, 1) := by decide +kernel
theorem dX8_tickOnce_120 : decode cX8_tickOnce 120 = .ok (.aload_n 0, 1) := by decide +kernel
theorem dX8_tickOnce_121 : decode cX8_tickOnce 121 = .ok (.iconst 5, 1) := by decide +kernel
theorem dX8_tickOnce_122 : decode cX8_tickOnce 122 = .ok (.invokevirtual 69, 3) := by decide +kernel
theorem dX8_tickOnce_125 : decode cX8_tickOnce 125 = .ok (.ldc2_w 163, 3) := by decide +kernel
theorem dX8_tickOnce_128 : decode cX8_tickOnce 128 = .ok (.lmul, 1) := by decide +kernel
theorem dX8_tickOnce_129 : decode cX8_tickOnce 129 = .ok (.lload 5, 2) := by decide +kernel
theorem dX8_tickOnce_131 : decode cX8_tickOnce 131 = .ok (.lmul, 1) := by decide +kernel
theorem dX8_tickOnce_132 : decode cX8_tickOnce 132 = .ok (.ladd, 1) := by decide +kernel
theorem dX8_tickOnce_133 : decode cX8_tickOnce 133 = .ok (.lastore, 1) := by decide +kernel
theorem dX8_tickOnce_134 : decode cX8_tickOnce 134 = .ok (.aload_n 0, 1) := by decide +kernel
theorem dX8_tickOnce_135 : decode cX8_tickOnce 135 = .ok (.getfield 7, 3) := by decide +kernel
theorem dX8_tickOnce_138 : decode cX8_tickOnce 138 = .ok (.bipush 7, 2) := by decide +kernel
theorem dX8_tickOnce_140 : decode cX8_tickOnce 140 = .ok (.dup2, 1) := by decide +kernel
theorem dX8_tickOnce_141 : decode cX8_tickOnce 141 = .ok (.laload, 1) := by decide +kernel
theorem dX8_tickOnce_142 : decode cX8_tickOnce 142 = .ok (.lload 5, 2) := by decide +kernel
theorem dX8_tickOnce_144 : decode cX8_tickOnce 144 = .ok (.invokestatic 151, 3) := by decide +kernel
theorem dX8_tickOnce_147 : decode cX8_tickOnce 147 = .ok (.ldc2_w 105, 3) := by decide +kernel
theorem dX8_tickOnce_150 : decode cX8_tickOnce 150 = .ok (.lload_n 3, 1) := by decide +kernel
theorem dX8_tickOnce_151 : decode cX8_tickOnce 151 = .ok (.ldc2_w 165, 3) := by decide +kernel
theorem dX8_tickOnce_154 : decode cX8_tickOnce 154 = .ok (.ldiv, 1) := by decide +kernel
theorem dX8_tickOnce_155 : decode cX8_tickOnce 155 = .ok (.ladd, 1) := by decide +kernel
theorem dX8_tickOnce_156 : decode cX8_tickOnce 156 = .ok (.lmul, 1) := by decide +kernel
theorem dX8_tickOnce_157 : decode cX8_tickOnce 157 = .ok (.ladd, 1) := by decide +kernel
theorem dX8_tickOnce_158 : decode cX8_tickOnce 158 = .ok (.lastore, 1) := by decide +kernel
theorem dX8_tickOnce_159 : decode cX8_tickOnce 159 = .ok (.aload_n 0, 1) := by decide +kernel
theorem dX8_tickOnce_160 : decode cX8_tickOnce 160 = .ok (.getfield 7, 3) := by decide +kernel
theorem dX8_tickOnce_163 : decode cX8_tickOnce 163 = .ok (.bipush 7, 2) := by decide +kernel
theorem dX8_tickOnce_165 : decode cX8_tickOnce 165 = .ok (.aload_n 0, 1) := by decide +kernel
theorem dX8_tickOnce_166 : decode cX8_tickOnce 166 = .ok (.getfield 7, 3) := by decide +kernel
theorem dX8_tickOnce_169 : decode cX8_tickOnce 169 = .ok (.bipush 7, 2) := by decide +kernel
theorem dX8_tickOnce_171 : decode cX8_tickOnce 171 = .ok (.laload, 1) := by decide +kernel
theorem dX8_tickOnce_172 : decode cX8_tickOnce 172 = .ok (.ldc2_w 167, 3) := by decide +kernel
theorem dX8_tickOnce_175 : decode cX8_tickOnce 175 = .ok (.lcmp, 1) := by decide +kernel
theorem dX8_tickOnce_176 : decode cX8_tickOnce 176 = .ok (.ifCond .le 9, 3) := by decide +kernel
theorem dX8_tickOnce_179 : decode cX8_tickOnce 179 = .ok (.ldc2_w 167, 3) := by decide +kernel
theorem dX8_tickOnce_182 : decode cX8_tickOnce 182 = .ok (.goto 10, 3) := by decide +kernel
theorem dX8_tickOnce_185 : decode cX8_tickOnce 185 = .ok (.aload_n 0, 1) := by decide +kernel
theorem dX8_tickOnce_186 : decode cX8_tickOnce 186 = .ok (.getfield 7, 3) := by decide +kernel
theorem dX8_tickOnce_189 : decode cX8_tickOnce 189 = .ok (.bipush 7, 2) := by decide +kernel
theorem dX8_tickOnce_191 : decode cX8_tickOnce 191 = .ok (.laload, 1) := by decide +kernel
theorem dX8_tickOnce_192 : decode cX8_tickOnce 192 = .ok (.lastore, 1) := by decide +kernel
theorem dX8_tickOnce_193 : decode cX8_tickOnce 193 = .ok (.iconst 0, 1) := by decide +kernel
theorem dX8_tickOnce_194 : decode cX8_tickOnce 194 = .ok (.istore 11, 2) := by decide +kernel
theorem dX8_tickOnce_196 : decode cX8_tickOnce 196 = .ok (.iload 11, 2) := by decide +kernel
theorem dX8_tickOnce_198 : decode cX8_tickOnce 198 = .ok (.aload_n 0, 1) := by decide +kernel
theorem dX8_tickOnce_199 : decode cX8_tickOnce 199 = .ok (.invokevirtual 142, 3) := by decide +kernel
theorem dX8_tickOnce_202 : decode cX8_tickOnce 202 = .ok (.if_icmp .ge 56, 3) := by decide +kernel
theorem dX8_tickOnce_205 : decode cX8_tickOnce 205 = .ok (.aload_n 0, 1) := by decide +kernel
theorem dX8_tickOnce_206 : decode cX8_tickOnce 206 = .ok (.getfield 7, 3) := by decide +kernel
theorem dX8_tickOnce_209 : decode cX8_tickOnce 209 = .ok (.iconst 1, 1) := by decide +kernel
theorem dX8_tickOnce_210 : decode cX8_tickOnce 210 = .ok (.dup2, 1) := by decide +kernel
theorem dX8_tickOnce_211 : decode cX8_tickOnce 211 = .ok (.laload, 1) := by decide +kernel
theorem dX8_tickOnce_212 : decode cX8_tickOnce 212 = .ok (.aload_n 0, 1) := by decide +kernel
theorem dX8_tickOnce_213 : decode cX8_tickOnce 213 = .ok (.getfield 7, 3) := by decide +kernel
theorem dX8_tickOnce_216 : decode cX8_tickOnce 216 = .ok (.bipush 123, 2) := by decide +kernel
theorem dX8_tickOnce_218 : decode cX8_tickOnce 218 = .ok (.iconst 2, 1) := by decide +kernel
theorem dX8_tickOnce_219 : decode cX8_tickOnce 219 = .ok (.iload 11, 2) := by decide +kernel
theorem dX8_tickOnce_221 : decode cX8_tickOnce 221 = .ok (.imul, 1) := by decide +kernel
theorem dX8_tickOnce_222 : decode cX8_tickOnce 222 = .ok (.iadd, 1) := by decide +kernel
theorem dX8_tickOnce_223 : decode cX8_tickOnce 223 = .ok (.laload, 1) := by decide +kernel
theorem dX8_tickOnce_224 : decode cX8_tickOnce 224 = .ok (.aload_n 0, 1) := by decide +kernel
theorem dX8_tickOnce_225 : decode cX8_tickOnce 225 = .ok (.getfield 7, 3) := by decide +kernel
theorem dX8_tickOnce_228 : decode cX8_tickOnce 228 = .ok (.iconst 5, 1) := by decide +kernel
theorem dX8_tickOnce_229 : decode cX8_tickOnce 229 = .ok (.laload, 1) := by decide +kernel
theorem dX8_tickOnce_230 : decode cX8_tickOnce 230 = .ok (.lcmp, 1) := by decide +kernel
theorem dX8_tickOnce_231 : decode cX8_tickOnce 231 = .ok (.ifCond .ne 18, 3) := by decide +kernel
theorem dX8_tickOnce_234 : decode cX8_tickOnce 234 = .ok (.aload_n 0, 1) := by decide +kernel
theorem dX8_tickOnce_235 : decode cX8_tickOnce 235 = .ok (.getfield 7, 3) := by decide +kernel
theorem dX8_tickOnce_238 : decode cX8_tickOnce 238 = .ok (.bipush 124, 2) := by decide +kernel
theorem dX8_tickOnce_240 : decode cX8_tickOnce 240 = .ok (.iconst 2, 1) := by decide +kernel
theorem dX8_tickOnce_241 : decode cX8_tickOnce 241 = .ok (.iload 11, 2) := by decide +kernel
theorem dX8_tickOnce_243 : decode cX8_tickOnce 243 = .ok (.imul, 1) := by decide +kernel
theorem dX8_tickOnce_244 : decode cX8_tickOnce 244 = .ok (.iadd, 1) := by decide +kernel
theorem dX8_tickOnce_245 : decode cX8_tickOnce 245 = .ok (.laload, 1) := by decide +kernel
theorem dX8_tickOnce_246 : decode cX8_tickOnce 246 = .ok (.goto 4, 3) := by decide +kernel
theorem dX8_tickOnce_249 : decode cX8_tickOnce 249 = .ok (.lconst 0, 1) := by decide +kernel
theorem dX8_tickOnce_250 : decode cX8_tickOnce 250 = .ok (.ladd, 1) := by decide +kernel
theorem dX8_tickOnce_251 : decode cX8_tickOnce 251 = .ok (.lastore, 1) := by decide +kernel
theorem dX8_tickOnce_252 : decode cX8_tickOnce 252 = .ok (.iinc 11 1, 3) := by decide +kernel
theorem dX8_tickOnce_255 : decode cX8_tickOnce 255 = .ok (.goto (-59), 3) := by decide +kernel
theorem dX8_tickOnce_258 : decode cX8_tickOnce 258 = .ok (.aload_n 0, 1) := by decide +kernel
theorem dX8_tickOnce_259 : decode cX8_tickOnce 259 = .ok (.getfield 7, 3) := by decide +kernel
theorem dX8_tickOnce_262 : decode cX8_tickOnce 262 = .ok (.iconst 1, 1) := by decide +kernel
theorem dX8_tickOnce_263 : decode cX8_tickOnce 263 = .ok (.dup2, 1) := by decide +kernel
theorem dX8_tickOnce_264 : decode cX8_tickOnce 264 = .ok (.laload, 1) := by decide +kernel
theorem dX8_tickOnce_265 : decode cX8_tickOnce 265 = .ok (.aload_n 0, 1) := by decide +kernel
theorem dX8_tickOnce_266 : decode cX8_tickOnce 266 = .ok (.getfield 7, 3) := by decide +kernel
theorem dX8_tickOnce_269 : decode cX8_tickOnce 269 = .ok (.iconst 5, 1) := by decide +kernel
theorem dX8_tickOnce_270 : decode cX8_tickOnce 270 = .ok (.laload, 1) := by decide +kernel
theorem dX8_tickOnce_271 : decode cX8_tickOnce 271 = .ok (.aload_n 0, 1) := by decide +kernel
theorem dX8_tickOnce_272 : decode cX8_tickOnce 272 = .ok (.getfield 32, 3) := by decide +kernel
theorem dX8_tickOnce_275 : decode cX8_tickOnce 275 = .ok (.lcmp, 1) := by decide +kernel
theorem dX8_tickOnce_276 : decode cX8_tickOnce 276 = .ok (.ifCond .ne 10, 3) := by decide +kernel
theorem dX8_tickOnce_279 : decode cX8_tickOnce 279 = .ok (.aload_n 0, 1) := by decide +kernel
theorem dX8_tickOnce_280 : decode cX8_tickOnce 280 = .ok (.getfield 169, 3) := by decide +kernel
theorem dX8_tickOnce_283 : decode cX8_tickOnce 283 = .ok (.goto 4, 3) := by decide +kernel
theorem dX8_tickOnce_286 : decode cX8_tickOnce 286 = .ok (.lconst 0, 1) := by decide +kernel
theorem dX8_tickOnce_287 : decode cX8_tickOnce 287 = .ok (.ladd, 1) := by decide +kernel
theorem dX8_tickOnce_288 : decode cX8_tickOnce 288 = .ok (.lastore, 1) := by decide +kernel
theorem dX8_tickOnce_289 : decode cX8_tickOnce 289 = .ok (.aload_n 0, 1) := by decide +kernel
theorem dX8_tickOnce_290 : decode cX8_tickOnce 290 = .ok (.bipush 6, 2) := by decide +kernel
theorem dX8_tickOnce_292 : decode cX8_tickOnce 292 = .ok (.invokevirtual 69, 3) := by decide +kernel
theorem dX8_tickOnce_295 : decode cX8_tickOnce 295 = .ok (.aload_n 0, 1) := by decide +kernel
theorem dX8_tickOnce_296 : decode cX8_tickOnce 296 = .ok (.getfield 7, 3) := by decide +kernel
theorem dX8_tickOnce_299 : decode cX8_tickOnce 299 = .ok (.bipush 10, 2) := by decide +kernel
theorem dX8_tickOnce_301 : decode cX8_tickOnce 301 = .ok (.laload, 1) := by decide +kernel
theorem dX8_tickOnce_302 : decode cX8_tickOnce 302 = .ok (.aload_n 0, 1) := by decide +kernel
theorem dX8_tickOnce_303 : decode cX8_tickOnce 303 = .ok (.getfield 7, 3) := by decide +kernel
theorem dX8_tickOnce_306 : decode cX8_tickOnce 306 = .ok (.iconst 0, 1) := by decide +kernel
theorem dX8_tickOnce_307 : decode cX8_tickOnce 307 = .ok (.laload, 1) := by decide +kernel
theorem dX8_tickOnce_308 : decode cX8_tickOnce 308 = .ok (.lsub, 1) := by decide +kernel
theorem dX8_tickOnce_309 : decode cX8_tickOnce 309 = .ok (.lmul, 1) := by decide +kernel
theorem dX8_tickOnce_310 : decode cX8_tickOnce 310 = .ok (.ldc2_w 172, 3) := by decide +kernel
theorem dX8_tickOnce_313 : decode cX8_tickOnce 313 = .ok (.ldiv, 1) := by decide +kernel
theorem dX8_tickOnce_314 : decode cX8_tickOnce 314 = .ok (.lstore 11, 2) := by decide +kernel
theorem dX8_tickOnce_316 : decode cX8_tickOnce 316 = .ok (.aload_n 0, 1) := by decide +kernel
theorem dX8_tickOnce_317 : decode cX8_tickOnce 317 = .ok (.getfield 7, 3) := by decide +kernel
theorem dX8_tickOnce_320 : decode cX8_tickOnce 320 = .ok (.iconst 1, 1) := by decide +kernel
theorem dX8_tickOnce_321 : decode cX8_tickOnce 321 = .ok (.dup2, 1) := by decide +kernel
theorem dX8_tickOnce_322 : decode cX8_tickOnce 322 = .ok (.laload, 1) := by decide +kernel
theorem dX8_tickOnce_323 : decode cX8_tickOnce 323 = .ok (.lload 11, 2) := by decide +kernel
theorem dX8_tickOnce_325 : decode cX8_tickOnce 325 = .ok (.aload_n 0, 1) := by decide +kernel
theorem dX8_tickOnce_326 : decode cX8_tickOnce 326 = .ok (.iconst 1, 1) := by decide +kernel
theorem dX8_tickOnce_327 : decode cX8_tickOnce 327 = .ok (.invokevirtual 69, 3) := by decide +kernel
theorem dX8_tickOnce_330 : decode cX8_tickOnce 330 = .ok (.aload_n 0, 1) := by decide +kernel
theorem dX8_tickOnce_331 : decode cX8_tickOnce 331 = .ok (.getfield 7, 3) := by decide +kernel
theorem dX8_tickOnce_334 : decode cX8_tickOnce 334 = .ok (.iconst 0, 1) := by decide +kernel
theorem dX8_tickOnce_335 : decode cX8_tickOnce 335 = .ok (.laload, 1) := by decide +kernel
theorem dX8_tickOnce_336 : decode cX8_tickOnce 336 = .ok (.lmul, 1) := by decide +kernel
theorem dX8_tickOnce_337 : decode cX8_tickOnce 337 = .ok (.lload 9, 2) := by decide +kernel
theorem dX8_tickOnce_339 : decode cX8_tickOnce 339 = .ok (.ldiv, 1) := by decide +kernel
theorem dX8_tickOnce_340 : decode cX8_tickOnce 340 = .ok (.lsub, 1) := by decide +kernel
theorem dX8_tickOnce_341 : decode cX8_tickOnce 341 = .ok (.ladd, 1) := by decide +kernel
theorem dX8_tickOnce_342 : decode cX8_tickOnce 342 = .ok (.lastore, 1) := by decide +kernel
theorem dX8_tickOnce_343 : decode cX8_tickOnce 343 = .ok (.aload_n 0, 1) := by decide +kernel
theorem dX8_tickOnce_344 : decode cX8_tickOnce 344 = .ok (.getfield 7, 3) := by decide +kernel
theorem dX8_tickOnce_347 : decode cX8_tickOnce 347 = .ok (.bipush 11, 2) := by decide +kernel
theorem dX8_tickOnce_349 : decode cX8_tickOnce 349 = .ok (.dup2, 1) := by decide +kernel
theorem dX8_tickOnce_350 : decode cX8_tickOnce 350 = .ok (.laload, 1) := by decide +kernel
theorem dX8_tickOnce_351 : decode cX8_tickOnce 351 = .ok (.aload_n 0, 1) := by decide +kernel
theorem dX8_tickOnce_352 : decode cX8_tickOnce 352 = .ok (.iconst 1, 1) := by decide +kernel
theorem dX8_tickOnce_353 : decode cX8_tickOnce 353 = .ok (.invokevirtual 69, 3) := by decide +kernel
theorem dX8_tickOnce_356 : decode cX8_tickOnce 356 = .ok (.aload_n 0, 1) := by decide +kernel
theorem dX8_tickOnce_357 : decode cX8_tickOnce 357 = .ok (.getfield 7, 3) := by decide +kernel
theorem dX8_tickOnce_360 : decode cX8_tickOnce 360 = .ok (.bipush 10, 2) := by decide +kernel
theorem dX8_tickOnce_362 : decode cX8_tickOnce 362 = .ok (.laload, 1) := by decide +kernel
theorem dX8_tickOnce_363 : decode cX8_tickOnce 363 = .ok (.lmul, 1) := by decide +kernel
theorem dX8_tickOnce_364 : decode cX8_tickOnce 364 = .ok (.aload_n 0, 1) := by decide +kernel
theorem dX8_tickOnce_365 : decode cX8_tickOnce 365 = .ok (.bipush 7, 2) := by decide +kernel
theorem dX8_tickOnce_367 : decode cX8_tickOnce 367 = .ok (.invokevirtual 69, 3) := by decide +kernel
theorem dX8_tickOnce_370 : decode cX8_tickOnce 370 = .ok (.ldiv, 1) := by decide +kernel
theorem dX8_tickOnce_371 : decode cX8_tickOnce 371 = .ok (.lload 11, 2) := by decide +kernel
theorem dX8_tickOnce_373 : decode cX8_tickOnce 373 = .ok (.ladd, 1) := by decide +kernel
theorem dX8_tickOnce_374 : decode cX8_tickOnce 374 = .ok (.lsub, 1) := by decide +kernel
theorem dX8_tickOnce_375 : decode cX8_tickOnce 375 = .ok (.lastore, 1) := by decide +kernel
theorem dX8_tickOnce_376 : decode cX8_tickOnce 376 = .ok (.aload_n 0, 1) := by decide +kernel
theorem dX8_tickOnce_377 : decode cX8_tickOnce 377 = .ok (.getfield 7, 3) := by decide +kernel
theorem dX8_tickOnce_380 : decode cX8_tickOnce 380 = .ok (.iconst 1, 1) := by decide +kernel
theorem dX8_tickOnce_381 : decode cX8_tickOnce 381 = .ok (.dup2, 1) := by decide +kernel
theorem dX8_tickOnce_382 : decode cX8_tickOnce 382 = .ok (.laload, 1) := by decide +kernel
theorem dX8_tickOnce_383 : decode cX8_tickOnce 383 = .ok (.aload_n 0, 1) := by decide +kernel
theorem dX8_tickOnce_384 : decode cX8_tickOnce 384 = .ok (.getfield 7, 3) := by decide +kernel
theorem dX8_tickOnce_387 : decode cX8_tickOnce 387 = .ok (.iconst 1, 1) := by decide +kernel
theorem dX8_tickOnce_388 : decode cX8_tickOnce 388 = .ok (.laload, 1) := by decide +kernel
theorem dX8_tickOnce_389 : decode cX8_tickOnce 389 = .ok (.aload_n 0, 1) := by decide +kernel
theorem dX8_tickOnce_390 : decode cX8_tickOnce 390 = .ok (.iconst 2, 1) := by decide +kernel
theorem dX8_tickOnce_391 : decode cX8_tickOnce 391 = .ok (.invokevirtual 69, 3) := by decide +kernel
theorem dX8_tickOnce_394 : decode cX8_tickOnce 394 = .ok (.lmul, 1) := by decide +kernel
theorem dX8_tickOnce_395 : decode cX8_tickOnce 395 = .ok (.ldc2_w 172, 3) := by decide +kernel
theorem dX8_tickOnce_398 : decode cX8_tickOnce 398 = .ok (.ldiv, 1) := by decide +kernel
theorem dX8_tickOnce_399 : decode cX8_tickOnce 399 = .ok (.lsub, 1) := by decide +kernel
theorem dX8_tickOnce_400 : decode cX8_tickOnce 400 = .ok (.lastore, 1) := by decide +kernel
theorem dX8_tickOnce_401 : decode cX8_tickOnce 401 = .ok (.aload_n 0, 1) := by decide +kernel
theorem dX8_tickOnce_402 : decode cX8_tickOnce 402 = .ok (.getfield 7, 3) := by decide +kernel
theorem dX8_tickOnce_405 : decode cX8_tickOnce 405 = .ok (.bipush 11, 2) := by decide +kernel
theorem dX8_tickOnce_407 : decode cX8_tickOnce 407 = .ok (.dup2, 1) := by decide +kernel
theorem dX8_tickOnce_408 : decode cX8_tickOnce 408 = .ok (.laload, 1) := by decide +kernel
theorem dX8_tickOnce_409 : decode cX8_tickOnce 409 = .ok (.aload_n 0, 1) := by decide +kernel
theorem dX8_tickOnce_410 : decode cX8_tickOnce 410 = .ok (.getfield 7, 3) := by decide +kernel
theorem dX8_tickOnce_413 : decode cX8_tickOnce 413 = .ok (.bipush 11, 2) := by decide +kernel
theorem dX8_tickOnce_415 : decode cX8_tickOnce 415 = .ok (.laload, 1) := by decide +kernel
theorem dX8_tickOnce_416 : decode cX8_tickOnce 416 = .ok (.aload_n 0, 1) := by decide +kernel
theorem dX8_tickOnce_417 : decode cX8_tickOnce 417 = .ok (.iconst 2, 1) := by decide +kernel
theorem dX8_tickOnce_418 : decode cX8_tickOnce 418 = .ok (.invokevirtual 69, 3) := by decide +kernel
theorem dX8_tickOnce_421 : decode cX8_tickOnce 421 = .ok (.lmul, 1) := by decide +kernel
theorem dX8_tickOnce_422 : decode cX8_tickOnce 422 = .ok (.ldc2_w 172, 3) := by decide +kernel
theorem dX8_tickOnce_425 : decode cX8_tickOnce 425 = .ok (.ldiv, 1) := by decide +kernel
theorem dX8_tickOnce_426 : decode cX8_tickOnce 426 = .ok (.lsub, 1) := by decide +kernel
theorem dX8_tickOnce_427 : decode cX8_tickOnce 427 = .ok (.lastore, 1) := by decide +kernel
theorem dX8_tickOnce_428 : decode cX8_tickOnce 428 = .ok (.aload_n 0, 1) := by decide +kernel
theorem dX8_tickOnce_429 : decode cX8_tickOnce 429 = .ok (.getfield 7, 3) := by decide +kernel
theorem dX8_tickOnce_432 : decode cX8_tickOnce 432 = .ok (.iconst 0, 1) := by decide +kernel
theorem dX8_tickOnce_433 : decode cX8_tickOnce 433 = .ok (.dup2, 1) := by decide +kernel
theorem dX8_tickOnce_434 : decode cX8_tickOnce 434 = .ok (.laload, 1) := by decide +kernel
theorem dX8_tickOnce_435 : decode cX8_tickOnce 435 = .ok (.aload_n 0, 1) := by decide +kernel
theorem dX8_tickOnce_436 : decode cX8_tickOnce 436 = .ok (.getfield 7, 3) := by decide +kernel
theorem dX8_tickOnce_439 : decode cX8_tickOnce 439 = .ok (.iconst 1, 1) := by decide +kernel
theorem dX8_tickOnce_440 : decode cX8_tickOnce 440 = .ok (.laload, 1) := by decide +kernel
theorem dX8_tickOnce_441 : decode cX8_tickOnce 441 = .ok (.ladd, 1) := by decide +kernel
theorem dX8_tickOnce_442 : decode cX8_tickOnce 442 = .ok (.lastore, 1) := by decide +kernel
theorem dX8_tickOnce_443 : decode cX8_tickOnce 443 = .ok (.aload_n 0, 1) := by decide +kernel
theorem dX8_tickOnce_444 : decode cX8_tickOnce 444 = .ok (.getfield 7, 3) := by decide +kernel
theorem dX8_tickOnce_447 : decode cX8_tickOnce 447 = .ok (.bipush 10, 2) := by decide +kernel
theorem dX8_tickOnce_449 : decode cX8_tickOnce 449 = .ok (.dup2, 1) := by decide +kernel
theorem dX8_tickOnce_450 : decode cX8_tickOnce 450 = .ok (.laload, 1) := by decide +kernel
theorem dX8_tickOnce_451 : decode cX8_tickOnce 451 = .ok (.aload_n 0, 1) := by decide +kernel
theorem dX8_tickOnce_452 : decode cX8_tickOnce 452 = .ok (.getfield 7, 3) := by decide +kernel
theorem dX8_tickOnce_455 : decode cX8_tickOnce 455 = .ok (.bipush 11, 2) := by decide +kernel
theorem dX8_tickOnce_457 : decode cX8_tickOnce 457 = .ok (.laload, 1) := by decide +kernel
theorem dX8_tickOnce_458 : decode cX8_tickOnce 458 = .ok (.ladd, 1) := by decide +kernel
theorem dX8_tickOnce_459 : decode cX8_tickOnce 459 = .ok (.lastore, 1) := by decide +kernel
theorem dX8_tickOnce_460 : decode cX8_tickOnce 460 = .ok (.aload_n 0, 1) := by decide +kernel
theorem dX8_tickOnce_461 : decode cX8_tickOnce 461 = .ok (.getfield 7, 3) := by decide +kernel
theorem dX8_tickOnce_464 : decode cX8_tickOnce 464 = .ok (.bipush 10, 2) := by decide +kernel
theorem dX8_tickOnce_466 : decode cX8_tickOnce 466 = .ok (.laload, 1) := by decide +kernel
theorem dX8_tickOnce_467 : decode cX8_tickOnce 467 = .ok (.invokestatic 151, 3) := by decide +kernel
theorem dX8_tickOnce_470 : decode cX8_tickOnce 470 = .ok (.ldc2_w 174, 3) := by decide +kernel
theorem dX8_tickOnce_473 : decode cX8_tickOnce 473 = .ok (.lcmp, 1) := by decide +kernel
theorem dX8_tickOnce_474 : decode cX8_tickOnce 474 = .ok (.ifCond .le 39, 3) := by decide +kernel
theorem dX8_tickOnce_477 : decode cX8_tickOnce 477 = .ok (.aload_n 0, 1) := by decide +kernel
theorem dX8_tickOnce_478 : decode cX8_tickOnce 478 = .ok (.getfield 7, 3) := by decide +kernel
theorem dX8_tickOnce_481 : decode cX8_tickOnce 481 = .ok (.bipush 10, 2) := by decide +kernel
theorem dX8_tickOnce_483 : decode cX8_tickOnce 483 = .ok (.aload_n 0, 1) := by decide +kernel
theorem dX8_tickOnce_484 : decode cX8_tickOnce 484 = .ok (.getfield 7, 3) := by decide +kernel
theorem dX8_tickOnce_487 : decode cX8_tickOnce 487 = .ok (.bipush 10, 2) := by decide +kernel
theorem dX8_tickOnce_489 : decode cX8_tickOnce 489 = .ok (.laload, 1) := by decide +kernel
theorem dX8_tickOnce_490 : decode cX8_tickOnce 490 = .ok (.lconst 0, 1) := by decide +kernel
theorem dX8_tickOnce_491 : decode cX8_tickOnce 491 = .ok (.lcmp, 1) := by decide +kernel
theorem dX8_tickOnce_492 : decode cX8_tickOnce 492 = .ok (.ifCond .le 9, 3) := by decide +kernel
theorem dX8_tickOnce_495 : decode cX8_tickOnce 495 = .ok (.ldc2_w 174, 3) := by decide +kernel
theorem dX8_tickOnce_498 : decode cX8_tickOnce 498 = .ok (.goto 6, 3) := by decide +kernel
theorem dX8_tickOnce_501 : decode cX8_tickOnce 501 = .ok (.ldc2_w 176, 3) := by decide +kernel
theorem dX8_tickOnce_504 : decode cX8_tickOnce 504 = .ok (.lastore, 1) := by decide +kernel
theorem dX8_tickOnce_505 : decode cX8_tickOnce 505 = .ok (.aload_n 0, 1) := by decide +kernel
theorem dX8_tickOnce_506 : decode cX8_tickOnce 506 = .ok (.getfield 7, 3) := by decide +kernel
theorem dX8_tickOnce_509 : decode cX8_tickOnce 509 = .ok (.bipush 11, 2) := by decide +kernel
theorem dX8_tickOnce_511 : decode cX8_tickOnce 511 = .ok (.lconst 0, 1) := by decide +kernel
theorem dX8_tickOnce_512 : decode cX8_tickOnce 512 = .ok (.lastore, 1) := by decide +kernel
theorem dX8_tickOnce_513 : decode cX8_tickOnce 513 = .ok (.aload_n 0, 1) := by decide +kernel
theorem dX8_tickOnce_514 : decode cX8_tickOnce 514 = .ok (.getfield 7, 3) := by decide +kernel
theorem dX8_tickOnce_517 : decode cX8_tickOnce 517 = .ok (.iconst 0, 1) := by decide +kernel
theorem dX8_tickOnce_518 : decode cX8_tickOnce 518 = .ok (.laload, 1) := by decide +kernel
theorem dX8_tickOnce_519 : decode cX8_tickOnce 519 = .ok (.invokestatic 151, 3) := by decide +kernel
theorem dX8_tickOnce_522 : decode cX8_tickOnce 522 = .ok (.ldc2_w 174, 3) := by decide +kernel
theorem dX8_tickOnce_525 : decode cX8_tickOnce 525 = .ok (.lsub, 1) := by decide +kernel
theorem dX8_tickOnce_526 : decode cX8_tickOnce 526 = .ok (.lstore 13, 2) := by decide +kernel
theorem dX8_tickOnce_528 : decode cX8_tickOnce 528 = .ok (.lload 13, 2) := by decide +kernel
theorem dX8_tickOnce_530 : decode cX8_tickOnce 530 = .ok (.lconst 0, 1) := by decide +kernel
theorem dX8_tickOnce_531 : decode cX8_tickOnce 531 = .ok (.lcmp, 1) := by decide +kernel
theorem dX8_tickOnce_532 : decode cX8_tickOnce 532 = .ok (.ifCond .le 94, 3) := by decide +kernel
theorem dX8_tickOnce_535 : decode cX8_tickOnce 535 = .ok (.aload_n 0, 1) := by decide +kernel
theorem dX8_tickOnce_536 : decode cX8_tickOnce 536 = .ok (.getfield 7, 3) := by decide +kernel
theorem dX8_tickOnce_539 : decode cX8_tickOnce 539 = .ok (.iconst 0, 1) := by decide +kernel
theorem dX8_tickOnce_540 : decode cX8_tickOnce 540 = .ok (.aload_n 0, 1) := by decide +kernel
theorem dX8_tickOnce_541 : decode cX8_tickOnce 541 = .ok (.getfield 7, 3) := by decide +kernel
theorem dX8_tickOnce_544 : decode cX8_tickOnce 544 = .ok (.iconst 0, 1) := by decide +kernel
theorem dX8_tickOnce_545 : decode cX8_tickOnce 545 = .ok (.laload, 1) := by decide +kernel
theorem dX8_tickOnce_546 : decode cX8_tickOnce 546 = .ok (.lconst 0, 1) := by decide +kernel
theorem dX8_tickOnce_547 : decode cX8_tickOnce 547 = .ok (.lcmp, 1) := by decide +kernel
theorem dX8_tickOnce_548 : decode cX8_tickOnce 548 = .ok (.ifCond .le 9, 3) := by decide +kernel
theorem dX8_tickOnce_551 : decode cX8_tickOnce 551 = .ok (.ldc2_w 174, 3) := by decide +kernel
theorem dX8_tickOnce_554 : decode cX8_tickOnce 554 = .ok (.goto 6, 3) := by decide +kernel
theorem dX8_tickOnce_557 : decode cX8_tickOnce 557 = .ok (.ldc2_w 176, 3) := by decide +kernel
theorem dX8_tickOnce_560 : decode cX8_tickOnce 560 = .ok (.lastore, 1) := by decide +kernel
theorem dX8_tickOnce_561 : decode cX8_tickOnce 561 = .ok (.aload_n 0, 1) := by decide +kernel
theorem dX8_tickOnce_562 : decode cX8_tickOnce 562 = .ok (.getfield 7, 3) := by decide +kernel
theorem dX8_tickOnce_565 : decode cX8_tickOnce 565 = .ok (.iconst 1, 1) := by decide +kernel
theorem dX8_tickOnce_566 : decode cX8_tickOnce 566 = .ok (.lconst 0, 1) := by decide +kernel
theorem dX8_tickOnce_567 : decode cX8_tickOnce 567 = .ok (.lastore, 1) := by decide +kernel
theorem dX8_tickOnce_568 : decode cX8_tickOnce 568 = .ok (.aload_n 0, 1) := by decide +kernel
theorem dX8_tickOnce_569 : decode cX8_tickOnce 569 = .ok (.getfield 7, 3) := by decide +kernel
theorem dX8_tickOnce_572 : decode cX8_tickOnce 572 = .ok (.bipush 12, 2) := by decide +kernel
theorem dX8_tickOnce_574 : decode cX8_tickOnce 574 = .ok (.lconst 0, 1) := by decide +kernel
theorem dX8_tickOnce_575 : decode cX8_tickOnce 575 = .ok (.lastore, 1) := by decide +kernel
theorem dX8_tickOnce_576 : decode cX8_tickOnce 576 = .ok (.aload_n 0, 1) := by decide +kernel
theorem dX8_tickOnce_577 : decode cX8_tickOnce 577 = .ok (.getfield 7, 3) := by decide +kernel
theorem dX8_tickOnce_580 : decode cX8_tickOnce 580 = .ok (.bipush 8, 2) := by decide +kernel
theorem dX8_tickOnce_582 : decode cX8_tickOnce 582 = .ok (.dup2, 1) := by decide +kernel
theorem dX8_tickOnce_583 : decode cX8_tickOnce 583 = .ok (.laload, 1) := by decide +kernel
theorem dX8_tickOnce_584 : decode cX8_tickOnce 584 = .ok (.lconst 1, 1) := by decide +kernel
theorem dX8_tickOnce_585 : decode cX8_tickOnce 585 = .ok (.ladd, 1) := by decide +kernel
theorem dX8_tickOnce_586 : decode cX8_tickOnce 586 = .ok (.lastore, 1) := by decide +kernel
theorem dX8_tickOnce_587 : decode cX8_tickOnce 587 = .ok (.aload_n 0, 1) := by decide +kernel
theorem dX8_tickOnce_588 : decode cX8_tickOnce 588 = .ok (.getfield 7, 3) := by decide +kernel
theorem dX8_tickOnce_591 : decode cX8_tickOnce 591 = .ok (.bipush 9, 2) := by decide +kernel
theorem dX8_tickOnce_593 : decode cX8_tickOnce 593 = .ok (.lload 13, 2) := by decide +kernel
theorem dX8_tickOnce_595 : decode cX8_tickOnce 595 = .ok (.aload_n 0, 1) := by decide +kernel
theorem dX8_tickOnce_596 : decode cX8_tickOnce 596 = .ok (.getfield 7, 3) := by decide +kernel
theorem dX8_tickOnce_599 : decode cX8_tickOnce 599 = .ok (.bipush 9, 2) := by decide +kernel
theorem dX8_tickOnce_601 : decode cX8_tickOnce 601 = .ok (.laload, 1) := by decide +kernel
theorem dX8_tickOnce_602 : decode cX8_tickOnce 602 = .ok (.lcmp, 1) := by decide +kernel
theorem dX8_tickOnce_603 : decode cX8_tickOnce 603 = .ok (.ifCond .le 8, 3) := by decide +kernel
theorem dX8_tickOnce_606 : decode cX8_tickOnce 606 = .ok (.lload 13, 2) := by decide +kernel
theorem dX8_tickOnce_608 : decode cX8_tickOnce 608 = .ok (.goto 10, 3) := by decide +kernel
theorem dX8_tickOnce_611 : decode cX8_tickOnce 611 = .ok (.aload_n 0, 1) := by decide +kernel
theorem dX8_tickOnce_612 : decode cX8_tickOnce 612 = .ok (.getfield 7, 3) := by decide +kernel
theorem dX8_tickOnce_615 : decode cX8_tickOnce 615 = .ok (.bipush 9, 2) := by decide +kernel
theorem dX8_tickOnce_617 : decode cX8_tickOnce 617 = .ok (.laload, 1) := by decide +kernel
theorem dX8_tickOnce_618 : decode cX8_tickOnce 618 = .ok (.lastore, 1) := by decide +kernel
theorem dX8_tickOnce_619 : decode cX8_tickOnce 619 = .ok (.aload_n 0, 1) := by decide +kernel
theorem dX8_tickOnce_620 : decode cX8_tickOnce 620 = .ok (.invokevirtual 178, 3) := by decide +kernel
theorem dX8_tickOnce_623 : decode cX8_tickOnce 623 = .ok (.goto 68, 3) := by decide +kernel
theorem dX8_tickOnce_626 : decode cX8_tickOnce 626 = .ok (.aload_n 0, 1) := by decide +kernel
theorem dX8_tickOnce_627 : decode cX8_tickOnce 627 = .ok (.getfield 7, 3) := by decide +kernel
theorem dX8_tickOnce_630 : decode cX8_tickOnce 630 = .ok (.iconst 1, 1) := by decide +kernel
theorem dX8_tickOnce_631 : decode cX8_tickOnce 631 = .ok (.laload, 1) := by decide +kernel
theorem dX8_tickOnce_632 : decode cX8_tickOnce 632 = .ok (.lconst 0, 1) := by decide +kernel
theorem dX8_tickOnce_633 : decode cX8_tickOnce 633 = .ok (.lcmp, 1) := by decide +kernel
theorem dX8_tickOnce_634 : decode cX8_tickOnce 634 = .ok (.ifCond .eq 57, 3) := by decide +kernel
theorem dX8_tickOnce_637 : decode cX8_tickOnce 637 = .ok (.aload_n 0, 1) := by decide +kernel
theorem dX8_tickOnce_638 : decode cX8_tickOnce 638 = .ok (.getfield 7, 3) := by decide +kernel
theorem dX8_tickOnce_641 : decode cX8_tickOnce 641 = .ok (.bipush 12, 2) := by decide +kernel
theorem dX8_tickOnce_643 : decode cX8_tickOnce 643 = .ok (.laload, 1) := by decide +kernel
theorem dX8_tickOnce_644 : decode cX8_tickOnce 644 = .ok (.lconst 0, 1) := by decide +kernel
theorem dX8_tickOnce_645 : decode cX8_tickOnce 645 = .ok (.lcmp, 1) := by decide +kernel
theorem dX8_tickOnce_646 : decode cX8_tickOnce 646 = .ok (.ifCond .eq 28, 3) := by decide +kernel
theorem dX8_tickOnce_649 : decode cX8_tickOnce 649 = .ok (.aload_n 0, 1) := by decide +kernel
theorem dX8_tickOnce_650 : decode cX8_tickOnce 650 = .ok (.getfield 7, 3) := by decide +kernel
theorem dX8_tickOnce_653 : decode cX8_tickOnce 653 = .ok (.bipush 12, 2) := by decide +kernel
theorem dX8_tickOnce_655 : decode cX8_tickOnce 655 = .ok (.laload, 1) := by decide +kernel
theorem dX8_tickOnce_656 : decode cX8_tickOnce 656 = .ok (.aload_n 0, 1) := by decide +kernel
theorem dX8_tickOnce_657 : decode cX8_tickOnce 657 = .ok (.getfield 7, 3) := by decide +kernel
theorem dX8_tickOnce_660 : decode cX8_tickOnce 660 = .ok (.iconst 1, 1) := by decide +kernel
theorem dX8_tickOnce_661 : decode cX8_tickOnce 661 = .ok (.laload, 1) := by decide +kernel
theorem dX8_tickOnce_662 : decode cX8_tickOnce 662 = .ok (.invokestatic 181, 3) := by decide +kernel
theorem dX8_tickOnce_665 : decode cX8_tickOnce 665 = .ok (.i2l, 1) := by decide +kernel
theorem dX8_tickOnce_666 : decode cX8_tickOnce 666 = .ok (.lcmp, 1) := by decide +kernel
theorem dX8_tickOnce_667 : decode cX8_tickOnce 667 = .ok (.ifCond .eq 7, 3) := by decide +kernel
theorem dX8_tickOnce_670 : decode cX8_tickOnce 670 = .ok (.aload_n 0, 1) := by decide +kernel
theorem dX8_tickOnce_671 : decode cX8_tickOnce 671 = .ok (.invokevirtual 178, 3) := by decide +kernel
theorem dX8_tickOnce_674 : decode cX8_tickOnce 674 = .ok (.aload_n 0, 1) := by decide +kernel
theorem dX8_tickOnce_675 : decode cX8_tickOnce 675 = .ok (.getfield 7, 3) := by decide +kernel
theorem dX8_tickOnce_678 : decode cX8_tickOnce 678 = .ok (.bipush 12, 2) := by decide +kernel
theorem dX8_tickOnce_680 : decode cX8_tickOnce 680 = .ok (.aload_n 0, 1) := by decide +kernel
theorem dX8_tickOnce_681 : decode cX8_tickOnce 681 = .ok (.getfield 7, 3) := by decide +kernel
theorem dX8_tickOnce_684 : decode cX8_tickOnce 684 = .ok (.iconst 1, 1) := by decide +kernel
theorem dX8_tickOnce_685 : decode cX8_tickOnce 685 = .ok (.laload, 1) := by decide +kernel
theorem dX8_tickOnce_686 : decode cX8_tickOnce 686 = .ok (.invokestatic 181, 3) := by decide +kernel
theorem dX8_tickOnce_689 : decode cX8_tickOnce 689 = .ok (.i2l, 1) := by decide +kernel
theorem dX8_tickOnce_690 : decode cX8_tickOnce 690 = .ok (.lastore, 1) := by decide +kernel
theorem dX8_tickOnce_691 : decode cX8_tickOnce 691 = .ok (.aload_n 0, 1) := by decide +kernel
theorem dX8_tickOnce_692 : decode cX8_tickOnce 692 = .ok (.getfield 7, 3) := by decide +kernel
theorem dX8_tickOnce_695 : decode cX8_tickOnce 695 = .ok (.iconst 0, 1) := by decide +kernel
theorem dX8_tickOnce_696 : decode cX8_tickOnce 696 = .ok (.laload, 1) := by decide +kernel
theorem dX8_tickOnce_697 : decode cX8_tickOnce 697 = .ok (.lconst 0, 1) := by decide +kernel
theorem dX8_tickOnce_698 : decode cX8_tickOnce 698 = .ok (.lcmp, 1) := by decide +kernel
theorem dX8_tickOnce_699 : decode cX8_tickOnce 699 = .ok (.ifCond .eq 25, 3) := by decide +kernel
theorem dX8_tickOnce_702 : decode cX8_tickOnce 702 = .ok (.lload_n 1, 1) := by decide +kernel
theorem dX8_tickOnce_703 : decode cX8_tickOnce 703 = .ok (.lconst 0, 1) := by decide +kernel
theorem dX8_tickOnce_704 : decode cX8_tickOnce 704 = .ok (.lcmp, 1) := by decide +kernel
theorem dX8_tickOnce_705 : decode cX8_tickOnce 705 = .ok (.ifCond .eq 23, 3) := by decide +kernel
theorem dX8_tickOnce_708 : decode cX8_tickOnce 708 = .ok (.lload_n 1, 1) := by decide +kernel
theorem dX8_tickOnce_709 : decode cX8_tickOnce 709 = .ok (.invokestatic 181, 3) := by decide +kernel
theorem dX8_tickOnce_712 : decode cX8_tickOnce 712 = .ok (.aload_n 0, 1) := by decide +kernel
theorem dX8_tickOnce_713 : decode cX8_tickOnce 713 = .ok (.getfield 7, 3) := by decide +kernel
theorem dX8_tickOnce_716 : decode cX8_tickOnce 716 = .ok (.iconst 0, 1) := by decide +kernel
theorem dX8_tickOnce_717 : decode cX8_tickOnce 717 = .ok (.laload, 1) := by decide +kernel
theorem dX8_tickOnce_718 : decode cX8_tickOnce 718 = .ok (.invokestatic 181, 3) := by decide +kernel
theorem dX8_tickOnce_721 : decode cX8_tickOnce 721 = .ok (.if_icmp .eq 7, 3) := by decide +kernel
theorem dX8_tickOnce_724 : decode cX8_tickOnce 724 = .ok (.iconst 1, 1) := by decide +kernel
theorem dX8_tickOnce_725 : decode cX8_tickOnce 725 = .ok (.goto 4, 3) := by decide +kernel
theorem dX8_tickOnce_728 : decode cX8_tickOnce 728 = .ok (.iconst 0, 1) := by decide +kernel
theorem dX8_tickOnce_729 : decode cX8_tickOnce 729 = .ok (.istore 15, 2) := by decide +kernel
theorem dX8_tickOnce_731 : decode cX8_tickOnce 731 = .ok (.aload_n 0, 1) := by decide +kernel
theorem dX8_tickOnce_732 : decode cX8_tickOnce 732 = .ok (.getfield 7, 3) := by decide +kernel
theorem dX8_tickOnce_735 : decode cX8_tickOnce 735 = .ok (.iconst 3, 1) := by decide +kernel
theorem dX8_tickOnce_736 : decode cX8_tickOnce 736 = .ok (.iload 15, 2) := by decide +kernel
theorem dX8_tickOnce_738 : decode cX8_tickOnce 738 = .ok (.ifCond .eq 7, 3) := by decide +kernel
theorem dX8_tickOnce_741 : decode cX8_tickOnce 741 = .ok (.lconst 0, 1) := by decide +kernel
theorem dX8_tickOnce_742 : decode cX8_tickOnce 742 = .ok (.goto 11, 3) := by decide +kernel
theorem dX8_tickOnce_745 : decode cX8_tickOnce 745 = .ok (.aload_n 0, 1) := by decide +kernel
theorem dX8_tickOnce_746 : decode cX8_tickOnce 746 = .ok (.getfield 7, 3) := by decide +kernel
theorem dX8_tickOnce_749 : decode cX8_tickOnce 749 = .ok (.iconst 3, 1) := by decide +kernel
theorem dX8_tickOnce_750 : decode cX8_tickOnce 750 = .ok (.laload, 1) := by decide +kernel
theorem dX8_tickOnce_751 : decode cX8_tickOnce 751 = .ok (.lconst 1, 1) := by decide +kernel
theorem dX8_tickOnce_752 : decode cX8_tickOnce 752 = .ok (.ladd, 1) := by decide +kernel
theorem dX8_tickOnce_753 : decode cX8_tickOnce 753 = .ok (.lastore, 1) := by decide +kernel
theorem dX8_tickOnce_754 : decode cX8_tickOnce 754 = .ok (.aload_n 0, 1) := by decide +kernel
theorem dX8_tickOnce_755 : decode cX8_tickOnce 755 = .ok (.getfield 7, 3) := by decide +kernel
theorem dX8_tickOnce_758 : decode cX8_tickOnce 758 = .ok (.iconst 5, 1) := by decide +kernel
theorem dX8_tickOnce_759 : decode cX8_tickOnce 759 = .ok (.dup2, 1) := by decide +kernel
theorem dX8_tickOnce_760 : decode cX8_tickOnce 760 = .ok (.laload, 1) := by decide +kernel
theorem dX8_tickOnce_761 : decode cX8_tickOnce 761 = .ok (.lconst 1, 1) := by decide +kernel
theorem dX8_tickOnce_762 : decode cX8_tickOnce 762 = .ok (.ladd, 1) := by decide +kernel
theorem dX8_tickOnce_763 : decode cX8_tickOnce 763 = .ok (.lastore, 1) := by decide +kernel
theorem dX8_tickOnce_764 : decode cX8_tickOnce 764 = .ok (.return_, 1) := by decide +kernel
theorem dX8_turned_0 : decode cX8_turned 0 = .ok (.aload_n 0, 1) := by decide +kernel
theorem dX8_turned_1 : decode cX8_turned 1 = .ok (.getfield 7, 3) := by decide +kernel
theorem dX8_turned_4 : decode cX8_turned 4 = .ok (.iconst 4, 1) := by decide +kernel
theorem dX8_turned_5 : decode cX8_turned 5 = .ok (.aload_n 0, 1) := by decide +kernel
theorem dX8_turned_6 : decode cX8_turned 6 = .ok (.getfield 7, 3) := by decide +kernel
theorem dX8_turned_9 : decode cX8_turned 9 = .ok (.iconst 0, 1) := by decide +kernel
theorem dX8_turned_10 : decode cX8_turned 10 = .ok (.laload, 1) := by decide +kernel
theorem dX8_turned_11 : decode cX8_turned 11 = .ok (.invokestatic 151, 3) := by decide +kernel
theorem dX8_turned_14 : decode cX8_turned 14 = .ok (.lastore, 1) := by decide +kernel
theorem dX8_turned_15 : decode cX8_turned 15 = .ok (.aload_n 0, 1) := by decide +kernel
theorem dX8_turned_16 : decode cX8_turned 16 = .ok (.getfield 7, 3) := by decide +kernel
theorem dX8_turned_19 : decode cX8_turned 19 = .ok (.bipush 13, 2) := by decide +kernel
theorem dX8_turned_21 : decode cX8_turned 21 = .ok (.aload_n 0, 1) := by decide +kernel
theorem dX8_turned_22 : decode cX8_turned 22 = .ok (.getfield 7, 3) := by decide +kernel
theorem dX8_turned_25 : decode cX8_turned 25 = .ok (.bipush 6, 2) := by decide +kernel
theorem dX8_turned_27 : decode cX8_turned 27 = .ok (.laload, 1) := by decide +kernel
theorem dX8_turned_28 : decode cX8_turned 28 = .ok (.ldc2_w 185, 3) := by decide +kernel
theorem dX8_turned_31 : decode cX8_turned 31 = .ok (.lrem, 1) := by decide +kernel
theorem dX8_turned_32 : decode cX8_turned 32 = .ok (.l2i, 1) := by decide +kernel
theorem dX8_turned_33 : decode cX8_turned 33 = .ok (.iadd, 1) := by decide +kernel
theorem dX8_turned_34 : decode cX8_turned 34 = .ok (.aload_n 0, 1) := by decide +kernel
theorem dX8_turned_35 : decode cX8_turned 35 = .ok (.getfield 7, 3) := by decide +kernel
theorem dX8_turned_38 : decode cX8_turned 38 = .ok (.iconst 4, 1) := by decide +kernel
theorem dX8_turned_39 : decode cX8_turned 39 = .ok (.laload, 1) := by decide +kernel
theorem dX8_turned_40 : decode cX8_turned 40 = .ok (.lastore, 1) := by decide +kernel
theorem dX8_turned_41 : decode cX8_turned 41 = .ok (.aload_n 0, 1) := by decide +kernel
theorem dX8_turned_42 : decode cX8_turned 42 = .ok (.getfield 7, 3) := by decide +kernel
theorem dX8_turned_45 : decode cX8_turned 45 = .ok (.bipush 6, 2) := by decide +kernel
theorem dX8_turned_47 : decode cX8_turned 47 = .ok (.dup2, 1) := by decide +kernel
theorem dX8_turned_48 : decode cX8_turned 48 = .ok (.laload, 1) := by decide +kernel
theorem dX8_turned_49 : decode cX8_turned 49 = .ok (.lconst 1, 1) := by decide +kernel
theorem dX8_turned_50 : decode cX8_turned 50 = .ok (.ladd, 1) := by decide +kernel
theorem dX8_turned_51 : decode cX8_turned 51 = .ok (.lastore, 1) := by decide +kernel
theorem dX8_turned_52 : decode cX8_turned 52 = .ok (.aload_n 0, 1) := by decide +kernel
theorem dX8_turned_53 : decode cX8_turned 53 = .ok (.aload_n 0, 1) := by decide +kernel
theorem dX8_turned_54 : decode cX8_turned 54 = .ok (.getfield 187, 3) := by decide +kernel
theorem dX8_turned_57 : decode cX8_turned 57 = .ok (.ifCond .ne 12, 3) := by decide +kernel
theorem dX8_turned_60 : decode cX8_turned 60 = .ok (.aload_n 0, 1) := by decide +kernel
theorem dX8_turned_61 : decode cX8_turned 61 = .ok (.getfield 7, 3) := by decide +kernel
theorem dX8_turned_64 : decode cX8_turned 64 = .ok (.iconst 4, 1) := by decide +kernel
theorem dX8_turned_65 : decode cX8_turned 65 = .ok (.laload, 1) := by decide +kernel
theorem dX8_turned_66 : decode cX8_turned 66 = .ok (.goto 7, 3) := by decide +kernel
theorem dX8_turned_69 : decode cX8_turned 69 = .ok (.aload_n 0, 1) := by decide +kernel
theorem dX8_turned_70 : decode cX8_turned 70 = .ok (.getfield 190, 3) := by decide +kernel
theorem dX8_turned_73 : decode cX8_turned 73 = .ok (.putfield 190, 3) := by decide +kernel
theorem dX8_turned_76 : decode cX8_turned 76 = .ok (.aload_n 0, 1) := by decide +kernel
theorem dX8_turned_77 : decode cX8_turned 77 = .ok (.aload_n 0, 1) := by decide +kernel
theorem dX8_turned_78 : decode cX8_turned 78 = .ok (.getfield 7, 3) := by decide +kernel
theorem dX8_turned_81 : decode cX8_turned 81 = .ok (.iconst 4, 1) := by decide +kernel
theorem dX8_turned_82 : decode cX8_turned 82 = .ok (.laload, 1) := by decide +kernel
theorem dX8_turned_83 : decode cX8_turned 83 = .ok (.putfield 193, 3) := by decide +kernel
theorem dX8_turned_86 : decode cX8_turned 86 = .ok (.aload_n 0, 1) := by decide +kernel
theorem dX8_turned_87 : decode cX8_turned 87 = .ok (.dup, 1) := by decide +kernel
theorem dX8_turned_88 : decode cX8_turned 88 = .ok (.getfield 187, 3) := by decide +kernel
theorem dX8_turned_91 : decode cX8_turned 91 = .ok (.iconst 1, 1) := by decide +kernel
theorem dX8_turned_92 : decode cX8_turned 92 = .ok (.iadd, 1) := by decide +kernel
theorem dX8_turned_93 : decode cX8_turned 93 = .ok (.putfield 187, 3) := by decide +kernel
theorem dX8_turned_96 : decode cX8_turned 96 = .ok (.return_, 1) := by decide +kernel
theorem dX8_beginsAt_0 : decode cX8_beginsAt 0 = .ok (.iconst 0, 1) := by decide +kernel
theorem dX8_beginsAt_1 : decode cX8_beginsAt 1 = .ok (.istore_n 3, 1) := by decide +kernel
theorem dX8_beginsAt_2 : decode cX8_beginsAt 2 = .ok (.iload_n 3, 1) := by decide +kernel
theorem dX8_beginsAt_3 : decode cX8_beginsAt 3 = .ok (.bipush 13, 2) := by decide +kernel
theorem dX8_beginsAt_5 : decode cX8_beginsAt 5 = .ok (.if_icmp .ge 16, 3) := by decide +kernel
theorem dX8_beginsAt_8 : decode cX8_beginsAt 8 = .ok (.aload_n 0, 1) := by decide +kernel
theorem dX8_beginsAt_9 : decode cX8_beginsAt 9 = .ok (.getfield 7, 3) := by decide +kernel
theorem dX8_beginsAt_12 : decode cX8_beginsAt 12 = .ok (.iload_n 3, 1) := by decide +kernel
theorem dX8_beginsAt_13 : decode cX8_beginsAt 13 = .ok (.lconst 0, 1) := by decide +kernel
theorem dX8_beginsAt_14 : decode cX8_beginsAt 14 = .ok (.lastore, 1) := by decide +kernel
theorem dX8_beginsAt_15 : decode cX8_beginsAt 15 = .ok (.iinc 3 1, 3) := by decide +kernel
theorem dX8_beginsAt_18 : decode cX8_beginsAt 18 = .ok (.goto (-16), 3) := by decide +kernel
theorem dX8_beginsAt_21 : decode cX8_beginsAt 21 = .ok (.aload_n 0, 1) := by decide +kernel
theorem dX8_beginsAt_22 : decode cX8_beginsAt 22 = .ok (.getfield 7, 3) := by decide +kernel
theorem dX8_beginsAt_25 : decode cX8_beginsAt 25 = .ok (.iconst 0, 1) := by decide +kernel
theorem dX8_beginsAt_26 : decode cX8_beginsAt 26 = .ok (.lload_n 1, 1) := by decide +kernel
theorem dX8_beginsAt_27 : decode cX8_beginsAt 27 = .ok (.lastore, 1) := by decide +kernel
theorem dX8_beginsAt_28 : decode cX8_beginsAt 28 = .ok (.aload_n 0, 1) := by decide +kernel
theorem dX8_beginsAt_29 : decode cX8_beginsAt 29 = .ok (.getfield 7, 3) := by decide +kernel
theorem dX8_beginsAt_32 : decode cX8_beginsAt 32 = .ok (.iconst 4, 1) := by decide +kernel
theorem dX8_beginsAt_33 : decode cX8_beginsAt 33 = .ok (.lload_n 1, 1) := by decide +kernel
theorem dX8_beginsAt_34 : decode cX8_beginsAt 34 = .ok (.invokestatic 151, 3) := by decide +kernel
theorem dX8_beginsAt_37 : decode cX8_beginsAt 37 = .ok (.lastore, 1) := by decide +kernel
theorem dX8_beginsAt_38 : decode cX8_beginsAt 38 = .ok (.return_, 1) := by decide +kernel
theorem dX8_begin_0 : decode cX8_begin 0 = .ok (.iload_n 1, 1) := by decide +kernel
theorem dX8_begin_1 : decode cX8_begin 1 = .ok (.i2l, 1) := by decide +kernel
theorem dX8_begin_2 : decode cX8_begin 2 = .ok (.ldc2_w 176, 3) := by decide +kernel
theorem dX8_begin_5 : decode cX8_begin 5 = .ok (.ldc2_w 174, 3) := by decide +kernel
theorem dX8_begin_8 : decode cX8_begin 8 = .ok (.invokestatic 49, 3) := by decide +kernel
theorem dX8_begin_11 : decode cX8_begin 11 = .ok (.ifCond .ne 10, 3) := by decide +kernel
theorem dX8_begin_14 : decode cX8_begin 14 = .ok (.aload_n 0, 1) := by decide +kernel
theorem dX8_begin_15 : decode cX8_begin 15 = .ok (.bipush (-2), 2) := by decide +kernel
theorem dX8_begin_17 : decode cX8_begin 17 = .ok (.invokevirtual 65, 3) := by decide +kernel
theorem dX8_begin_20 : decode cX8_begin 20 = .ok (.ireturn, 1) := by decide +kernel
theorem dX8_begin_21 : decode cX8_begin 21 = .ok (.aload_n 0, 1) := by decide +kernel
theorem dX8_begin_22 : decode cX8_begin 22 = .ok (.iload_n 1, 1) := by decide +kernel
theorem dX8_begin_23 : decode cX8_begin 23 = .ok (.i2l, 1) := by decide +kernel
theorem dX8_begin_24 : decode cX8_begin 24 = .ok (.invokevirtual 196, 3) := by decide +kernel
theorem dX8_begin_27 : decode cX8_begin 27 = .ok (.iconst 1, 1) := by decide +kernel
theorem dX8_begin_28 : decode cX8_begin 28 = .ok (.ireturn, 1) := by decide +kernel
theorem dX8_isRun_0 : decode cX8_isRun 0 = .ok (.iload_n 0, 1) := by decide +kernel
theorem dX8_isRun_1 : decode cX8_isRun 1 = .ok (.i2l, 1) := by decide +kernel
theorem dX8_isRun_2 : decode cX8_isRun 2 = .ok (.lconst 1, 1) := by decide +kernel
theorem dX8_isRun_3 : decode cX8_isRun 3 = .ok (.ldc2_w 199, 3) := by decide +kernel
theorem dX8_isRun_6 : decode cX8_isRun 6 = .ok (.invokestatic 49, 3) := by decide +kernel
theorem dX8_isRun_9 : decode cX8_isRun 9 = .ok (.ireturn, 1) := by decide +kernel
theorem dX8_tick_0 : decode cX8_tick 0 = .ok (.iload_n 1, 1) := by decide +kernel
theorem dX8_tick_1 : decode cX8_tick 1 = .ok (.invokestatic 201, 3) := by decide +kernel
theorem dX8_tick_4 : decode cX8_tick 4 = .ok (.ifCond .ne 10, 3) := by decide +kernel
theorem dX8_tick_7 : decode cX8_tick 7 = .ok (.aload_n 0, 1) := by decide +kernel
theorem dX8_tick_8 : decode cX8_tick 8 = .ok (.bipush (-2), 2) := by decide +kernel
theorem dX8_tick_10 : decode cX8_tick 10 = .ok (.invokevirtual 65, 3) := by decide +kernel
theorem dX8_tick_13 : decode cX8_tick 13 = .ok (.ireturn, 1) := by decide +kernel
theorem dX8_tick_14 : decode cX8_tick 14 = .ok (.iconst 0, 1) := by decide +kernel
theorem dX8_tick_15 : decode cX8_tick 15 = .ok (.istore_n 2, 1) := by decide +kernel
theorem dX8_tick_16 : decode cX8_tick 16 = .ok (.iload_n 2, 1) := by decide +kernel
theorem dX8_tick_17 : decode cX8_tick 17 = .ok (.iload_n 1, 1) := by decide +kernel
theorem dX8_tick_18 : decode cX8_tick 18 = .ok (.if_icmp .ge 13, 3) := by decide +kernel
theorem dX8_tick_21 : decode cX8_tick 21 = .ok (.aload_n 0, 1) := by decide +kernel
theorem dX8_tick_22 : decode cX8_tick 22 = .ok (.invokevirtual 204, 3) := by decide +kernel
theorem dX8_tick_25 : decode cX8_tick 25 = .ok (.iinc 2 1, 3) := by decide +kernel
theorem dX8_tick_28 : decode cX8_tick 28 = .ok (.goto (-12), 3) := by decide +kernel
theorem dX8_tick_31 : decode cX8_tick 31 = .ok (.aload_n 0, 1) := by decide +kernel
theorem dX8_tick_32 : decode cX8_tick 32 = .ok (.getfield 7, 3) := by decide +kernel
theorem dX8_tick_35 : decode cX8_tick 35 = .ok (.iconst 4, 1) := by decide +kernel
theorem dX8_tick_36 : decode cX8_tick 36 = .ok (.laload, 1) := by decide +kernel
theorem dX8_tick_37 : decode cX8_tick 37 = .ok (.l2i, 1) := by decide +kernel
theorem dX8_tick_38 : decode cX8_tick 38 = .ok (.ireturn, 1) := by decide +kernel
theorem dX8_told_0 : decode cX8_told 0 = .ok (.iload_n 1, 1) := by decide +kernel
theorem dX8_told_1 : decode cX8_told 1 = .ok (.i2l, 1) := by decide +kernel
theorem dX8_told_2 : decode cX8_told 2 = .ok (.lconst 0, 1) := by decide +kernel
theorem dX8_told_3 : decode cX8_told 3 = .ok (.ldc2_w 207, 3) := by decide +kernel
theorem dX8_told_6 : decode cX8_told 6 = .ok (.invokestatic 49, 3) := by decide +kernel
theorem dX8_told_9 : decode cX8_told 9 = .ok (.ifCond .eq 13, 3) := by decide +kernel
theorem dX8_told_12 : decode cX8_told 12 = .ok (.aload_n 0, 1) := by decide +kernel
theorem dX8_told_13 : decode cX8_told 13 = .ok (.getfield 7, 3) := by decide +kernel
theorem dX8_told_16 : decode cX8_told 16 = .ok (.iload_n 1, 1) := by decide +kernel
theorem dX8_told_17 : decode cX8_told 17 = .ok (.laload, 1) := by decide +kernel
theorem dX8_told_18 : decode cX8_told 18 = .ok (.l2i, 1) := by decide +kernel
theorem dX8_told_19 : decode cX8_told 19 = .ok (.goto 9, 3) := by decide +kernel
theorem dX8_told_22 : decode cX8_told 22 = .ok (.aload_n 0, 1) := by decide +kernel
theorem dX8_told_23 : decode cX8_told 23 = .ok (.ldc 209, 2) := by decide +kernel
theorem dX8_told_25 : decode cX8_told 25 = .ok (.invokevirtual 65, 3) := by decide +kernel
theorem dX8_told_28 : decode cX8_told 28 = .ok (.ireturn, 1) := by decide +kernel
theorem dX8_turnOf_0 : decode cX8_turnOf 0 = .ok (.iload_n 1, 1) := by decide +kernel
theorem dX8_turnOf_1 : decode cX8_turnOf 1 = .ok (.i2l, 1) := by decide +kernel
theorem dX8_turnOf_2 : decode cX8_turnOf 2 = .ok (.aload_n 0, 1) := by decide +kernel
theorem dX8_turnOf_3 : decode cX8_turnOf 3 = .ok (.getfield 7, 3) := by decide +kernel
theorem dX8_turnOf_6 : decode cX8_turnOf 6 = .ok (.bipush 6, 2) := by decide +kernel
theorem dX8_turnOf_8 : decode cX8_turnOf 8 = .ok (.laload, 1) := by decide +kernel
theorem dX8_turnOf_9 : decode cX8_turnOf 9 = .ok (.lcmp, 1) := by decide +kernel
theorem dX8_turnOf_10 : decode cX8_turnOf 10 = .ok (.ifCond .ge 32, 3) := by decide +kernel
theorem dX8_turnOf_13 : decode cX8_turnOf 13 = .ok (.aload_n 0, 1) := by decide +kernel
theorem dX8_turnOf_14 : decode cX8_turnOf 14 = .ok (.getfield 7, 3) := by decide +kernel
theorem dX8_turnOf_17 : decode cX8_turnOf 17 = .ok (.bipush 13, 2) := by decide +kernel
theorem dX8_turnOf_19 : decode cX8_turnOf 19 = .ok (.aload_n 0, 1) := by decide +kernel
theorem dX8_turnOf_20 : decode cX8_turnOf 20 = .ok (.getfield 7, 3) := by decide +kernel
theorem dX8_turnOf_23 : decode cX8_turnOf 23 = .ok (.bipush 6, 2) := by decide +kernel
theorem dX8_turnOf_25 : decode cX8_turnOf 25 = .ok (.laload, 1) := by decide +kernel
theorem dX8_turnOf_26 : decode cX8_turnOf 26 = .ok (.lconst 1, 1) := by decide +kernel
theorem dX8_turnOf_27 : decode cX8_turnOf 27 = .ok (.lsub, 1) := by decide +kernel
theorem dX8_turnOf_28 : decode cX8_turnOf 28 = .ok (.iload_n 1, 1) := by decide +kernel
theorem dX8_turnOf_29 : decode cX8_turnOf 29 = .ok (.i2l, 1) := by decide +kernel
theorem dX8_turnOf_30 : decode cX8_turnOf 30 = .ok (.lsub, 1) := by decide +kernel
theorem dX8_turnOf_31 : decode cX8_turnOf 31 = .ok (.ldc2_w 185, 3) := by decide +kernel
theorem dX8_turnOf_34 : decode cX8_turnOf 34 = .ok (.lrem, 1) := by decide +kernel
theorem dX8_turnOf_35 : decode cX8_turnOf 35 = .ok (.l2i, 1) := by decide +kernel
theorem dX8_turnOf_36 : decode cX8_turnOf 36 = .ok (.iadd, 1) := by decide +kernel
theorem dX8_turnOf_37 : decode cX8_turnOf 37 = .ok (.laload, 1) := by decide +kernel
theorem dX8_turnOf_38 : decode cX8_turnOf 38 = .ok (.l2i, 1) := by decide +kernel
theorem dX8_turnOf_39 : decode cX8_turnOf 39 = .ok (.goto 4, 3) := by decide +kernel
theorem dX8_turnOf_42 : decode cX8_turnOf 42 = .ok (.iconst (-1), 1) := by decide +kernel
theorem dX8_turnOf_43 : decode cX8_turnOf 43 = .ok (.ireturn, 1) := by decide +kernel
theorem dX8_turn_0 : decode cX8_turn 0 = .ok (.iload_n 1, 1) := by decide +kernel
theorem dX8_turn_1 : decode cX8_turn 1 = .ok (.i2l, 1) := by decide +kernel
theorem dX8_turn_2 : decode cX8_turn 2 = .ok (.lconst 0, 1) := by decide +kernel
theorem dX8_turn_3 : decode cX8_turn 3 = .ok (.ldc2_w 210, 3) := by decide +kernel
theorem dX8_turn_6 : decode cX8_turn 6 = .ok (.invokestatic 49, 3) := by decide +kernel
theorem dX8_turn_9 : decode cX8_turn 9 = .ok (.ifCond .eq 11, 3) := by decide +kernel
theorem dX8_turn_12 : decode cX8_turn 12 = .ok (.aload_n 0, 1) := by decide +kernel
theorem dX8_turn_13 : decode cX8_turn 13 = .ok (.iload_n 1, 1) := by decide +kernel
theorem dX8_turn_14 : decode cX8_turn 14 = .ok (.invokevirtual 212, 3) := by decide +kernel
theorem dX8_turn_17 : decode cX8_turn 17 = .ok (.goto 9, 3) := by decide +kernel
theorem dX8_turn_20 : decode cX8_turn 20 = .ok (.aload_n 0, 1) := by decide +kernel
theorem dX8_turn_21 : decode cX8_turn 21 = .ok (.bipush (-2), 2) := by decide +kernel
theorem dX8_turn_23 : decode cX8_turn 23 = .ok (.invokevirtual 65, 3) := by decide +kernel
theorem dX8_turn_26 : decode cX8_turn 26 = .ok (.ireturn, 1) := by decide +kernel
theorem dX8_hold_0 : decode cX8_hold 0 = .ok (.iconst 0, 1) := by decide +kernel
theorem dX8_hold_1 : decode cX8_hold 1 = .ok (.istore_n 1, 1) := by decide +kernel
theorem dX8_hold_2 : decode cX8_hold 2 = .ok (.iload_n 1, 1) := by decide +kernel
theorem dX8_hold_3 : decode cX8_hold 3 = .ok (.bipush 53, 2) := by decide +kernel
theorem dX8_hold_5 : decode cX8_hold 5 = .ok (.if_icmp .ge 21, 3) := by decide +kernel
theorem dX8_hold_8 : decode cX8_hold 8 = .ok (.aload_n 0, 1) := by decide +kernel
theorem dX8_hold_9 : decode cX8_hold 9 = .ok (.getfield 36, 3) := by decide +kernel
theorem dX8_hold_12 : decode cX8_hold 12 = .ok (.iload_n 1, 1) := by decide +kernel
theorem dX8_hold_13 : decode cX8_hold 13 = .ok (.aload_n 0, 1) := by decide +kernel
theorem dX8_hold_14 : decode cX8_hold 14 = .ok (.getfield 7, 3) := by decide +kernel
theorem dX8_hold_17 : decode cX8_hold 17 = .ok (.iload_n 1, 1) := by decide +kernel
theorem dX8_hold_18 : decode cX8_hold 18 = .ok (.laload, 1) := by decide +kernel
theorem dX8_hold_19 : decode cX8_hold 19 = .ok (.lastore, 1) := by decide +kernel
theorem dX8_hold_20 : decode cX8_hold 20 = .ok (.iinc 1 1, 3) := by decide +kernel
theorem dX8_hold_23 : decode cX8_hold 23 = .ok (.goto (-21), 3) := by decide +kernel
theorem dX8_hold_26 : decode cX8_hold 26 = .ok (.return_, 1) := by decide +kernel
theorem dX8_layBack_0 : decode cX8_layBack 0 = .ok (.iconst 0, 1) := by decide +kernel
theorem dX8_layBack_1 : decode cX8_layBack 1 = .ok (.istore_n 1, 1) := by decide +kernel
theorem dX8_layBack_2 : decode cX8_layBack 2 = .ok (.iload_n 1, 1) := by decide +kernel
theorem dX8_layBack_3 : decode cX8_layBack 3 = .ok (.bipush 53, 2) := by decide +kernel
theorem dX8_layBack_5 : decode cX8_layBack 5 = .ok (.if_icmp .ge 21, 3) := by decide +kernel
theorem dX8_layBack_8 : decode cX8_layBack 8 = .ok (.aload_n 0, 1) := by decide +kernel
theorem dX8_layBack_9 : decode cX8_layBack 9 = .ok (.getfield 7, 3) := by decide +kernel
theorem dX8_layBack_12 : decode cX8_layBack 12 = .ok (.iload_n 1, 1) := by decide +kernel
theorem dX8_layBack_13 : decode cX8_layBack 13 = .ok (.aload_n 0, 1) := by decide +kernel
theorem dX8_layBack_14 : decode cX8_layBack 14 = .ok (.getfield 36, 3) := by decide +kernel
theorem dX8_layBack_17 : decode cX8_layBack 17 = .ok (.iload_n 1, 1) := by decide +kernel
theorem dX8_layBack_18 : decode cX8_layBack 18 = .ok (.laload, 1) := by decide +kernel
theorem dX8_layBack_19 : decode cX8_layBack 19 = .ok (.lastore, 1) := by decide +kernel
theorem dX8_layBack_20 : decode cX8_layBack 20 = .ok (.iinc 1 1, 3) := by decide +kernel
theorem dX8_layBack_23 : decode cX8_layBack 23 = .ok (.goto (-21), 3) := by decide +kernel
theorem dX8_layBack_26 : decode cX8_layBack 26 = .ok (.aload_n 0, 1) := by decide +kernel
theorem dX8_layBack_27 : decode cX8_layBack 27 = .ok (.iconst 0, 1) := by decide +kernel
theorem dX8_layBack_28 : decode cX8_layBack 28 = .ok (.putfield 145, 3) := by decide +kernel
theorem dX8_layBack_31 : decode cX8_layBack 31 = .ok (.return_, 1) := by decide +kernel
theorem dX8_startRun_0 : decode cX8_startRun 0 = .ok (.aload_n 0, 1) := by decide +kernel
theorem dX8_startRun_1 : decode cX8_startRun 1 = .ok (.iconst 0, 1) := by decide +kernel
theorem dX8_startRun_2 : decode cX8_startRun 2 = .ok (.putfield 187, 3) := by decide +kernel
theorem dX8_startRun_5 : decode cX8_startRun 5 = .ok (.aload_n 0, 1) := by decide +kernel
theorem dX8_startRun_6 : decode cX8_startRun 6 = .ok (.lconst 0, 1) := by decide +kernel
