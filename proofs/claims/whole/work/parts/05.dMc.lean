theorem d_M_conflict_129 : decode b_M_conflict 129 = .ok (.iload 4, 2) := by decide +kernel
theorem d_M_conflict_131 : decode b_M_conflict 131 = .ok (.iaload, 1) := by decide +kernel
theorem d_M_conflict_132 : decode b_M_conflict 132 = .ok (.goto 66, 3) := by decide +kernel
theorem d_M_conflict_135 : decode b_M_conflict 135 = .ok (.iload_n 3, 1) := by decide +kernel
theorem d_M_conflict_136 : decode b_M_conflict 136 = .ok (.iconst 1, 1) := by decide +kernel
theorem d_M_conflict_137 : decode b_M_conflict 137 = .ok (.if_icmp .ne 13, 3) := by decide +kernel
theorem d_M_conflict_140 : decode b_M_conflict 140 = .ok (.aload_n 0, 1) := by decide +kernel
theorem d_M_conflict_141 : decode b_M_conflict 141 = .ok (.getfield 26, 3) := by decide +kernel
theorem d_M_conflict_144 : decode b_M_conflict 144 = .ok (.iload 4, 2) := by decide +kernel
theorem d_M_conflict_146 : decode b_M_conflict 146 = .ok (.iaload, 1) := by decide +kernel
theorem d_M_conflict_147 : decode b_M_conflict 147 = .ok (.goto 51, 3) := by decide +kernel
theorem d_M_conflict_150 : decode b_M_conflict 150 = .ok (.iload_n 3, 1) := by decide +kernel
theorem d_M_conflict_151 : decode b_M_conflict 151 = .ok (.iconst 2, 1) := by decide +kernel
theorem d_M_conflict_152 : decode b_M_conflict 152 = .ok (.if_icmp .ne 14, 3) := by decide +kernel
theorem d_M_conflict_155 : decode b_M_conflict 155 = .ok (.aload_n 0, 1) := by decide +kernel
theorem d_M_conflict_156 : decode b_M_conflict 156 = .ok (.getfield 29, 3) := by decide +kernel
theorem d_M_conflict_159 : decode b_M_conflict 159 = .ok (.iload 4, 2) := by decide +kernel
theorem d_M_conflict_161 : decode b_M_conflict 161 = .ok (.laload, 1) := by decide +kernel
theorem d_M_conflict_162 : decode b_M_conflict 162 = .ok (.l2i, 1) := by decide +kernel
theorem d_M_conflict_163 : decode b_M_conflict 163 = .ok (.goto 35, 3) := by decide +kernel
theorem d_M_conflict_166 : decode b_M_conflict 166 = .ok (.iload_n 3, 1) := by decide +kernel
theorem d_M_conflict_167 : decode b_M_conflict 167 = .ok (.iconst 3, 1) := by decide +kernel
theorem d_M_conflict_168 : decode b_M_conflict 168 = .ok (.if_icmp .ne 13, 3) := by decide +kernel
theorem d_M_conflict_171 : decode b_M_conflict 171 = .ok (.aload_n 0, 1) := by decide +kernel
theorem d_M_conflict_172 : decode b_M_conflict 172 = .ok (.iload 4, 2) := by decide +kernel
theorem d_M_conflict_174 : decode b_M_conflict 174 = .ok (.iconst (-1), 1) := by decide +kernel
theorem d_M_conflict_175 : decode b_M_conflict 175 = .ok (.invokevirtual 97, 3) := by decide +kernel
theorem d_M_conflict_178 : decode b_M_conflict 178 = .ok (.goto 20, 3) := by decide +kernel
theorem d_M_conflict_181 : decode b_M_conflict 181 = .ok (.iload 6, 2) := by decide +kernel
theorem d_M_conflict_183 : decode b_M_conflict 183 = .ok (.iconst (-1), 1) := by decide +kernel
theorem d_M_conflict_184 : decode b_M_conflict 184 = .ok (.if_icmp .ne 7, 3) := by decide +kernel
theorem d_M_conflict_187 : decode b_M_conflict 187 = .ok (.iconst (-1), 1) := by decide +kernel
theorem d_M_conflict_188 : decode b_M_conflict 188 = .ok (.goto 10, 3) := by decide +kernel
theorem d_M_conflict_191 : decode b_M_conflict 191 = .ok (.aload_n 0, 1) := by decide +kernel
theorem d_M_conflict_192 : decode b_M_conflict 192 = .ok (.getfield 20, 3) := by decide +kernel
theorem d_M_conflict_195 : decode b_M_conflict 195 = .ok (.iload 6, 2) := by decide +kernel
theorem d_M_conflict_197 : decode b_M_conflict 197 = .ok (.iaload, 1) := by decide +kernel
theorem d_M_conflict_198 : decode b_M_conflict 198 = .ok (.ireturn, 1) := by decide +kernel
theorem d_M_conflict_199 : decode b_M_conflict 199 = .ok (.iinc 4 1, 3) := by decide +kernel
theorem d_M_conflict_202 : decode b_M_conflict 202 = .ok (.goto (-176), 3) := by decide +kernel
theorem d_M_conflict_205 : decode b_M_conflict 205 = .ok (.iconst (-1), 1) := by decide +kernel
theorem d_M_conflict_206 : decode b_M_conflict 206 = .ok (.ireturn, 1) := by decide +kernel
theorem d_M_settle_0 : decode b_M_settle 0 = .ok (.aload_n 0, 1) := by decide +kernel
theorem d_M_settle_1 : decode b_M_settle 1 = .ok (.iload_n 1, 1) := by decide +kernel
theorem d_M_settle_2 : decode b_M_settle 2 = .ok (.invokevirtual 62, 3) := by decide +kernel
theorem d_M_settle_5 : decode b_M_settle 5 = .ok (.ifCond .eq 8, 3) := by decide +kernel
theorem d_M_settle_8 : decode b_M_settle 8 = .ok (.iload 4, 2) := by decide +kernel
theorem d_M_settle_10 : decode b_M_settle 10 = .ok (.ifCond .ge 5, 3) := by decide +kernel
theorem d_M_settle_13 : decode b_M_settle 13 = .ok (.iconst (-1), 1) := by decide +kernel
theorem d_M_settle_14 : decode b_M_settle 14 = .ok (.ireturn, 1) := by decide +kernel
theorem d_M_settle_15 : decode b_M_settle 15 = .ok (.iconst (-1), 1) := by decide +kernel
theorem d_M_settle_16 : decode b_M_settle 16 = .ok (.istore 5, 2) := by decide +kernel
theorem d_M_settle_18 : decode b_M_settle 18 = .ok (.aload_n 0, 1) := by decide +kernel
theorem d_M_settle_19 : decode b_M_settle 19 = .ok (.iload_n 1, 1) := by decide +kernel
theorem d_M_settle_20 : decode b_M_settle 20 = .ok (.invokevirtual 80, 3) := by decide +kernel
theorem d_M_settle_23 : decode b_M_settle 23 = .ok (.iconst 0, 1) := by decide +kernel
theorem d_M_settle_24 : decode b_M_settle 24 = .ok (.istore 6, 2) := by decide +kernel
theorem d_M_settle_26 : decode b_M_settle 26 = .ok (.iload 6, 2) := by decide +kernel
theorem d_M_settle_28 : decode b_M_settle 28 = .ok (.aload_n 0, 1) := by decide +kernel
theorem d_M_settle_29 : decode b_M_settle 29 = .ok (.getfield 59, 3) := by decide +kernel
theorem d_M_settle_32 : decode b_M_settle 32 = .ok (.if_icmp .ge 85, 3) := by decide +kernel
theorem d_M_settle_35 : decode b_M_settle 35 = .ok (.aload_n 0, 1) := by decide +kernel
theorem d_M_settle_36 : decode b_M_settle 36 = .ok (.getfield 23, 3) := by decide +kernel
theorem d_M_settle_39 : decode b_M_settle 39 = .ok (.iload 6, 2) := by decide +kernel
theorem d_M_settle_41 : decode b_M_settle 41 = .ok (.iaload, 1) := by decide +kernel
theorem d_M_settle_42 : decode b_M_settle 42 = .ok (.iload_n 2, 1) := by decide +kernel
theorem d_M_settle_43 : decode b_M_settle 43 = .ok (.if_icmp .ne 42, 3) := by decide +kernel
theorem d_M_settle_46 : decode b_M_settle 46 = .ok (.aload_n 0, 1) := by decide +kernel
theorem d_M_settle_47 : decode b_M_settle 47 = .ok (.getfield 26, 3) := by decide +kernel
theorem d_M_settle_50 : decode b_M_settle 50 = .ok (.iload 6, 2) := by decide +kernel
theorem d_M_settle_52 : decode b_M_settle 52 = .ok (.iaload, 1) := by decide +kernel
theorem d_M_settle_53 : decode b_M_settle 53 = .ok (.iload_n 3, 1) := by decide +kernel
theorem d_M_settle_54 : decode b_M_settle 54 = .ok (.if_icmp .ne 31, 3) := by decide +kernel
theorem d_M_settle_57 : decode b_M_settle 57 = .ok (.iload 5, 2) := by decide +kernel
theorem d_M_settle_59 : decode b_M_settle 59 = .ok (.iconst (-1), 1) := by decide +kernel
theorem d_M_settle_60 : decode b_M_settle 60 = .ok (.if_icmp .eq 21, 3) := by decide +kernel
theorem d_M_settle_63 : decode b_M_settle 63 = .ok (.aload_n 0, 1) := by decide +kernel
theorem d_M_settle_64 : decode b_M_settle 64 = .ok (.getfield 29, 3) := by decide +kernel
theorem d_M_settle_67 : decode b_M_settle 67 = .ok (.iload 6, 2) := by decide +kernel
theorem d_M_settle_69 : decode b_M_settle 69 = .ok (.laload, 1) := by decide +kernel
theorem d_M_settle_70 : decode b_M_settle 70 = .ok (.aload_n 0, 1) := by decide +kernel
theorem d_M_settle_71 : decode b_M_settle 71 = .ok (.getfield 29, 3) := by decide +kernel
theorem d_M_settle_74 : decode b_M_settle 74 = .ok (.iload 5, 2) := by decide +kernel
theorem d_M_settle_76 : decode b_M_settle 76 = .ok (.laload, 1) := by decide +kernel
theorem d_M_settle_77 : decode b_M_settle 77 = .ok (.lcmp, 1) := by decide +kernel
theorem d_M_settle_78 : decode b_M_settle 78 = .ok (.ifCond .ge 7, 3) := by decide +kernel
theorem d_M_settle_81 : decode b_M_settle 81 = .ok (.iconst 1, 1) := by decide +kernel
theorem d_M_settle_82 : decode b_M_settle 82 = .ok (.goto 4, 3) := by decide +kernel
theorem d_M_settle_85 : decode b_M_settle 85 = .ok (.iconst 0, 1) := by decide +kernel
theorem d_M_settle_86 : decode b_M_settle 86 = .ok (.istore 7, 2) := by decide +kernel
theorem d_M_settle_88 : decode b_M_settle 88 = .ok (.iload 7, 2) := by decide +kernel
theorem d_M_settle_90 : decode b_M_settle 90 = .ok (.ifCond .eq 17, 3) := by decide +kernel
theorem d_M_settle_93 : decode b_M_settle 93 = .ok (.aload_n 0, 1) := by decide +kernel
theorem d_M_settle_94 : decode b_M_settle 94 = .ok (.iload 6, 2) := by decide +kernel
theorem d_M_settle_96 : decode b_M_settle 96 = .ok (.invokevirtual 88, 3) := by decide +kernel
theorem d_M_settle_99 : decode b_M_settle 99 = .ok (.ifCond .eq 8, 3) := by decide +kernel
theorem d_M_settle_102 : decode b_M_settle 102 = .ok (.iload 6, 2) := by decide +kernel
theorem d_M_settle_104 : decode b_M_settle 104 = .ok (.goto 5, 3) := by decide +kernel
theorem d_M_settle_107 : decode b_M_settle 107 = .ok (.iload 5, 2) := by decide +kernel
theorem d_M_settle_109 : decode b_M_settle 109 = .ok (.istore 5, 2) := by decide +kernel
theorem d_M_settle_111 : decode b_M_settle 111 = .ok (.iinc 6 1, 3) := by decide +kernel
theorem d_M_settle_114 : decode b_M_settle 114 = .ok (.goto (-88), 3) := by decide +kernel
theorem d_M_settle_117 : decode b_M_settle 117 = .ok (.iload 5, 2) := by decide +kernel
theorem d_M_settle_119 : decode b_M_settle 119 = .ok (.iconst (-1), 1) := by decide +kernel
theorem d_M_settle_120 : decode b_M_settle 120 = .ok (.if_icmp .ne 7, 3) := by decide +kernel
theorem d_M_settle_123 : decode b_M_settle 123 = .ok (.iconst (-1), 1) := by decide +kernel
theorem d_M_settle_124 : decode b_M_settle 124 = .ok (.goto 11, 3) := by decide +kernel
theorem d_M_settle_127 : decode b_M_settle 127 = .ok (.aload_n 0, 1) := by decide +kernel
theorem d_M_settle_128 : decode b_M_settle 128 = .ok (.iload 5, 2) := by decide +kernel
theorem d_M_settle_130 : decode b_M_settle 130 = .ok (.iload 4, 2) := by decide +kernel
theorem d_M_settle_132 : decode b_M_settle 132 = .ok (.invokevirtual 97, 3) := by decide +kernel
theorem d_M_settle_135 : decode b_M_settle 135 = .ok (.istore 6, 2) := by decide +kernel
theorem d_M_settle_137 : decode b_M_settle 137 = .ok (.iload 6, 2) := by decide +kernel
theorem d_M_settle_139 : decode b_M_settle 139 = .ok (.iconst (-1), 1) := by decide +kernel
theorem d_M_settle_140 : decode b_M_settle 140 = .ok (.if_icmp .ne 5, 3) := by decide +kernel
theorem d_M_settle_143 : decode b_M_settle 143 = .ok (.iconst (-1), 1) := by decide +kernel
theorem d_M_settle_144 : decode b_M_settle 144 = .ok (.ireturn, 1) := by decide +kernel
theorem d_M_settle_145 : decode b_M_settle 145 = .ok (.aload_n 0, 1) := by decide +kernel
theorem d_M_settle_146 : decode b_M_settle 146 = .ok (.getfield 59, 3) := by decide +kernel
theorem d_M_settle_149 : decode b_M_settle 149 = .ok (.sipush 300, 3) := by decide +kernel
theorem d_M_settle_152 : decode b_M_settle 152 = .ok (.if_icmp .ne 6, 3) := by decide +kernel
theorem d_M_settle_155 : decode b_M_settle 155 = .ok (.bipush (-2), 2) := by decide +kernel
theorem d_M_settle_157 : decode b_M_settle 157 = .ok (.ireturn, 1) := by decide +kernel
theorem d_M_settle_158 : decode b_M_settle 158 = .ok (.aload_n 0, 1) := by decide +kernel
theorem d_M_settle_159 : decode b_M_settle 159 = .ok (.getfield 59, 3) := by decide +kernel
theorem d_M_settle_162 : decode b_M_settle 162 = .ok (.istore 7, 2) := by decide +kernel
theorem d_M_settle_164 : decode b_M_settle 164 = .ok (.sipush 300, 3) := by decide +kernel
theorem d_M_settle_167 : decode b_M_settle 167 = .ok (.newarray .boolean, 2) := by decide +kernel
theorem d_M_settle_169 : decode b_M_settle 169 = .ok (.astore 8, 2) := by decide +kernel
theorem d_M_settle_171 : decode b_M_settle 171 = .ok (.iconst 0, 1) := by decide +kernel
theorem d_M_settle_172 : decode b_M_settle 172 = .ok (.istore 9, 2) := by decide +kernel
theorem d_M_settle_174 : decode b_M_settle 174 = .ok (.iload 9, 2) := by decide +kernel
theorem d_M_settle_176 : decode b_M_settle 176 = .ok (.iload 7, 2) := by decide +kernel
theorem d_M_settle_178 : decode b_M_settle 178 = .ok (.if_icmp .ge 40, 3) := by decide +kernel
theorem d_M_settle_181 : decode b_M_settle 181 = .ok (.aload 8, 2) := by decide +kernel
theorem d_M_settle_183 : decode b_M_settle 183 = .ok (.iload 9, 2) := by decide +kernel
theorem d_M_settle_185 : decode b_M_settle 185 = .ok (.aload_n 0, 1) := by decide +kernel
theorem d_M_settle_186 : decode b_M_settle 186 = .ok (.iload 9, 2) := by decide +kernel
theorem d_M_settle_188 : decode b_M_settle 188 = .ok (.iload 5, 2) := by decide +kernel
theorem d_M_settle_190 : decode b_M_settle 190 = .ok (.invokevirtual 84, 3) := by decide +kernel
theorem d_M_settle_193 : decode b_M_settle 193 = .ok (.ifCond .eq 17, 3) := by decide +kernel
theorem d_M_settle_196 : decode b_M_settle 196 = .ok (.aload_n 0, 1) := by decide +kernel
theorem d_M_settle_197 : decode b_M_settle 197 = .ok (.getfield 52, 3) := by decide +kernel
theorem d_M_settle_200 : decode b_M_settle 200 = .ok (.iload 9, 2) := by decide +kernel
theorem d_M_settle_202 : decode b_M_settle 202 = .ok (.baload, 1) := by decide +kernel
theorem d_M_settle_203 : decode b_M_settle 203 = .ok (.ifCond .eq 7, 3) := by decide +kernel
theorem d_M_settle_206 : decode b_M_settle 206 = .ok (.iconst 1, 1) := by decide +kernel
theorem d_M_settle_207 : decode b_M_settle 207 = .ok (.goto 4, 3) := by decide +kernel
theorem d_M_settle_210 : decode b_M_settle 210 = .ok (.iconst 0, 1) := by decide +kernel
theorem d_M_settle_211 : decode b_M_settle 211 = .ok (.bastore, 1) := by decide +kernel
theorem d_M_settle_212 : decode b_M_settle 212 = .ok (.iinc 9 1, 3) := by decide +kernel
theorem d_M_settle_215 : decode b_M_settle 215 = .ok (.goto (-41), 3) := by decide +kernel
theorem d_M_settle_218 : decode b_M_settle 218 = .ok (.aload_n 0, 1) := by decide +kernel
theorem d_M_settle_219 : decode b_M_settle 219 = .ok (.iload_n 1, 1) := by decide +kernel
theorem d_M_settle_220 : decode b_M_settle 220 = .ok (.iload_n 2, 1) := by decide +kernel
theorem d_M_settle_221 : decode b_M_settle 221 = .ok (.iload_n 3, 1) := by decide +kernel
theorem d_M_settle_222 : decode b_M_settle 222 = .ok (.aload_n 0, 1) := by decide +kernel
theorem d_M_settle_223 : decode b_M_settle 223 = .ok (.getfield 29, 3) := by decide +kernel
theorem d_M_settle_226 : decode b_M_settle 226 = .ok (.iload 5, 2) := by decide +kernel
theorem d_M_settle_228 : decode b_M_settle 228 = .ok (.laload, 1) := by decide +kernel
theorem d_M_settle_229 : decode b_M_settle 229 = .ok (.aload_n 0, 1) := by decide +kernel
theorem d_M_settle_230 : decode b_M_settle 230 = .ok (.getfield 32, 3) := by decide +kernel
theorem d_M_settle_233 : decode b_M_settle 233 = .ok (.iload 6, 2) := by decide +kernel
theorem d_M_settle_235 : decode b_M_settle 235 = .ok (.laload, 1) := by decide +kernel
theorem d_M_settle_236 : decode b_M_settle 236 = .ok (.invokevirtual 68, 3) := by decide +kernel
theorem d_M_settle_239 : decode b_M_settle 239 = .ok (.istore 9, 2) := by decide +kernel
theorem d_M_settle_241 : decode b_M_settle 241 = .ok (.iconst 0, 1) := by decide +kernel
theorem d_M_settle_242 : decode b_M_settle 242 = .ok (.istore 10, 2) := by decide +kernel
theorem d_M_settle_244 : decode b_M_settle 244 = .ok (.iload 10, 2) := by decide +kernel
theorem d_M_settle_246 : decode b_M_settle 246 = .ok (.iload 7, 2) := by decide +kernel
theorem d_M_settle_248 : decode b_M_settle 248 = .ok (.if_icmp .ge 28, 3) := by decide +kernel
theorem d_M_settle_251 : decode b_M_settle 251 = .ok (.aload_n 0, 1) := by decide +kernel
theorem d_M_settle_252 : decode b_M_settle 252 = .ok (.getfield 42, 3) := by decide +kernel
theorem d_M_settle_255 : decode b_M_settle 255 = .ok (.iload 9, 2) := by decide +kernel
theorem d_M_settle_257 : decode b_M_settle 257 = .ok (.sipush 300, 3) := by decide +kernel
theorem d_M_settle_260 : decode b_M_settle 260 = .ok (.imul, 1) := by decide +kernel
theorem d_M_settle_261 : decode b_M_settle 261 = .ok (.iload 10, 2) := by decide +kernel
theorem d_M_settle_263 : decode b_M_settle 263 = .ok (.iadd, 1) := by decide +kernel
theorem d_M_settle_264 : decode b_M_settle 264 = .ok (.aload 8, 2) := by decide +kernel
theorem d_M_settle_266 : decode b_M_settle 266 = .ok (.iload 10, 2) := by decide +kernel
theorem d_M_settle_268 : decode b_M_settle 268 = .ok (.baload, 1) := by decide +kernel
theorem d_M_settle_269 : decode b_M_settle 269 = .ok (.bastore, 1) := by decide +kernel
theorem d_M_settle_270 : decode b_M_settle 270 = .ok (.iinc 10 1, 3) := by decide +kernel
theorem d_M_settle_273 : decode b_M_settle 273 = .ok (.goto (-29), 3) := by decide +kernel
theorem d_M_settle_276 : decode b_M_settle 276 = .ok (.aload_n 0, 1) := by decide +kernel
theorem d_M_settle_277 : decode b_M_settle 277 = .ok (.getfield 20, 3) := by decide +kernel
theorem d_M_settle_280 : decode b_M_settle 280 = .ok (.iload 9, 2) := by decide +kernel
theorem d_M_settle_282 : decode b_M_settle 282 = .ok (.iaload, 1) := by decide +kernel
theorem d_M_settle_283 : decode b_M_settle 283 = .ok (.ireturn, 1) := by decide +kernel
theorem d_M_known_0 : decode b_M_known 0 = .ok (.aload_n 0, 1) := by decide +kernel
theorem d_M_known_1 : decode b_M_known 1 = .ok (.iload_n 1, 1) := by decide +kernel
theorem d_M_known_2 : decode b_M_known 2 = .ok (.invokevirtual 62, 3) := by decide +kernel
theorem d_M_known_5 : decode b_M_known 5 = .ok (.ifCond .ne 7, 3) := by decide +kernel
theorem d_M_known_8 : decode b_M_known 8 = .ok (.ldc2_w 103, 3) := by decide +kernel
theorem d_M_known_11 : decode b_M_known 11 = .ok (.lreturn, 1) := by decide +kernel
theorem d_M_known_12 : decode b_M_known 12 = .ok (.iconst (-1), 1) := by decide +kernel
theorem d_M_known_13 : decode b_M_known 13 = .ok (.istore 8, 2) := by decide +kernel
theorem d_M_known_15 : decode b_M_known 15 = .ok (.iconst 0, 1) := by decide +kernel
theorem d_M_known_16 : decode b_M_known 16 = .ok (.istore 9, 2) := by decide +kernel
theorem d_M_known_18 : decode b_M_known 18 = .ok (.iload 9, 2) := by decide +kernel
theorem d_M_known_20 : decode b_M_known 20 = .ok (.aload_n 0, 1) := by decide +kernel
theorem d_M_known_21 : decode b_M_known 21 = .ok (.getfield 59, 3) := by decide +kernel
theorem d_M_known_24 : decode b_M_known 24 = .ok (.if_icmp .ge 172, 3) := by decide +kernel
theorem d_M_known_27 : decode b_M_known 27 = .ok (.aload_n 0, 1) := by decide +kernel
theorem d_M_known_28 : decode b_M_known 28 = .ok (.getfield 23, 3) := by decide +kernel
theorem d_M_known_31 : decode b_M_known 31 = .ok (.iload 9, 2) := by decide +kernel
theorem d_M_known_33 : decode b_M_known 33 = .ok (.iaload, 1) := by decide +kernel
theorem d_M_known_34 : decode b_M_known 34 = .ok (.iload_n 2, 1) := by decide +kernel
theorem d_M_known_35 : decode b_M_known 35 = .ok (.if_icmp .ne 155, 3) := by decide +kernel
theorem d_M_known_38 : decode b_M_known 38 = .ok (.aload_n 0, 1) := by decide +kernel
theorem d_M_known_39 : decode b_M_known 39 = .ok (.getfield 26, 3) := by decide +kernel
theorem d_M_known_42 : decode b_M_known 42 = .ok (.iload 9, 2) := by decide +kernel
theorem d_M_known_44 : decode b_M_known 44 = .ok (.iaload, 1) := by decide +kernel
theorem d_M_known_45 : decode b_M_known 45 = .ok (.iload_n 3, 1) := by decide +kernel
theorem d_M_known_46 : decode b_M_known 46 = .ok (.if_icmp .ne 144, 3) := by decide +kernel
theorem d_M_known_49 : decode b_M_known 49 = .ok (.aload_n 0, 1) := by decide +kernel
theorem d_M_known_50 : decode b_M_known 50 = .ok (.getfield 29, 3) := by decide +kernel
theorem d_M_known_53 : decode b_M_known 53 = .ok (.iload 9, 2) := by decide +kernel
theorem d_M_known_55 : decode b_M_known 55 = .ok (.laload, 1) := by decide +kernel
theorem d_M_known_56 : decode b_M_known 56 = .ok (.lload 4, 2) := by decide +kernel
theorem d_M_known_58 : decode b_M_known 58 = .ok (.lcmp, 1) := by decide +kernel
theorem d_M_known_59 : decode b_M_known 59 = .ok (.ifCond .gt 131, 3) := by decide +kernel
theorem d_M_known_62 : decode b_M_known 62 = .ok (.aload_n 0, 1) := by decide +kernel
theorem d_M_known_63 : decode b_M_known 63 = .ok (.iload_n 1, 1) := by decide +kernel
theorem d_M_known_64 : decode b_M_known 64 = .ok (.iload 9, 2) := by decide +kernel
theorem d_M_known_66 : decode b_M_known 66 = .ok (.lload 6, 2) := by decide +kernel
theorem d_M_known_68 : decode b_M_known 68 = .ok (.invokevirtual 105, 3) := by decide +kernel
theorem d_M_known_71 : decode b_M_known 71 = .ok (.ifCond .eq 119, 3) := by decide +kernel
theorem d_M_known_74 : decode b_M_known 74 = .ok (.iload 8, 2) := by decide +kernel
theorem d_M_known_76 : decode b_M_known 76 = .ok (.iconst (-1), 1) := by decide +kernel
theorem d_M_known_77 : decode b_M_known 77 = .ok (.if_icmp .eq 92, 3) := by decide +kernel
theorem d_M_known_80 : decode b_M_known 80 = .ok (.aload_n 0, 1) := by decide +kernel
theorem d_M_known_81 : decode b_M_known 81 = .ok (.getfield 29, 3) := by decide +kernel
theorem d_M_known_84 : decode b_M_known 84 = .ok (.iload 9, 2) := by decide +kernel
theorem d_M_known_86 : decode b_M_known 86 = .ok (.laload, 1) := by decide +kernel
theorem d_M_known_87 : decode b_M_known 87 = .ok (.aload_n 0, 1) := by decide +kernel
theorem d_M_known_88 : decode b_M_known 88 = .ok (.getfield 29, 3) := by decide +kernel
theorem d_M_known_91 : decode b_M_known 91 = .ok (.iload 8, 2) := by decide +kernel
theorem d_M_known_93 : decode b_M_known 93 = .ok (.laload, 1) := by decide +kernel
theorem d_M_known_94 : decode b_M_known 94 = .ok (.lcmp, 1) := by decide +kernel
theorem d_M_known_95 : decode b_M_known 95 = .ok (.ifCond .gt 74, 3) := by decide +kernel
theorem d_M_known_98 : decode b_M_known 98 = .ok (.aload_n 0, 1) := by decide +kernel
theorem d_M_known_99 : decode b_M_known 99 = .ok (.getfield 29, 3) := by decide +kernel
theorem d_M_known_102 : decode b_M_known 102 = .ok (.iload 9, 2) := by decide +kernel
theorem d_M_known_104 : decode b_M_known 104 = .ok (.laload, 1) := by decide +kernel
theorem d_M_known_105 : decode b_M_known 105 = .ok (.aload_n 0, 1) := by decide +kernel
theorem d_M_known_106 : decode b_M_known 106 = .ok (.getfield 29, 3) := by decide +kernel
theorem d_M_known_109 : decode b_M_known 109 = .ok (.iload 8, 2) := by decide +kernel
theorem d_M_known_111 : decode b_M_known 111 = .ok (.laload, 1) := by decide +kernel
theorem d_M_known_112 : decode b_M_known 112 = .ok (.lcmp, 1) := by decide +kernel
theorem d_M_known_113 : decode b_M_known 113 = .ok (.ifCond .ne 60, 3) := by decide +kernel
theorem d_M_known_116 : decode b_M_known 116 = .ok (.aload_n 0, 1) := by decide +kernel
theorem d_M_known_117 : decode b_M_known 117 = .ok (.getfield 35, 3) := by decide +kernel
theorem d_M_known_120 : decode b_M_known 120 = .ok (.iload 9, 2) := by decide +kernel
theorem d_M_known_122 : decode b_M_known 122 = .ok (.laload, 1) := by decide +kernel
theorem d_M_known_123 : decode b_M_known 123 = .ok (.aload_n 0, 1) := by decide +kernel
theorem d_M_known_124 : decode b_M_known 124 = .ok (.getfield 35, 3) := by decide +kernel
theorem d_M_known_127 : decode b_M_known 127 = .ok (.iload 8, 2) := by decide +kernel
theorem d_M_known_129 : decode b_M_known 129 = .ok (.laload, 1) := by decide +kernel
theorem d_M_known_130 : decode b_M_known 130 = .ok (.lcmp, 1) := by decide +kernel
theorem d_M_known_131 : decode b_M_known 131 = .ok (.ifCond .gt 38, 3) := by decide +kernel
theorem d_M_known_134 : decode b_M_known 134 = .ok (.aload_n 0, 1) := by decide +kernel
theorem d_M_known_135 : decode b_M_known 135 = .ok (.getfield 35, 3) := by decide +kernel
theorem d_M_known_138 : decode b_M_known 138 = .ok (.iload 9, 2) := by decide +kernel
theorem d_M_known_140 : decode b_M_known 140 = .ok (.laload, 1) := by decide +kernel
theorem d_M_known_141 : decode b_M_known 141 = .ok (.aload_n 0, 1) := by decide +kernel
theorem d_M_known_142 : decode b_M_known 142 = .ok (.getfield 35, 3) := by decide +kernel
theorem d_M_known_145 : decode b_M_known 145 = .ok (.iload 8, 2) := by decide +kernel
theorem d_M_known_147 : decode b_M_known 147 = .ok (.laload, 1) := by decide +kernel
theorem d_M_known_148 : decode b_M_known 148 = .ok (.lcmp, 1) := by decide +kernel
theorem d_M_known_149 : decode b_M_known 149 = .ok (.ifCond .ne 24, 3) := by decide +kernel
theorem d_M_known_152 : decode b_M_known 152 = .ok (.aload_n 0, 1) := by decide +kernel
theorem d_M_known_153 : decode b_M_known 153 = .ok (.getfield 20, 3) := by decide +kernel
theorem d_M_known_156 : decode b_M_known 156 = .ok (.iload 9, 2) := by decide +kernel
theorem d_M_known_158 : decode b_M_known 158 = .ok (.iaload, 1) := by decide +kernel
theorem d_M_known_159 : decode b_M_known 159 = .ok (.aload_n 0, 1) := by decide +kernel
theorem d_M_known_160 : decode b_M_known 160 = .ok (.getfield 20, 3) := by decide +kernel
theorem d_M_known_163 : decode b_M_known 163 = .ok (.iload 8, 2) := by decide +kernel
theorem d_M_known_165 : decode b_M_known 165 = .ok (.iaload, 1) := by decide +kernel
theorem d_M_known_166 : decode b_M_known 166 = .ok (.if_icmp .le 7, 3) := by decide +kernel
theorem d_M_known_169 : decode b_M_known 169 = .ok (.iconst 1, 1) := by decide +kernel
theorem d_M_known_170 : decode b_M_known 170 = .ok (.goto 4, 3) := by decide +kernel
theorem d_M_known_173 : decode b_M_known 173 = .ok (.iconst 0, 1) := by decide +kernel
theorem d_M_known_174 : decode b_M_known 174 = .ok (.istore 10, 2) := by decide +kernel
theorem d_M_known_176 : decode b_M_known 176 = .ok (.iload 10, 2) := by decide +kernel
theorem d_M_known_178 : decode b_M_known 178 = .ok (.ifCond .eq 8, 3) := by decide +kernel
theorem d_M_known_181 : decode b_M_known 181 = .ok (.iload 9, 2) := by decide +kernel
theorem d_M_known_183 : decode b_M_known 183 = .ok (.goto 5, 3) := by decide +kernel
theorem d_M_known_186 : decode b_M_known 186 = .ok (.iload 8, 2) := by decide +kernel
theorem d_M_known_188 : decode b_M_known 188 = .ok (.istore 8, 2) := by decide +kernel
theorem d_M_known_190 : decode b_M_known 190 = .ok (.iinc 9 1, 3) := by decide +kernel
theorem d_M_known_193 : decode b_M_known 193 = .ok (.goto (-175), 3) := by decide +kernel
theorem d_M_known_196 : decode b_M_known 196 = .ok (.iload 8, 2) := by decide +kernel
theorem d_M_known_198 : decode b_M_known 198 = .ok (.iconst (-1), 1) := by decide +kernel
theorem d_M_known_199 : decode b_M_known 199 = .ok (.if_icmp .ne 9, 3) := by decide +kernel
theorem d_M_known_202 : decode b_M_known 202 = .ok (.ldc2_w 103, 3) := by decide +kernel
theorem d_M_known_205 : decode b_M_known 205 = .ok (.goto 10, 3) := by decide +kernel
theorem d_M_known_208 : decode b_M_known 208 = .ok (.aload_n 0, 1) := by decide +kernel
theorem d_M_known_209 : decode b_M_known 209 = .ok (.getfield 32, 3) := by decide +kernel
theorem d_M_known_212 : decode b_M_known 212 = .ok (.iload 8, 2) := by decide +kernel
theorem d_M_known_214 : decode b_M_known 214 = .ok (.laload, 1) := by decide +kernel
theorem d_M_known_215 : decode b_M_known 215 = .ok (.lreturn, 1) := by decide +kernel
theorem d_M_equal_0 : decode b_M_equal 0 = .ok (.aload_n 0, 1) := by decide +kernel
theorem d_M_equal_1 : decode b_M_equal 1 = .ok (.iload_n 1, 1) := by decide +kernel
theorem d_M_equal_2 : decode b_M_equal 2 = .ok (.invokevirtual 62, 3) := by decide +kernel
theorem d_M_equal_5 : decode b_M_equal 5 = .ok (.ifCond .eq 11, 3) := by decide +kernel
theorem d_M_equal_8 : decode b_M_equal 8 = .ok (.aload_n 0, 1) := by decide +kernel
theorem d_M_equal_9 : decode b_M_equal 9 = .ok (.iload_n 2, 1) := by decide +kernel
theorem d_M_equal_10 : decode b_M_equal 10 = .ok (.invokevirtual 62, 3) := by decide +kernel
theorem d_M_equal_13 : decode b_M_equal 13 = .ok (.ifCond .ne 5, 3) := by decide +kernel
theorem d_M_equal_16 : decode b_M_equal 16 = .ok (.iconst 0, 1) := by decide +kernel
theorem d_M_equal_17 : decode b_M_equal 17 = .ok (.ireturn, 1) := by decide +kernel
theorem d_M_equal_18 : decode b_M_equal 18 = .ok (.iconst 1, 1) := by decide +kernel
theorem d_M_equal_19 : decode b_M_equal 19 = .ok (.istore_n 3, 1) := by decide +kernel
theorem d_M_equal_20 : decode b_M_equal 20 = .ok (.iconst 0, 1) := by decide +kernel
theorem d_M_equal_21 : decode b_M_equal 21 = .ok (.istore 4, 2) := by decide +kernel
theorem d_M_equal_23 : decode b_M_equal 23 = .ok (.iload 4, 2) := by decide +kernel
theorem d_M_equal_25 : decode b_M_equal 25 = .ok (.aload_n 0, 1) := by decide +kernel
theorem d_M_equal_26 : decode b_M_equal 26 = .ok (.getfield 59, 3) := by decide +kernel
theorem d_M_equal_29 : decode b_M_equal 29 = .ok (.if_icmp .ge 48, 3) := by decide +kernel
theorem d_M_equal_32 : decode b_M_equal 32 = .ok (.iload_n 3, 1) := by decide +kernel
theorem d_M_equal_33 : decode b_M_equal 33 = .ok (.ifCond .eq 44, 3) := by decide +kernel
theorem d_M_equal_36 : decode b_M_equal 36 = .ok (.aload_n 0, 1) := by decide +kernel
theorem d_M_equal_37 : decode b_M_equal 37 = .ok (.getfield 46, 3) := by decide +kernel
theorem d_M_equal_40 : decode b_M_equal 40 = .ok (.iload_n 1, 1) := by decide +kernel
theorem d_M_equal_41 : decode b_M_equal 41 = .ok (.sipush 300, 3) := by decide +kernel
theorem d_M_equal_44 : decode b_M_equal 44 = .ok (.imul, 1) := by decide +kernel
theorem d_M_equal_45 : decode b_M_equal 45 = .ok (.iload 4, 2) := by decide +kernel
theorem d_M_equal_47 : decode b_M_equal 47 = .ok (.iadd, 1) := by decide +kernel
theorem d_M_equal_48 : decode b_M_equal 48 = .ok (.baload, 1) := by decide +kernel
theorem d_M_equal_49 : decode b_M_equal 49 = .ok (.aload_n 0, 1) := by decide +kernel
theorem d_M_equal_50 : decode b_M_equal 50 = .ok (.getfield 46, 3) := by decide +kernel
theorem d_M_equal_53 : decode b_M_equal 53 = .ok (.iload_n 2, 1) := by decide +kernel
theorem d_M_equal_54 : decode b_M_equal 54 = .ok (.sipush 300, 3) := by decide +kernel
theorem d_M_equal_57 : decode b_M_equal 57 = .ok (.imul, 1) := by decide +kernel
theorem d_M_equal_58 : decode b_M_equal 58 = .ok (.iload 4, 2) := by decide +kernel
theorem d_M_equal_60 : decode b_M_equal 60 = .ok (.iadd, 1) := by decide +kernel
theorem d_M_equal_61 : decode b_M_equal 61 = .ok (.baload, 1) := by decide +kernel
theorem d_M_equal_62 : decode b_M_equal 62 = .ok (.if_icmp .ne 7, 3) := by decide +kernel
theorem d_M_equal_65 : decode b_M_equal 65 = .ok (.iconst 1, 1) := by decide +kernel
theorem d_M_equal_66 : decode b_M_equal 66 = .ok (.goto 4, 3) := by decide +kernel
theorem d_M_equal_69 : decode b_M_equal 69 = .ok (.iconst 0, 1) := by decide +kernel
theorem d_M_equal_70 : decode b_M_equal 70 = .ok (.istore_n 3, 1) := by decide +kernel
theorem d_M_equal_71 : decode b_M_equal 71 = .ok (.iinc 4 1, 3) := by decide +kernel
theorem d_M_equal_74 : decode b_M_equal 74 = .ok (.goto (-51), 3) := by decide +kernel
theorem d_M_equal_77 : decode b_M_equal 77 = .ok (.iload_n 3, 1) := by decide +kernel
theorem d_M_equal_78 : decode b_M_equal 78 = .ok (.ireturn, 1) := by decide +kernel
theorem d_M_find_0 : decode b_M_find 0 = .ok (.aload_n 0, 1) := by decide +kernel
theorem d_M_find_1 : decode b_M_find 1 = .ok (.iload_n 1, 1) := by decide +kernel
theorem d_M_find_2 : decode b_M_find 2 = .ok (.invokevirtual 62, 3) := by decide +kernel
theorem d_M_find_5 : decode b_M_find 5 = .ok (.ifCond .eq 8, 3) := by decide +kernel
theorem d_M_find_8 : decode b_M_find 8 = .ok (.iload 5, 2) := by decide +kernel
theorem d_M_find_10 : decode b_M_find 10 = .ok (.ifCond .ge 5, 3) := by decide +kernel
theorem d_M_find_13 : decode b_M_find 13 = .ok (.iconst (-1), 1) := by decide +kernel
theorem d_M_find_14 : decode b_M_find 14 = .ok (.ireturn, 1) := by decide +kernel
theorem d_M_find_15 : decode b_M_find 15 = .ok (.iconst 0, 1) := by decide +kernel
theorem d_M_find_16 : decode b_M_find 16 = .ok (.istore 6, 2) := by decide +kernel
theorem d_M_find_18 : decode b_M_find 18 = .ok (.iload 6, 2) := by decide +kernel
theorem d_M_find_20 : decode b_M_find 20 = .ok (.aload_n 0, 1) := by decide +kernel
theorem d_M_find_21 : decode b_M_find 21 = .ok (.getfield 59, 3) := by decide +kernel
theorem d_M_find_24 : decode b_M_find 24 = .ok (.if_icmp .ge 150, 3) := by decide +kernel
theorem d_M_find_27 : decode b_M_find 27 = .ok (.aload_n 0, 1) := by decide +kernel
theorem d_M_find_28 : decode b_M_find 28 = .ok (.getfield 46, 3) := by decide +kernel
theorem d_M_find_31 : decode b_M_find 31 = .ok (.iload_n 1, 1) := by decide +kernel
theorem d_M_find_32 : decode b_M_find 32 = .ok (.sipush 300, 3) := by decide +kernel
theorem d_M_find_35 : decode b_M_find 35 = .ok (.imul, 1) := by decide +kernel
theorem d_M_find_36 : decode b_M_find 36 = .ok (.iload 6, 2) := by decide +kernel
theorem d_M_find_38 : decode b_M_find 38 = .ok (.iadd, 1) := by decide +kernel
theorem d_M_find_39 : decode b_M_find 39 = .ok (.baload, 1) := by decide +kernel
theorem d_M_find_40 : decode b_M_find 40 = .ok (.ifCond .eq 128, 3) := by decide +kernel
theorem d_M_find_43 : decode b_M_find 43 = .ok (.aload_n 0, 1) := by decide +kernel
theorem d_M_find_44 : decode b_M_find 44 = .ok (.getfield 26, 3) := by decide +kernel
theorem d_M_find_47 : decode b_M_find 47 = .ok (.iload 6, 2) := by decide +kernel
theorem d_M_find_49 : decode b_M_find 49 = .ok (.iaload, 1) := by decide +kernel
theorem d_M_find_50 : decode b_M_find 50 = .ok (.iload_n 2, 1) := by decide +kernel
theorem d_M_find_51 : decode b_M_find 51 = .ok (.if_icmp .ne 117, 3) := by decide +kernel
theorem d_M_find_54 : decode b_M_find 54 = .ok (.aload_n 0, 1) := by decide +kernel
theorem d_M_find_55 : decode b_M_find 55 = .ok (.getfield 32, 3) := by decide +kernel
theorem d_M_find_58 : decode b_M_find 58 = .ok (.iload 6, 2) := by decide +kernel
theorem d_M_find_60 : decode b_M_find 60 = .ok (.laload, 1) := by decide +kernel
theorem d_M_find_61 : decode b_M_find 61 = .ok (.lload_n 3, 1) := by decide +kernel
theorem d_M_find_62 : decode b_M_find 62 = .ok (.lcmp, 1) := by decide +kernel
theorem d_M_find_63 : decode b_M_find 63 = .ok (.ifCond .ne 105, 3) := by decide +kernel
theorem d_M_find_66 : decode b_M_find 66 = .ok (.iconst 0, 1) := by decide +kernel
theorem d_M_find_67 : decode b_M_find 67 = .ok (.istore 7, 2) := by decide +kernel
theorem d_M_find_69 : decode b_M_find 69 = .ok (.iconst 0, 1) := by decide +kernel
theorem d_M_find_70 : decode b_M_find 70 = .ok (.istore 8, 2) := by decide +kernel
theorem d_M_find_72 : decode b_M_find 72 = .ok (.iload 8, 2) := by decide +kernel
theorem d_M_find_74 : decode b_M_find 74 = .ok (.aload_n 0, 1) := by decide +kernel
theorem d_M_find_75 : decode b_M_find 75 = .ok (.getfield 59, 3) := by decide +kernel
theorem d_M_find_78 : decode b_M_find 78 = .ok (.if_icmp .ge 75, 3) := by decide +kernel
theorem d_M_find_81 : decode b_M_find 81 = .ok (.iload 7, 2) := by decide +kernel
theorem d_M_find_83 : decode b_M_find 83 = .ok (.aload_n 0, 1) := by decide +kernel
theorem d_M_find_84 : decode b_M_find 84 = .ok (.getfield 46, 3) := by decide +kernel
theorem d_M_find_87 : decode b_M_find 87 = .ok (.iload_n 1, 1) := by decide +kernel
theorem d_M_find_88 : decode b_M_find 88 = .ok (.sipush 300, 3) := by decide +kernel
theorem d_M_find_91 : decode b_M_find 91 = .ok (.imul, 1) := by decide +kernel
theorem d_M_find_92 : decode b_M_find 92 = .ok (.iload 8, 2) := by decide +kernel
theorem d_M_find_94 : decode b_M_find 94 = .ok (.iadd, 1) := by decide +kernel
theorem d_M_find_95 : decode b_M_find 95 = .ok (.baload, 1) := by decide +kernel
