theorem dL_acts_103 : decode cL_acts 103 = .ok (.iadd, 1) := by decide +kernel
theorem dL_acts_104 : decode cL_acts 104 = .ok (.bipush 30, 2) := by decide +kernel
theorem dL_acts_106 : decode cL_acts 106 = .ok (.iastore, 1) := by decide +kernel
theorem dL_acts_107 : decode cL_acts 107 = .ok (.aload_n 0, 1) := by decide +kernel
theorem dL_acts_108 : decode cL_acts 108 = .ok (.iload 4, 2) := by decide +kernel
theorem dL_acts_110 : decode cL_acts 110 = .ok (.invokevirtual 49, 3) := by decide +kernel
theorem dL_acts_113 : decode cL_acts 113 = .ok (.iload 5, 2) := by decide +kernel
theorem dL_acts_115 : decode cL_acts 115 = .ok (.bipush 30, 2) := by decide +kernel
theorem dL_acts_117 : decode cL_acts 117 = .ok (.if_icmp .ne 8, 3) := by decide +kernel
theorem dL_acts_120 : decode cL_acts 120 = .ok (.bipush (-2), 2) := by decide +kernel
theorem dL_acts_122 : decode cL_acts 122 = .ok (.goto 5, 3) := by decide +kernel
theorem dL_acts_125 : decode cL_acts 125 = .ok (.iload 5, 2) := by decide +kernel
theorem dL_acts_127 : decode cL_acts 127 = .ok (.if_icmp .ne 18, 3) := by decide +kernel
theorem dL_acts_130 : decode cL_acts 130 = .ok (.iload 5, 2) := by decide +kernel
theorem dL_acts_132 : decode cL_acts 132 = .ok (.bipush 30, 2) := by decide +kernel
theorem dL_acts_134 : decode cL_acts 134 = .ok (.if_icmp .ne 7, 3) := by decide +kernel
theorem dL_acts_137 : decode cL_acts 137 = .ok (.iconst 0, 1) := by decide +kernel
theorem dL_acts_138 : decode cL_acts 138 = .ok (.goto 8, 3) := by decide +kernel
theorem dL_acts_141 : decode cL_acts 141 = .ok (.iconst 1, 1) := by decide +kernel
theorem dL_acts_142 : decode cL_acts 142 = .ok (.goto 4, 3) := by decide +kernel
theorem dL_acts_145 : decode cL_acts 145 = .ok (.iconst (-1), 1) := by decide +kernel
theorem dL_acts_146 : decode cL_acts 146 = .ok (.ireturn, 1) := by decide +kernel
theorem dL_acts_147 : decode cL_acts 147 = .ok (.iload_n 2, 1) := by decide +kernel
theorem dL_acts_148 : decode cL_acts 148 = .ok (.bipush 7, 2) := by decide +kernel
theorem dL_acts_150 : decode cL_acts 150 = .ok (.iand, 1) := by decide +kernel
theorem dL_acts_151 : decode cL_acts 151 = .ok (.bipush 6, 2) := by decide +kernel
theorem dL_acts_153 : decode cL_acts 153 = .ok (.if_icmp .ne 7, 3) := by decide +kernel
theorem dL_acts_156 : decode cL_acts 156 = .ok (.iconst 3, 1) := by decide +kernel
theorem dL_acts_157 : decode cL_acts 157 = .ok (.goto 5, 3) := by decide +kernel
theorem dL_acts_160 : decode cL_acts 160 = .ok (.bipush 13, 2) := by decide +kernel
theorem dL_acts_162 : decode cL_acts 162 = .ok (.iload_n 3, 1) := by decide +kernel
theorem dL_acts_163 : decode cL_acts 163 = .ok (.bipush 10, 2) := by decide +kernel
theorem dL_acts_165 : decode cL_acts 165 = .ok (.irem, 1) := by decide +kernel
theorem dL_acts_166 : decode cL_acts 166 = .ok (.iadd, 1) := by decide +kernel
theorem dL_acts_167 : decode cL_acts 167 = .ok (.istore 6, 2) := by decide +kernel
theorem dL_acts_169 : decode cL_acts 169 = .ok (.iload_n 3, 1) := by decide +kernel
theorem dL_acts_170 : decode cL_acts 170 = .ok (.iconst 3, 1) := by decide +kernel
theorem dL_acts_171 : decode cL_acts 171 = .ok (.ishr, 1) := by decide +kernel
theorem dL_acts_172 : decode cL_acts 172 = .ok (.bipush 10, 2) := by decide +kernel
theorem dL_acts_174 : decode cL_acts 174 = .ok (.irem, 1) := by decide +kernel
theorem dL_acts_175 : decode cL_acts 175 = .ok (.istore 7, 2) := by decide +kernel
theorem dL_acts_177 : decode cL_acts 177 = .ok (.aload_n 1, 1) := by decide +kernel
theorem dL_acts_178 : decode cL_acts 178 = .ok (.iload 6, 2) := by decide +kernel
theorem dL_acts_180 : decode cL_acts 180 = .ok (.iaload, 1) := by decide +kernel
theorem dL_acts_181 : decode cL_acts 181 = .ok (.istore 8, 2) := by decide +kernel
theorem dL_acts_183 : decode cL_acts 183 = .ok (.aload_n 1, 1) := by decide +kernel
theorem dL_acts_184 : decode cL_acts 184 = .ok (.iload 6, 2) := by decide +kernel
theorem dL_acts_186 : decode cL_acts 186 = .ok (.iload 7, 2) := by decide +kernel
theorem dL_acts_188 : decode cL_acts 188 = .ok (.iastore, 1) := by decide +kernel
theorem dL_acts_189 : decode cL_acts 189 = .ok (.iload_n 2, 1) := by decide +kernel
theorem dL_acts_190 : decode cL_acts 190 = .ok (.bipush 7, 2) := by decide +kernel
theorem dL_acts_192 : decode cL_acts 192 = .ok (.iand, 1) := by decide +kernel
theorem dL_acts_193 : decode cL_acts 193 = .ok (.bipush 6, 2) := by decide +kernel
theorem dL_acts_195 : decode cL_acts 195 = .ok (.if_icmp .ne 16, 3) := by decide +kernel
theorem dL_acts_198 : decode cL_acts 198 = .ok (.aload_n 0, 1) := by decide +kernel
theorem dL_acts_199 : decode cL_acts 199 = .ok (.iload_n 3, 1) := by decide +kernel
theorem dL_acts_200 : decode cL_acts 200 = .ok (.bipush 10, 2) := by decide +kernel
theorem dL_acts_202 : decode cL_acts 202 = .ok (.irem, 1) := by decide +kernel
theorem dL_acts_203 : decode cL_acts 203 = .ok (.iload 7, 2) := by decide +kernel
theorem dL_acts_205 : decode cL_acts 205 = .ok (.invokevirtual 52, 3) := by decide +kernel
theorem dL_acts_208 : decode cL_acts 208 = .ok (.goto 13, 3) := by decide +kernel
theorem dL_acts_211 : decode cL_acts 211 = .ok (.aload_n 0, 1) := by decide +kernel
theorem dL_acts_212 : decode cL_acts 212 = .ok (.iload_n 3, 1) := by decide +kernel
theorem dL_acts_213 : decode cL_acts 213 = .ok (.bipush 10, 2) := by decide +kernel
theorem dL_acts_215 : decode cL_acts 215 = .ok (.irem, 1) := by decide +kernel
theorem dL_acts_216 : decode cL_acts 216 = .ok (.iload 7, 2) := by decide +kernel
theorem dL_acts_218 : decode cL_acts 218 = .ok (.invokevirtual 56, 3) := by decide +kernel
theorem dL_acts_221 : decode cL_acts 221 = .ok (.iload 8, 2) := by decide +kernel
theorem dL_acts_223 : decode cL_acts 223 = .ok (.iload 7, 2) := by decide +kernel
theorem dL_acts_225 : decode cL_acts 225 = .ok (.if_icmp .ne 8, 3) := by decide +kernel
theorem dL_acts_228 : decode cL_acts 228 = .ok (.bipush (-2), 2) := by decide +kernel
theorem dL_acts_230 : decode cL_acts 230 = .ok (.goto 5, 3) := by decide +kernel
theorem dL_acts_233 : decode cL_acts 233 = .ok (.iload 8, 2) := by decide +kernel
theorem dL_acts_235 : decode cL_acts 235 = .ok (.if_icmp .ne 18, 3) := by decide +kernel
theorem dL_acts_238 : decode cL_acts 238 = .ok (.iload 8, 2) := by decide +kernel
theorem dL_acts_240 : decode cL_acts 240 = .ok (.iload 7, 2) := by decide +kernel
theorem dL_acts_242 : decode cL_acts 242 = .ok (.if_icmp .ne 7, 3) := by decide +kernel
theorem dL_acts_245 : decode cL_acts 245 = .ok (.iconst 0, 1) := by decide +kernel
theorem dL_acts_246 : decode cL_acts 246 = .ok (.goto 8, 3) := by decide +kernel
theorem dL_acts_249 : decode cL_acts 249 = .ok (.iconst 1, 1) := by decide +kernel
theorem dL_acts_250 : decode cL_acts 250 = .ok (.goto 4, 3) := by decide +kernel
theorem dL_acts_253 : decode cL_acts 253 = .ok (.iconst (-1), 1) := by decide +kernel
theorem dL_acts_254 : decode cL_acts 254 = .ok (.ireturn, 1) := by decide +kernel
theorem dL_law_0 : decode cL_law 0 = .ok (.new 10, 3) := by decide +kernel
theorem dL_law_3 : decode cL_law 3 = .ok (.dup, 1) := by decide +kernel
theorem dL_law_4 : decode cL_law 4 = .ok (.invokespecial 72, 3) := by decide +kernel
theorem dL_law_7 : decode cL_law 7 = .ok (.astore_n 1, 1) := by decide +kernel
theorem dL_law_8 : decode cL_law 8 = .ok (.bipush 43, 2) := by decide +kernel
theorem dL_law_10 : decode cL_law 10 = .ok (.newarray .int, 2) := by decide +kernel
theorem dL_law_12 : decode cL_law 12 = .ok (.astore_n 2, 1) := by decide +kernel
theorem dL_law_13 : decode cL_law 13 = .ok (.aload_n 1, 1) := by decide +kernel
theorem dL_law_14 : decode cL_law 14 = .ok (.aload_n 0, 1) := by decide +kernel
theorem dL_law_15 : decode cL_law 15 = .ok (.aload_n 2, 1) := by decide +kernel
theorem dL_law_16 : decode cL_law 16 = .ok (.invokestatic 73, 3) := by decide +kernel
theorem dL_law_19 : decode cL_law 19 = .ok (.ifCond .eq 15, 3) := by decide +kernel
theorem dL_law_22 : decode cL_law 22 = .ok (.aload_n 1, 1) := by decide +kernel
theorem dL_law_23 : decode cL_law 23 = .ok (.aload_n 2, 1) := by decide +kernel
theorem dL_law_24 : decode cL_law 24 = .ok (.invokestatic 77, 3) := by decide +kernel
theorem dL_law_27 : decode cL_law 27 = .ok (.ifCond .eq 7, 3) := by decide +kernel
theorem dL_law_30 : decode cL_law 30 = .ok (.iconst 1, 1) := by decide +kernel
theorem dL_law_31 : decode cL_law 31 = .ok (.goto 4, 3) := by decide +kernel
theorem dL_law_34 : decode cL_law 34 = .ok (.iconst 0, 1) := by decide +kernel
theorem dL_law_35 : decode cL_law 35 = .ok (.istore_n 3, 1) := by decide +kernel
theorem dL_law_36 : decode cL_law 36 = .ok (.iconst 0, 1) := by decide +kernel
theorem dL_law_37 : decode cL_law 37 = .ok (.istore 4, 2) := by decide +kernel
theorem dL_law_39 : decode cL_law 39 = .ok (.iload 4, 2) := by decide +kernel
theorem dL_law_41 : decode cL_law 41 = .ok (.iconst 5, 1) := by decide +kernel
theorem dL_law_42 : decode cL_law 42 = .ok (.if_icmp .ge 51, 3) := by decide +kernel
theorem dL_law_45 : decode cL_law 45 = .ok (.iload_n 3, 1) := by decide +kernel
theorem dL_law_46 : decode cL_law 46 = .ok (.ifCond .eq 47, 3) := by decide +kernel
theorem dL_law_49 : decode cL_law 49 = .ok (.aload_n 1, 1) := by decide +kernel
theorem dL_law_50 : decode cL_law 50 = .ok (.aload_n 2, 1) := by decide +kernel
theorem dL_law_51 : decode cL_law 51 = .ok (.aload_n 0, 1) := by decide +kernel
theorem dL_law_52 : decode cL_law 52 = .ok (.bipush 8, 2) := by decide +kernel
theorem dL_law_54 : decode cL_law 54 = .ok (.iload 4, 2) := by decide +kernel
theorem dL_law_56 : decode cL_law 56 = .ok (.iadd, 1) := by decide +kernel
theorem dL_law_57 : decode cL_law 57 = .ok (.invokestatic 15, 3) := by decide +kernel
theorem dL_law_60 : decode cL_law 60 = .ok (.bipush 9, 2) := by decide +kernel
theorem dL_law_62 : decode cL_law 62 = .ok (.ishr, 1) := by decide +kernel
theorem dL_law_63 : decode cL_law 63 = .ok (.sipush 4095, 3) := by decide +kernel
theorem dL_law_66 : decode cL_law 66 = .ok (.iand, 1) := by decide +kernel
theorem dL_law_67 : decode cL_law 67 = .ok (.invokestatic 80, 3) := by decide +kernel
theorem dL_law_70 : decode cL_law 70 = .ok (.ifCond .lt 15, 3) := by decide +kernel
theorem dL_law_73 : decode cL_law 73 = .ok (.aload_n 1, 1) := by decide +kernel
theorem dL_law_74 : decode cL_law 74 = .ok (.aload_n 2, 1) := by decide +kernel
theorem dL_law_75 : decode cL_law 75 = .ok (.invokestatic 77, 3) := by decide +kernel
theorem dL_law_78 : decode cL_law 78 = .ok (.ifCond .eq 7, 3) := by decide +kernel
theorem dL_law_81 : decode cL_law 81 = .ok (.iconst 1, 1) := by decide +kernel
theorem dL_law_82 : decode cL_law 82 = .ok (.goto 4, 3) := by decide +kernel
theorem dL_law_85 : decode cL_law 85 = .ok (.iconst 0, 1) := by decide +kernel
theorem dL_law_86 : decode cL_law 86 = .ok (.istore_n 3, 1) := by decide +kernel
theorem dL_law_87 : decode cL_law 87 = .ok (.iinc 4 1, 3) := by decide +kernel
theorem dL_law_90 : decode cL_law 90 = .ok (.goto (-51), 3) := by decide +kernel
theorem dL_law_93 : decode cL_law 93 = .ok (.iload_n 3, 1) := by decide +kernel
theorem dL_law_94 : decode cL_law 94 = .ok (.ifCond .eq 15, 3) := by decide +kernel
theorem dL_law_97 : decode cL_law 97 = .ok (.aload_n 1, 1) := by decide +kernel
theorem dL_law_98 : decode cL_law 98 = .ok (.invokevirtual 84, 3) := by decide +kernel
theorem dL_law_101 : decode cL_law 101 = .ok (.iconst 1, 1) := by decide +kernel
theorem dL_law_102 : decode cL_law 102 = .ok (.if_icmp .ne 7, 3) := by decide +kernel
theorem dL_law_105 : decode cL_law 105 = .ok (.iconst 1, 1) := by decide +kernel
theorem dL_law_106 : decode cL_law 106 = .ok (.goto 4, 3) := by decide +kernel
theorem dL_law_109 : decode cL_law 109 = .ok (.iconst 0, 1) := by decide +kernel
theorem dL_law_110 : decode cL_law 110 = .ok (.istore_n 3, 1) := by decide +kernel
theorem dL_law_111 : decode cL_law 111 = .ok (.iload_n 3, 1) := by decide +kernel
theorem dL_law_112 : decode cL_law 112 = .ok (.ifCond .eq 11, 3) := by decide +kernel
theorem dL_law_115 : decode cL_law 115 = .ok (.aload_n 1, 1) := by decide +kernel
theorem dL_law_116 : decode cL_law 116 = .ok (.aload_n 2, 1) := by decide +kernel
theorem dL_law_117 : decode cL_law 117 = .ok (.invokestatic 87, 3) := by decide +kernel
theorem dL_law_120 : decode cL_law 120 = .ok (.goto 4, 3) := by decide +kernel
theorem dL_law_123 : decode cL_law 123 = .ok (.lconst 0, 1) := by decide +kernel
theorem dL_law_124 : decode cL_law 124 = .ok (.lstore 4, 2) := by decide +kernel
theorem dL_law_126 : decode cL_law 126 = .ok (.iload_n 3, 1) := by decide +kernel
theorem dL_law_127 : decode cL_law 127 = .ok (.ifCond .eq 68, 3) := by decide +kernel
theorem dL_law_130 : decode cL_law 130 = .ok (.aload_n 1, 1) := by decide +kernel
theorem dL_law_131 : decode cL_law 131 = .ok (.aload_n 2, 1) := by decide +kernel
theorem dL_law_132 : decode cL_law 132 = .ok (.lload 4, 2) := by decide +kernel
theorem dL_law_134 : decode cL_law 134 = .ok (.invokestatic 91, 3) := by decide +kernel
theorem dL_law_137 : decode cL_law 137 = .ok (.ifCond .eq 58, 3) := by decide +kernel
theorem dL_law_140 : decode cL_law 140 = .ok (.aload_n 1, 1) := by decide +kernel
theorem dL_law_141 : decode cL_law 141 = .ok (.aload_n 0, 1) := by decide +kernel
theorem dL_law_142 : decode cL_law 142 = .ok (.aload_n 2, 1) := by decide +kernel
theorem dL_law_143 : decode cL_law 143 = .ok (.lload 4, 2) := by decide +kernel
theorem dL_law_145 : decode cL_law 145 = .ok (.invokestatic 95, 3) := by decide +kernel
theorem dL_law_148 : decode cL_law 148 = .ok (.ifCond .eq 47, 3) := by decide +kernel
theorem dL_law_151 : decode cL_law 151 = .ok (.aload_n 1, 1) := by decide +kernel
theorem dL_law_152 : decode cL_law 152 = .ok (.aload_n 2, 1) := by decide +kernel
theorem dL_law_153 : decode cL_law 153 = .ok (.lload 4, 2) := by decide +kernel
theorem dL_law_155 : decode cL_law 155 = .ok (.invokestatic 99, 3) := by decide +kernel
theorem dL_law_158 : decode cL_law 158 = .ok (.ifCond .eq 37, 3) := by decide +kernel
theorem dL_law_161 : decode cL_law 161 = .ok (.aload_n 1, 1) := by decide +kernel
theorem dL_law_162 : decode cL_law 162 = .ok (.aload_n 2, 1) := by decide +kernel
theorem dL_law_163 : decode cL_law 163 = .ok (.lload 4, 2) := by decide +kernel
theorem dL_law_165 : decode cL_law 165 = .ok (.invokestatic 102, 3) := by decide +kernel
theorem dL_law_168 : decode cL_law 168 = .ok (.ifCond .eq 27, 3) := by decide +kernel
theorem dL_law_171 : decode cL_law 171 = .ok (.aload_n 1, 1) := by decide +kernel
theorem dL_law_172 : decode cL_law 172 = .ok (.aload_n 0, 1) := by decide +kernel
theorem dL_law_173 : decode cL_law 173 = .ok (.aload_n 2, 1) := by decide +kernel
theorem dL_law_174 : decode cL_law 174 = .ok (.invokestatic 105, 3) := by decide +kernel
theorem dL_law_177 : decode cL_law 177 = .ok (.ifCond .eq 18, 3) := by decide +kernel
theorem dL_law_180 : decode cL_law 180 = .ok (.aload_n 1, 1) := by decide +kernel
theorem dL_law_181 : decode cL_law 181 = .ok (.aload_n 0, 1) := by decide +kernel
theorem dL_law_182 : decode cL_law 182 = .ok (.aload_n 2, 1) := by decide +kernel
theorem dL_law_183 : decode cL_law 183 = .ok (.lload 4, 2) := by decide +kernel
theorem dL_law_185 : decode cL_law 185 = .ok (.invokestatic 108, 3) := by decide +kernel
theorem dL_law_188 : decode cL_law 188 = .ok (.ifCond .eq 7, 3) := by decide +kernel
theorem dL_law_191 : decode cL_law 191 = .ok (.iconst 1, 1) := by decide +kernel
theorem dL_law_192 : decode cL_law 192 = .ok (.goto 4, 3) := by decide +kernel
theorem dL_law_195 : decode cL_law 195 = .ok (.iconst 0, 1) := by decide +kernel
theorem dL_law_196 : decode cL_law 196 = .ok (.istore_n 3, 1) := by decide +kernel
theorem dL_law_197 : decode cL_law 197 = .ok (.aload_n 0, 1) := by decide +kernel
theorem dL_law_198 : decode cL_law 198 = .ok (.bipush 18, 2) := by decide +kernel
theorem dL_law_200 : decode cL_law 200 = .ok (.invokestatic 15, 3) := by decide +kernel
theorem dL_law_203 : decode cL_law 203 = .ok (.istore 6, 2) := by decide +kernel
theorem dL_law_205 : decode cL_law 205 = .ok (.iload_n 3, 1) := by decide +kernel
theorem dL_law_206 : decode cL_law 206 = .ok (.ifCond .eq 12, 3) := by decide +kernel
theorem dL_law_209 : decode cL_law 209 = .ok (.aload_n 1, 1) := by decide +kernel
theorem dL_law_210 : decode cL_law 210 = .ok (.bipush 7, 2) := by decide +kernel
theorem dL_law_212 : decode cL_law 212 = .ok (.invokevirtual 59, 3) := by decide +kernel
theorem dL_law_215 : decode cL_law 215 = .ok (.goto 4, 3) := by decide +kernel
theorem dL_law_218 : decode cL_law 218 = .ok (.iconst 0, 1) := by decide +kernel
theorem dL_law_219 : decode cL_law 219 = .ok (.istore 7, 2) := by decide +kernel
theorem dL_law_221 : decode cL_law 221 = .ok (.iload_n 3, 1) := by decide +kernel
theorem dL_law_222 : decode cL_law 222 = .ok (.ifCond .eq 16, 3) := by decide +kernel
theorem dL_law_225 : decode cL_law 225 = .ok (.aload_n 1, 1) := by decide +kernel
theorem dL_law_226 : decode cL_law 226 = .ok (.iload 6, 2) := by decide +kernel
theorem dL_law_228 : decode cL_law 228 = .ok (.invokevirtual 111, 3) := by decide +kernel
theorem dL_law_231 : decode cL_law 231 = .ok (.ifCond .lt 7, 3) := by decide +kernel
theorem dL_law_234 : decode cL_law 234 = .ok (.iconst 1, 1) := by decide +kernel
theorem dL_law_235 : decode cL_law 235 = .ok (.goto 4, 3) := by decide +kernel
theorem dL_law_238 : decode cL_law 238 = .ok (.iconst 0, 1) := by decide +kernel
theorem dL_law_239 : decode cL_law 239 = .ok (.istore_n 3, 1) := by decide +kernel
theorem dL_law_240 : decode cL_law 240 = .ok (.iload_n 3, 1) := by decide +kernel
theorem dL_law_241 : decode cL_law 241 = .ok (.ifCond .eq 12, 3) := by decide +kernel
theorem dL_law_244 : decode cL_law 244 = .ok (.aload_n 1, 1) := by decide +kernel
theorem dL_law_245 : decode cL_law 245 = .ok (.bipush 8, 2) := by decide +kernel
theorem dL_law_247 : decode cL_law 247 = .ok (.invokevirtual 114, 3) := by decide +kernel
theorem dL_law_250 : decode cL_law 250 = .ok (.goto 4, 3) := by decide +kernel
theorem dL_law_253 : decode cL_law 253 = .ok (.iconst 0, 1) := by decide +kernel
theorem dL_law_254 : decode cL_law 254 = .ok (.istore 8, 2) := by decide +kernel
theorem dL_law_256 : decode cL_law 256 = .ok (.iload_n 3, 1) := by decide +kernel
theorem dL_law_257 : decode cL_law 257 = .ok (.ifCond .eq 11, 3) := by decide +kernel
theorem dL_law_260 : decode cL_law 260 = .ok (.aload_n 1, 1) := by decide +kernel
theorem dL_law_261 : decode cL_law 261 = .ok (.aload_n 2, 1) := by decide +kernel
theorem dL_law_262 : decode cL_law 262 = .ok (.invokestatic 87, 3) := by decide +kernel
theorem dL_law_265 : decode cL_law 265 = .ok (.goto 4, 3) := by decide +kernel
theorem dL_law_268 : decode cL_law 268 = .ok (.lconst 0, 1) := by decide +kernel
theorem dL_law_269 : decode cL_law 269 = .ok (.lstore 9, 2) := by decide +kernel
theorem dL_law_271 : decode cL_law 271 = .ok (.iload_n 3, 1) := by decide +kernel
theorem dL_law_272 : decode cL_law 272 = .ok (.ifCond .eq 25, 3) := by decide +kernel
theorem dL_law_275 : decode cL_law 275 = .ok (.iload 8, 2) := by decide +kernel
theorem dL_law_277 : decode cL_law 277 = .ok (.aload_n 1, 1) := by decide +kernel
theorem dL_law_278 : decode cL_law 278 = .ok (.iconst 3, 1) := by decide +kernel
theorem dL_law_279 : decode cL_law 279 = .ok (.invokevirtual 59, 3) := by decide +kernel
theorem dL_law_282 : decode cL_law 282 = .ok (.if_icmp .ne 15, 3) := by decide +kernel
theorem dL_law_285 : decode cL_law 285 = .ok (.aload_n 1, 1) := by decide +kernel
theorem dL_law_286 : decode cL_law 286 = .ok (.aload_n 2, 1) := by decide +kernel
theorem dL_law_287 : decode cL_law 287 = .ok (.invokestatic 77, 3) := by decide +kernel
theorem dL_law_290 : decode cL_law 290 = .ok (.ifCond .eq 7, 3) := by decide +kernel
theorem dL_law_293 : decode cL_law 293 = .ok (.iconst 1, 1) := by decide +kernel
theorem dL_law_294 : decode cL_law 294 = .ok (.goto 4, 3) := by decide +kernel
theorem dL_law_297 : decode cL_law 297 = .ok (.iconst 0, 1) := by decide +kernel
theorem dL_law_298 : decode cL_law 298 = .ok (.istore_n 3, 1) := by decide +kernel
theorem dL_law_299 : decode cL_law 299 = .ok (.iconst 0, 1) := by decide +kernel
theorem dL_law_300 : decode cL_law 300 = .ok (.istore 11, 2) := by decide +kernel
theorem dL_law_302 : decode cL_law 302 = .ok (.iload 11, 2) := by decide +kernel
theorem dL_law_304 : decode cL_law 304 = .ok (.bipush 8, 2) := by decide +kernel
theorem dL_law_306 : decode cL_law 306 = .ok (.if_icmp .ge 31, 3) := by decide +kernel
theorem dL_law_309 : decode cL_law 309 = .ok (.iload_n 3, 1) := by decide +kernel
theorem dL_law_310 : decode cL_law 310 = .ok (.ifCond .eq 27, 3) := by decide +kernel
theorem dL_law_313 : decode cL_law 313 = .ok (.aload_n 1, 1) := by decide +kernel
theorem dL_law_314 : decode cL_law 314 = .ok (.invokevirtual 117, 3) := by decide +kernel
theorem dL_law_317 : decode cL_law 317 = .ok (.bipush 7, 2) := by decide +kernel
theorem dL_law_319 : decode cL_law 319 = .ok (.iload 11, 2) := by decide +kernel
theorem dL_law_321 : decode cL_law 321 = .ok (.isub, 1) := by decide +kernel
theorem dL_law_322 : decode cL_law 322 = .ok (.if_icmp .ne 7, 3) := by decide +kernel
theorem dL_law_325 : decode cL_law 325 = .ok (.iconst 1, 1) := by decide +kernel
theorem dL_law_326 : decode cL_law 326 = .ok (.goto 4, 3) := by decide +kernel
theorem dL_law_329 : decode cL_law 329 = .ok (.iconst 0, 1) := by decide +kernel
theorem dL_law_330 : decode cL_law 330 = .ok (.istore_n 3, 1) := by decide +kernel
theorem dL_law_331 : decode cL_law 331 = .ok (.iinc 11 1, 3) := by decide +kernel
theorem dL_law_334 : decode cL_law 334 = .ok (.goto (-32), 3) := by decide +kernel
theorem dL_law_337 : decode cL_law 337 = .ok (.iload_n 3, 1) := by decide +kernel
theorem dL_law_338 : decode cL_law 338 = .ok (.ifCond .eq 49, 3) := by decide +kernel
theorem dL_law_341 : decode cL_law 341 = .ok (.aload_n 1, 1) := by decide +kernel
theorem dL_law_342 : decode cL_law 342 = .ok (.aload_n 2, 1) := by decide +kernel
theorem dL_law_343 : decode cL_law 343 = .ok (.invokestatic 87, 3) := by decide +kernel
theorem dL_law_346 : decode cL_law 346 = .ok (.lload 4, 2) := by decide +kernel
theorem dL_law_348 : decode cL_law 348 = .ok (.lcmp, 1) := by decide +kernel
theorem dL_law_349 : decode cL_law 349 = .ok (.ifCond .ne 38, 3) := by decide +kernel
theorem dL_law_352 : decode cL_law 352 = .ok (.aload_n 1, 1) := by decide +kernel
theorem dL_law_353 : decode cL_law 353 = .ok (.invokevirtual 117, 3) := by decide +kernel
theorem dL_law_356 : decode cL_law 356 = .ok (.bipush (-4), 2) := by decide +kernel
theorem dL_law_358 : decode cL_law 358 = .ok (.if_icmp .ne 29, 3) := by decide +kernel
theorem dL_law_361 : decode cL_law 361 = .ok (.aload_n 1, 1) := by decide +kernel
theorem dL_law_362 : decode cL_law 362 = .ok (.bipush 8, 2) := by decide +kernel
theorem dL_law_364 : decode cL_law 364 = .ok (.invokevirtual 114, 3) := by decide +kernel
theorem dL_law_367 : decode cL_law 367 = .ok (.iload 8, 2) := by decide +kernel
theorem dL_law_369 : decode cL_law 369 = .ok (.if_icmp .ne 18, 3) := by decide +kernel
theorem dL_law_372 : decode cL_law 372 = .ok (.aload_n 1, 1) := by decide +kernel
theorem dL_law_373 : decode cL_law 373 = .ok (.aload_n 2, 1) := by decide +kernel
theorem dL_law_374 : decode cL_law 374 = .ok (.invokestatic 87, 3) := by decide +kernel
theorem dL_law_377 : decode cL_law 377 = .ok (.lload 9, 2) := by decide +kernel
theorem dL_law_379 : decode cL_law 379 = .ok (.lcmp, 1) := by decide +kernel
theorem dL_law_380 : decode cL_law 380 = .ok (.ifCond .ne 7, 3) := by decide +kernel
theorem dL_law_383 : decode cL_law 383 = .ok (.iconst 1, 1) := by decide +kernel
theorem dL_law_384 : decode cL_law 384 = .ok (.goto 4, 3) := by decide +kernel
theorem dL_law_387 : decode cL_law 387 = .ok (.iconst 0, 1) := by decide +kernel
theorem dL_law_388 : decode cL_law 388 = .ok (.istore_n 3, 1) := by decide +kernel
theorem dL_law_389 : decode cL_law 389 = .ok (.iload_n 3, 1) := by decide +kernel
theorem dL_law_390 : decode cL_law 390 = .ok (.ifCond .eq 37, 3) := by decide +kernel
theorem dL_law_393 : decode cL_law 393 = .ok (.aload_n 1, 1) := by decide +kernel
theorem dL_law_394 : decode cL_law 394 = .ok (.invokevirtual 120, 3) := by decide +kernel
theorem dL_law_397 : decode cL_law 397 = .ok (.iconst 1, 1) := by decide +kernel
theorem dL_law_398 : decode cL_law 398 = .ok (.if_icmp .ne 29, 3) := by decide +kernel
theorem dL_law_401 : decode cL_law 401 = .ok (.aload_n 1, 1) := by decide +kernel
theorem dL_law_402 : decode cL_law 402 = .ok (.bipush 7, 2) := by decide +kernel
theorem dL_law_404 : decode cL_law 404 = .ok (.invokevirtual 59, 3) := by decide +kernel
theorem dL_law_407 : decode cL_law 407 = .ok (.iload 7, 2) := by decide +kernel
theorem dL_law_409 : decode cL_law 409 = .ok (.if_icmp .ne 18, 3) := by decide +kernel
theorem dL_law_412 : decode cL_law 412 = .ok (.aload_n 1, 1) := by decide +kernel
theorem dL_law_413 : decode cL_law 413 = .ok (.aload_n 2, 1) := by decide +kernel
theorem dL_law_414 : decode cL_law 414 = .ok (.invokestatic 87, 3) := by decide +kernel
theorem dL_law_417 : decode cL_law 417 = .ok (.lload 4, 2) := by decide +kernel
theorem dL_law_419 : decode cL_law 419 = .ok (.lcmp, 1) := by decide +kernel
theorem dL_law_420 : decode cL_law 420 = .ok (.ifCond .ne 7, 3) := by decide +kernel
theorem dL_law_423 : decode cL_law 423 = .ok (.iconst 1, 1) := by decide +kernel
theorem dL_law_424 : decode cL_law 424 = .ok (.goto 4, 3) := by decide +kernel
theorem dL_law_427 : decode cL_law 427 = .ok (.iconst 0, 1) := by decide +kernel
theorem dL_law_428 : decode cL_law 428 = .ok (.ireturn, 1) := by decide +kernel
theorem dL_hash_0 : decode cL_hash 0 = .ok (.ldc2_w 123, 3) := by decide +kernel
theorem dL_hash_3 : decode cL_hash 3 = .ok (.lstore_n 2, 1) := by decide +kernel
theorem dL_hash_4 : decode cL_hash 4 = .ok (.iconst 0, 1) := by decide +kernel
theorem dL_hash_5 : decode cL_hash 5 = .ok (.istore 4, 2) := by decide +kernel
theorem dL_hash_7 : decode cL_hash 7 = .ok (.iload 4, 2) := by decide +kernel
theorem dL_hash_9 : decode cL_hash 9 = .ok (.bipush 7, 2) := by decide +kernel
theorem dL_hash_11 : decode cL_hash 11 = .ok (.if_icmp .ge 23, 3) := by decide +kernel
theorem dL_hash_14 : decode cL_hash 14 = .ok (.ldc2_w 125, 3) := by decide +kernel
theorem dL_hash_17 : decode cL_hash 17 = .ok (.lload_n 2, 1) := by decide +kernel
theorem dL_hash_18 : decode cL_hash 18 = .ok (.lmul, 1) := by decide +kernel
theorem dL_hash_19 : decode cL_hash 19 = .ok (.aload_n 0, 1) := by decide +kernel
theorem dL_hash_20 : decode cL_hash 20 = .ok (.iload 4, 2) := by decide +kernel
theorem dL_hash_22 : decode cL_hash 22 = .ok (.invokevirtual 59, 3) := by decide +kernel
theorem dL_hash_25 : decode cL_hash 25 = .ok (.i2l, 1) := by decide +kernel
theorem dL_hash_26 : decode cL_hash 26 = .ok (.ladd, 1) := by decide +kernel
theorem dL_hash_27 : decode cL_hash 27 = .ok (.lstore_n 2, 1) := by decide +kernel
theorem dL_hash_28 : decode cL_hash 28 = .ok (.iinc 4 1, 3) := by decide +kernel
theorem dL_hash_31 : decode cL_hash 31 = .ok (.goto (-24), 3) := by decide +kernel
theorem dL_hash_34 : decode cL_hash 34 = .ok (.iconst 0, 1) := by decide +kernel
theorem dL_hash_35 : decode cL_hash 35 = .ok (.istore 4, 2) := by decide +kernel
theorem dL_hash_37 : decode cL_hash 37 = .ok (.iload 4, 2) := by decide +kernel
theorem dL_hash_39 : decode cL_hash 39 = .ok (.bipush 10, 2) := by decide +kernel
theorem dL_hash_41 : decode cL_hash 41 = .ok (.if_icmp .ge 37, 3) := by decide +kernel
theorem dL_hash_44 : decode cL_hash 44 = .ok (.ldc2_w 125, 3) := by decide +kernel
theorem dL_hash_47 : decode cL_hash 47 = .ok (.ldc2_w 125, 3) := by decide +kernel
theorem dL_hash_50 : decode cL_hash 50 = .ok (.lload_n 2, 1) := by decide +kernel
theorem dL_hash_51 : decode cL_hash 51 = .ok (.lmul, 1) := by decide +kernel
theorem dL_hash_52 : decode cL_hash 52 = .ok (.aload_n 0, 1) := by decide +kernel
theorem dL_hash_53 : decode cL_hash 53 = .ok (.iload 4, 2) := by decide +kernel
theorem dL_hash_55 : decode cL_hash 55 = .ok (.iconst 0, 1) := by decide +kernel
theorem dL_hash_56 : decode cL_hash 56 = .ok (.invokevirtual 66, 3) := by decide +kernel
theorem dL_hash_59 : decode cL_hash 59 = .ok (.i2l, 1) := by decide +kernel
theorem dL_hash_60 : decode cL_hash 60 = .ok (.ladd, 1) := by decide +kernel
theorem dL_hash_61 : decode cL_hash 61 = .ok (.lmul, 1) := by decide +kernel
theorem dL_hash_62 : decode cL_hash 62 = .ok (.aload_n 0, 1) := by decide +kernel
theorem dL_hash_63 : decode cL_hash 63 = .ok (.iload 4, 2) := by decide +kernel
theorem dL_hash_65 : decode cL_hash 65 = .ok (.iconst 1, 1) := by decide +kernel
theorem dL_hash_66 : decode cL_hash 66 = .ok (.invokevirtual 66, 3) := by decide +kernel
theorem dL_hash_69 : decode cL_hash 69 = .ok (.i2l, 1) := by decide +kernel
theorem dL_hash_70 : decode cL_hash 70 = .ok (.ladd, 1) := by decide +kernel
theorem dL_hash_71 : decode cL_hash 71 = .ok (.lstore_n 2, 1) := by decide +kernel
theorem dL_hash_72 : decode cL_hash 72 = .ok (.iinc 4 1, 3) := by decide +kernel
theorem dL_hash_75 : decode cL_hash 75 = .ok (.goto (-38), 3) := by decide +kernel
theorem dL_hash_78 : decode cL_hash 78 = .ok (.iconst 0, 1) := by decide +kernel
theorem dL_hash_79 : decode cL_hash 79 = .ok (.istore 4, 2) := by decide +kernel
theorem dL_hash_81 : decode cL_hash 81 = .ok (.iload 4, 2) := by decide +kernel
theorem dL_hash_83 : decode cL_hash 83 = .ok (.aload_n 1, 1) := by decide +kernel
theorem dL_hash_84 : decode cL_hash 84 = .ok (.iconst 0, 1) := by decide +kernel
theorem dL_hash_85 : decode cL_hash 85 = .ok (.iaload, 1) := by decide +kernel
theorem dL_hash_86 : decode cL_hash 86 = .ok (.if_icmp .ge 37, 3) := by decide +kernel
theorem dL_hash_89 : decode cL_hash 89 = .ok (.ldc2_w 125, 3) := by decide +kernel
theorem dL_hash_92 : decode cL_hash 92 = .ok (.ldc2_w 125, 3) := by decide +kernel
theorem dL_hash_95 : decode cL_hash 95 = .ok (.lload_n 2, 1) := by decide +kernel
theorem dL_hash_96 : decode cL_hash 96 = .ok (.lmul, 1) := by decide +kernel
theorem dL_hash_97 : decode cL_hash 97 = .ok (.aload_n 0, 1) := by decide +kernel
theorem dL_hash_98 : decode cL_hash 98 = .ok (.iload 4, 2) := by decide +kernel
theorem dL_hash_100 : decode cL_hash 100 = .ok (.iconst 2, 1) := by decide +kernel
theorem dL_hash_101 : decode cL_hash 101 = .ok (.invokevirtual 69, 3) := by decide +kernel
theorem dL_hash_104 : decode cL_hash 104 = .ok (.i2l, 1) := by decide +kernel
theorem dL_hash_105 : decode cL_hash 105 = .ok (.ladd, 1) := by decide +kernel
theorem dL_hash_106 : decode cL_hash 106 = .ok (.lmul, 1) := by decide +kernel
theorem dL_hash_107 : decode cL_hash 107 = .ok (.aload_n 0, 1) := by decide +kernel
theorem dL_hash_108 : decode cL_hash 108 = .ok (.iload 4, 2) := by decide +kernel
theorem dL_hash_110 : decode cL_hash 110 = .ok (.iconst 3, 1) := by decide +kernel
theorem dL_hash_111 : decode cL_hash 111 = .ok (.invokevirtual 69, 3) := by decide +kernel
theorem dL_hash_114 : decode cL_hash 114 = .ok (.i2l, 1) := by decide +kernel
theorem dL_hash_115 : decode cL_hash 115 = .ok (.ladd, 1) := by decide +kernel
theorem dL_hash_116 : decode cL_hash 116 = .ok (.lstore_n 2, 1) := by decide +kernel
theorem dL_hash_117 : decode cL_hash 117 = .ok (.iinc 4 1, 3) := by decide +kernel
theorem dL_hash_120 : decode cL_hash 120 = .ok (.goto (-39), 3) := by decide +kernel
theorem dL_hash_123 : decode cL_hash 123 = .ok (.lload_n 2, 1) := by decide +kernel
theorem dL_hash_124 : decode cL_hash 124 = .ok (.lreturn, 1) := by decide +kernel
theorem dL_stands_0 : decode cL_stands 0 = .ok (.iconst 0, 1) := by decide +kernel
theorem dL_stands_1 : decode cL_stands 1 = .ok (.istore_n 2, 1) := by decide +kernel
theorem dL_stands_2 : decode cL_stands 2 = .ok (.iconst 0, 1) := by decide +kernel
theorem dL_stands_3 : decode cL_stands 3 = .ok (.istore_n 3, 1) := by decide +kernel
theorem dL_stands_4 : decode cL_stands 4 = .ok (.iconst 0, 1) := by decide +kernel
theorem dL_stands_5 : decode cL_stands 5 = .ok (.istore 4, 2) := by decide +kernel
theorem dL_stands_7 : decode cL_stands 7 = .ok (.iconst 0, 1) := by decide +kernel
theorem dL_stands_8 : decode cL_stands 8 = .ok (.istore 5, 2) := by decide +kernel
theorem dL_stands_10 : decode cL_stands 10 = .ok (.iconst 0, 1) := by decide +kernel
theorem dL_stands_11 : decode cL_stands 11 = .ok (.istore 6, 2) := by decide +kernel
theorem dL_stands_13 : decode cL_stands 13 = .ok (.iconst 1, 1) := by decide +kernel
theorem dL_stands_14 : decode cL_stands 14 = .ok (.istore 7, 2) := by decide +kernel
theorem dL_stands_16 : decode cL_stands 16 = .ok (.iconst 0, 1) := by decide +kernel
theorem dL_stands_17 : decode cL_stands 17 = .ok (.istore 8, 2) := by decide +kernel
theorem dL_stands_19 : decode cL_stands 19 = .ok (.iload 8, 2) := by decide +kernel
theorem dL_stands_21 : decode cL_stands 21 = .ok (.aload_n 1, 1) := by decide +kernel
theorem dL_stands_22 : decode cL_stands 22 = .ok (.iconst 0, 1) := by decide +kernel
theorem dL_stands_23 : decode cL_stands 23 = .ok (.iaload, 1) := by decide +kernel
theorem dL_stands_24 : decode cL_stands 24 = .ok (.if_icmp .ge 162, 3) := by decide +kernel
theorem dL_stands_27 : decode cL_stands 27 = .ok (.iload 7, 2) := by decide +kernel
theorem dL_stands_29 : decode cL_stands 29 = .ok (.ifCond .eq 157, 3) := by decide +kernel
theorem dL_stands_32 : decode cL_stands 32 = .ok (.aload_n 0, 1) := by decide +kernel
theorem dL_stands_33 : decode cL_stands 33 = .ok (.iload 8, 2) := by decide +kernel
theorem dL_stands_35 : decode cL_stands 35 = .ok (.iconst 3, 1) := by decide +kernel
theorem dL_stands_36 : decode cL_stands 36 = .ok (.invokevirtual 69, 3) := by decide +kernel
theorem dL_stands_39 : decode cL_stands 39 = .ok (.istore 9, 2) := by decide +kernel
theorem dL_stands_41 : decode cL_stands 41 = .ok (.iload 9, 2) := by decide +kernel
theorem dL_stands_43 : decode cL_stands 43 = .ok (.bipush 30, 2) := by decide +kernel
theorem dL_stands_45 : decode cL_stands 45 = .ok (.if_icmp .eq 57, 3) := by decide +kernel
theorem dL_stands_48 : decode cL_stands 48 = .ok (.iload 9, 2) := by decide +kernel
theorem dL_stands_50 : decode cL_stands 50 = .ok (.ifCond .lt 10, 3) := by decide +kernel
theorem dL_stands_53 : decode cL_stands 53 = .ok (.iload 9, 2) := by decide +kernel
theorem dL_stands_55 : decode cL_stands 55 = .ok (.bipush 8, 2) := by decide +kernel
theorem dL_stands_57 : decode cL_stands 57 = .ok (.if_icmp .lt 45, 3) := by decide +kernel
theorem dL_stands_60 : decode cL_stands 60 = .ok (.iload 9, 2) := by decide +kernel
theorem dL_stands_62 : decode cL_stands 62 = .ok (.bipush 9, 2) := by decide +kernel
theorem dL_stands_64 : decode cL_stands 64 = .ok (.if_icmp .le 42, 3) := by decide +kernel
theorem dL_stands_67 : decode cL_stands 67 = .ok (.iload 9, 2) := by decide +kernel
theorem dL_stands_69 : decode cL_stands 69 = .ok (.bipush 20, 2) := by decide +kernel
theorem dL_stands_71 : decode cL_stands 71 = .ok (.if_icmp .ge 35, 3) := by decide +kernel
theorem dL_stands_74 : decode cL_stands 74 = .ok (.iload 4, 2) := by decide +kernel
theorem dL_stands_76 : decode cL_stands 76 = .ok (.iload 9, 2) := by decide +kernel
theorem dL_stands_78 : decode cL_stands 78 = .ok (.bipush 10, 2) := by decide +kernel
theorem dL_stands_80 : decode cL_stands 80 = .ok (.isub, 1) := by decide +kernel
theorem dL_stands_81 : decode cL_stands 81 = .ok (.ishr, 1) := by decide +kernel
theorem dL_stands_82 : decode cL_stands 82 = .ok (.iconst 1, 1) := by decide +kernel
theorem dL_stands_83 : decode cL_stands 83 = .ok (.iand, 1) := by decide +kernel
theorem dL_stands_84 : decode cL_stands 84 = .ok (.ifCond .ne 22, 3) := by decide +kernel
theorem dL_stands_87 : decode cL_stands 87 = .ok (.aload_n 0, 1) := by decide +kernel
theorem dL_stands_88 : decode cL_stands 88 = .ok (.iload 9, 2) := by decide +kernel
theorem dL_stands_90 : decode cL_stands 90 = .ok (.bipush 10, 2) := by decide +kernel
theorem dL_stands_92 : decode cL_stands 92 = .ok (.isub, 1) := by decide +kernel
theorem dL_stands_93 : decode cL_stands 93 = .ok (.iconst 2, 1) := by decide +kernel
theorem dL_stands_94 : decode cL_stands 94 = .ok (.invokevirtual 66, 3) := by decide +kernel
theorem dL_stands_97 : decode cL_stands 97 = .ok (.iload 8, 2) := by decide +kernel
theorem dL_stands_99 : decode cL_stands 99 = .ok (.if_icmp .ne 7, 3) := by decide +kernel
theorem dL_stands_102 : decode cL_stands 102 = .ok (.iconst 1, 1) := by decide +kernel
theorem dL_stands_103 : decode cL_stands 103 = .ok (.goto 4, 3) := by decide +kernel
theorem dL_stands_106 : decode cL_stands 106 = .ok (.iconst 0, 1) := by decide +kernel
theorem dL_stands_107 : decode cL_stands 107 = .ok (.istore 7, 2) := by decide +kernel
theorem dL_stands_109 : decode cL_stands 109 = .ok (.iload_n 2, 1) := by decide +kernel
theorem dL_stands_110 : decode cL_stands 110 = .ok (.iload 9, 2) := by decide +kernel
theorem dL_stands_112 : decode cL_stands 112 = .ok (.bipush 30, 2) := by decide +kernel
theorem dL_stands_114 : decode cL_stands 114 = .ok (.if_icmp .ne 10, 3) := by decide +kernel
theorem dL_stands_117 : decode cL_stands 117 = .ok (.iconst 1, 1) := by decide +kernel
theorem dL_stands_118 : decode cL_stands 118 = .ok (.iload 8, 2) := by decide +kernel
theorem dL_stands_120 : decode cL_stands 120 = .ok (.ishl, 1) := by decide +kernel
theorem dL_stands_121 : decode cL_stands 121 = .ok (.goto 4, 3) := by decide +kernel
theorem dL_stands_124 : decode cL_stands 124 = .ok (.iconst 0, 1) := by decide +kernel
theorem dL_stands_125 : decode cL_stands 125 = .ok (.ior, 1) := by decide +kernel
theorem dL_stands_126 : decode cL_stands 126 = .ok (.istore_n 2, 1) := by decide +kernel
theorem dL_stands_127 : decode cL_stands 127 = .ok (.iload_n 3, 1) := by decide +kernel
theorem dL_stands_128 : decode cL_stands 128 = .ok (.iload 9, 2) := by decide +kernel
theorem dL_stands_130 : decode cL_stands 130 = .ok (.bipush 8, 2) := by decide +kernel
theorem dL_stands_132 : decode cL_stands 132 = .ok (.if_icmp .ge 10, 3) := by decide +kernel
theorem dL_stands_135 : decode cL_stands 135 = .ok (.iconst 1, 1) := by decide +kernel
theorem dL_stands_136 : decode cL_stands 136 = .ok (.iload 8, 2) := by decide +kernel
theorem dL_stands_138 : decode cL_stands 138 = .ok (.ishl, 1) := by decide +kernel
theorem dL_stands_139 : decode cL_stands 139 = .ok (.goto 4, 3) := by decide +kernel
theorem dL_stands_142 : decode cL_stands 142 = .ok (.iconst 0, 1) := by decide +kernel
theorem dL_stands_143 : decode cL_stands 143 = .ok (.ior, 1) := by decide +kernel
theorem dL_stands_144 : decode cL_stands 144 = .ok (.istore_n 3, 1) := by decide +kernel
theorem dL_stands_145 : decode cL_stands 145 = .ok (.iload 4, 2) := by decide +kernel
theorem dL_stands_147 : decode cL_stands 147 = .ok (.iload 7, 2) := by decide +kernel
theorem dL_stands_149 : decode cL_stands 149 = .ok (.ifCond .eq 27, 3) := by decide +kernel
theorem dL_stands_152 : decode cL_stands 152 = .ok (.iload 9, 2) := by decide +kernel
theorem dL_stands_154 : decode cL_stands 154 = .ok (.bipush 9, 2) := by decide +kernel
theorem dL_stands_156 : decode cL_stands 156 = .ok (.if_icmp .le 20, 3) := by decide +kernel
theorem dL_stands_159 : decode cL_stands 159 = .ok (.iload 9, 2) := by decide +kernel
theorem dL_stands_161 : decode cL_stands 161 = .ok (.bipush 20, 2) := by decide +kernel
theorem dL_stands_163 : decode cL_stands 163 = .ok (.if_icmp .ge 13, 3) := by decide +kernel
theorem dL_stands_166 : decode cL_stands 166 = .ok (.iconst 1, 1) := by decide +kernel
theorem dL_stands_167 : decode cL_stands 167 = .ok (.iload 9, 2) := by decide +kernel
theorem dL_stands_169 : decode cL_stands 169 = .ok (.bipush 10, 2) := by decide +kernel
theorem dL_stands_171 : decode cL_stands 171 = .ok (.isub, 1) := by decide +kernel
theorem dL_stands_172 : decode cL_stands 172 = .ok (.ishl, 1) := by decide +kernel
theorem dL_stands_173 : decode cL_stands 173 = .ok (.goto 4, 3) := by decide +kernel
theorem dL_stands_176 : decode cL_stands 176 = .ok (.iconst 0, 1) := by decide +kernel
theorem dL_stands_177 : decode cL_stands 177 = .ok (.ior, 1) := by decide +kernel
theorem dL_stands_178 : decode cL_stands 178 = .ok (.istore 4, 2) := by decide +kernel
theorem dL_stands_180 : decode cL_stands 180 = .ok (.iinc 8 1, 3) := by decide +kernel
theorem dL_stands_183 : decode cL_stands 183 = .ok (.goto (-164), 3) := by decide +kernel
theorem dL_stands_186 : decode cL_stands 186 = .ok (.iconst 0, 1) := by decide +kernel
theorem dL_stands_187 : decode cL_stands 187 = .ok (.istore 8, 2) := by decide +kernel
theorem dL_stands_189 : decode cL_stands 189 = .ok (.iload 8, 2) := by decide +kernel
theorem dL_stands_191 : decode cL_stands 191 = .ok (.bipush 10, 2) := by decide +kernel
theorem dL_stands_193 : decode cL_stands 193 = .ok (.if_icmp .ge 124, 3) := by decide +kernel
theorem dL_stands_196 : decode cL_stands 196 = .ok (.iload 7, 2) := by decide +kernel
theorem dL_stands_198 : decode cL_stands 198 = .ok (.ifCond .eq 119, 3) := by decide +kernel
theorem dL_stands_201 : decode cL_stands 201 = .ok (.iload 5, 2) := by decide +kernel
theorem dL_stands_203 : decode cL_stands 203 = .ok (.aload_n 0, 1) := by decide +kernel
theorem dL_stands_204 : decode cL_stands 204 = .ok (.iload 8, 2) := by decide +kernel
theorem dL_stands_206 : decode cL_stands 206 = .ok (.iconst 0, 1) := by decide +kernel
theorem dL_stands_207 : decode cL_stands 207 = .ok (.invokevirtual 66, 3) := by decide +kernel
theorem dL_stands_210 : decode cL_stands 210 = .ok (.iadd, 1) := by decide +kernel
theorem dL_stands_211 : decode cL_stands 211 = .ok (.istore 5, 2) := by decide +kernel
theorem dL_stands_213 : decode cL_stands 213 = .ok (.iload 6, 2) := by decide +kernel
theorem dL_stands_215 : decode cL_stands 215 = .ok (.aload_n 0, 1) := by decide +kernel
theorem dL_stands_216 : decode cL_stands 216 = .ok (.iload 8, 2) := by decide +kernel
theorem dL_stands_218 : decode cL_stands 218 = .ok (.iconst 1, 1) := by decide +kernel
theorem dL_stands_219 : decode cL_stands 219 = .ok (.invokevirtual 66, 3) := by decide +kernel
theorem dL_stands_222 : decode cL_stands 222 = .ok (.iadd, 1) := by decide +kernel
theorem dL_stands_223 : decode cL_stands 223 = .ok (.istore 6, 2) := by decide +kernel
theorem dL_stands_225 : decode cL_stands 225 = .ok (.aload_n 0, 1) := by decide +kernel
theorem dL_stands_226 : decode cL_stands 226 = .ok (.iload 8, 2) := by decide +kernel
theorem dL_stands_228 : decode cL_stands 228 = .ok (.iconst 0, 1) := by decide +kernel
theorem dL_stands_229 : decode cL_stands 229 = .ok (.invokevirtual 66, 3) := by decide +kernel
theorem dL_stands_232 : decode cL_stands 232 = .ok (.ifCond .lt 76, 3) := by decide +kernel
theorem dL_stands_235 : decode cL_stands 235 = .ok (.aload_n 0, 1) := by decide +kernel
theorem dL_stands_236 : decode cL_stands 236 = .ok (.iload 8, 2) := by decide +kernel
theorem dL_stands_238 : decode cL_stands 238 = .ok (.iconst 0, 1) := by decide +kernel
theorem dL_stands_239 : decode cL_stands 239 = .ok (.invokevirtual 66, 3) := by decide +kernel
theorem dL_stands_242 : decode cL_stands 242 = .ok (.bipush 10, 2) := by decide +kernel
theorem dL_stands_244 : decode cL_stands 244 = .ok (.if_icmp .ge 64, 3) := by decide +kernel
theorem dL_stands_247 : decode cL_stands 247 = .ok (.aload_n 0, 1) := by decide +kernel
theorem dL_stands_248 : decode cL_stands 248 = .ok (.iload 8, 2) := by decide +kernel
theorem dL_stands_250 : decode cL_stands 250 = .ok (.iconst 1, 1) := by decide +kernel
theorem dL_stands_251 : decode cL_stands 251 = .ok (.invokevirtual 66, 3) := by decide +kernel
theorem dL_stands_254 : decode cL_stands 254 = .ok (.ifCond .lt 54, 3) := by decide +kernel
theorem dL_stands_257 : decode cL_stands 257 = .ok (.aload_n 0, 1) := by decide +kernel
theorem dL_stands_258 : decode cL_stands 258 = .ok (.iload 8, 2) := by decide +kernel
theorem dL_stands_260 : decode cL_stands 260 = .ok (.iconst 1, 1) := by decide +kernel
theorem dL_stands_261 : decode cL_stands 261 = .ok (.invokevirtual 66, 3) := by decide +kernel
theorem dL_stands_264 : decode cL_stands 264 = .ok (.bipush 10, 2) := by decide +kernel
theorem dL_stands_266 : decode cL_stands 266 = .ok (.if_icmp .ge 42, 3) := by decide +kernel
theorem dL_stands_269 : decode cL_stands 269 = .ok (.aload_n 0, 1) := by decide +kernel
theorem dL_stands_270 : decode cL_stands 270 = .ok (.iload 8, 2) := by decide +kernel
theorem dL_stands_272 : decode cL_stands 272 = .ok (.iconst 2, 1) := by decide +kernel
theorem dL_stands_273 : decode cL_stands 273 = .ok (.invokevirtual 66, 3) := by decide +kernel
theorem dL_stands_276 : decode cL_stands 276 = .ok (.bipush (-4), 2) := by decide +kernel
theorem dL_stands_278 : decode cL_stands 278 = .ok (.if_icmp .ne 7, 3) := by decide +kernel
theorem dL_stands_281 : decode cL_stands 281 = .ok (.iconst 1, 1) := by decide +kernel
theorem dL_stands_282 : decode cL_stands 282 = .ok (.goto 4, 3) := by decide +kernel
theorem dL_stands_285 : decode cL_stands 285 = .ok (.iconst 0, 1) := by decide +kernel
theorem dL_stands_286 : decode cL_stands 286 = .ok (.iload 4, 2) := by decide +kernel
theorem dL_stands_288 : decode cL_stands 288 = .ok (.iload 8, 2) := by decide +kernel
theorem dL_stands_290 : decode cL_stands 290 = .ok (.ishr, 1) := by decide +kernel
theorem dL_stands_291 : decode cL_stands 291 = .ok (.iconst 1, 1) := by decide +kernel
theorem dL_stands_292 : decode cL_stands 292 = .ok (.iand, 1) := by decide +kernel
theorem dL_stands_293 : decode cL_stands 293 = .ok (.ifCond .ne 7, 3) := by decide +kernel
theorem dL_stands_296 : decode cL_stands 296 = .ok (.iconst 1, 1) := by decide +kernel
theorem dL_stands_297 : decode cL_stands 297 = .ok (.goto 4, 3) := by decide +kernel
theorem dL_stands_300 : decode cL_stands 300 = .ok (.iconst 0, 1) := by decide +kernel
theorem dL_stands_301 : decode cL_stands 301 = .ok (.if_icmp .ne 7, 3) := by decide +kernel
theorem dL_stands_304 : decode cL_stands 304 = .ok (.iconst 1, 1) := by decide +kernel
theorem dL_stands_305 : decode cL_stands 305 = .ok (.goto 4, 3) := by decide +kernel
theorem dL_stands_308 : decode cL_stands 308 = .ok (.iconst 0, 1) := by decide +kernel
theorem dL_stands_309 : decode cL_stands 309 = .ok (.istore 7, 2) := by decide +kernel
theorem dL_stands_311 : decode cL_stands 311 = .ok (.iinc 8 1, 3) := by decide +kernel
theorem dL_stands_314 : decode cL_stands 314 = .ok (.goto (-125), 3) := by decide +kernel
theorem dL_stands_317 : decode cL_stands 317 = .ok (.iload 7, 2) := by decide +kernel
theorem dL_stands_319 : decode cL_stands 319 = .ok (.ifCond .eq 56, 3) := by decide +kernel
theorem dL_stands_322 : decode cL_stands 322 = .ok (.iload_n 2, 1) := by decide +kernel
theorem dL_stands_323 : decode cL_stands 323 = .ok (.aload_n 0, 1) := by decide +kernel
theorem dL_stands_324 : decode cL_stands 324 = .ok (.iconst 2, 1) := by decide +kernel
theorem dL_stands_325 : decode cL_stands 325 = .ok (.invokevirtual 59, 3) := by decide +kernel
theorem dL_stands_328 : decode cL_stands 328 = .ok (.if_icmp .ne 47, 3) := by decide +kernel
theorem dL_stands_331 : decode cL_stands 331 = .ok (.iload_n 3, 1) := by decide +kernel
theorem dL_stands_332 : decode cL_stands 332 = .ok (.aload_n 0, 1) := by decide +kernel
theorem dL_stands_333 : decode cL_stands 333 = .ok (.iconst 3, 1) := by decide +kernel
theorem dL_stands_334 : decode cL_stands 334 = .ok (.invokevirtual 59, 3) := by decide +kernel
theorem dL_stands_337 : decode cL_stands 337 = .ok (.if_icmp .ne 38, 3) := by decide +kernel
theorem dL_stands_340 : decode cL_stands 340 = .ok (.iload 4, 2) := by decide +kernel
theorem dL_stands_342 : decode cL_stands 342 = .ok (.aload_n 0, 1) := by decide +kernel
theorem dL_stands_343 : decode cL_stands 343 = .ok (.iconst 4, 1) := by decide +kernel
theorem dL_stands_344 : decode cL_stands 344 = .ok (.invokevirtual 59, 3) := by decide +kernel
theorem dL_stands_347 : decode cL_stands 347 = .ok (.if_icmp .ne 28, 3) := by decide +kernel
theorem dL_stands_350 : decode cL_stands 350 = .ok (.iload 5, 2) := by decide +kernel
theorem dL_stands_352 : decode cL_stands 352 = .ok (.aload_n 0, 1) := by decide +kernel
theorem dL_stands_353 : decode cL_stands 353 = .ok (.iconst 5, 1) := by decide +kernel
theorem dL_stands_354 : decode cL_stands 354 = .ok (.invokevirtual 59, 3) := by decide +kernel
theorem dL_stands_357 : decode cL_stands 357 = .ok (.if_icmp .ne 18, 3) := by decide +kernel
theorem dL_stands_360 : decode cL_stands 360 = .ok (.iload 6, 2) := by decide +kernel
theorem dL_stands_362 : decode cL_stands 362 = .ok (.aload_n 0, 1) := by decide +kernel
theorem dL_stands_363 : decode cL_stands 363 = .ok (.bipush 6, 2) := by decide +kernel
theorem dL_stands_365 : decode cL_stands 365 = .ok (.invokevirtual 59, 3) := by decide +kernel
theorem dL_stands_368 : decode cL_stands 368 = .ok (.if_icmp .ne 7, 3) := by decide +kernel
theorem dL_stands_371 : decode cL_stands 371 = .ok (.iconst 1, 1) := by decide +kernel
theorem dL_stands_372 : decode cL_stands 372 = .ok (.goto 4, 3) := by decide +kernel
theorem dL_stands_375 : decode cL_stands 375 = .ok (.iconst 0, 1) := by decide +kernel
theorem dL_stands_376 : decode cL_stands 376 = .ok (.ireturn, 1) := by decide +kernel
theorem dL_rode_0 : decode cL_rode 0 = .ok (.iconst 1, 1) := by decide +kernel
theorem dL_rode_1 : decode cL_rode 1 = .ok (.istore 4, 2) := by decide +kernel
theorem dL_rode_3 : decode cL_rode 3 = .ok (.iconst 0, 1) := by decide +kernel
theorem dL_rode_4 : decode cL_rode 4 = .ok (.istore 5, 2) := by decide +kernel
theorem dL_rode_6 : decode cL_rode 6 = .ok (.iconst 0, 1) := by decide +kernel
theorem dL_rode_7 : decode cL_rode 7 = .ok (.istore 6, 2) := by decide +kernel
theorem dL_rode_9 : decode cL_rode 9 = .ok (.iload 6, 2) := by decide +kernel
theorem dL_rode_11 : decode cL_rode 11 = .ok (.bipush 8, 2) := by decide +kernel
theorem dL_rode_13 : decode cL_rode 13 = .ok (.if_icmp .ge 113, 3) := by decide +kernel
theorem dL_rode_16 : decode cL_rode 16 = .ok (.iload 4, 2) := by decide +kernel
theorem dL_rode_18 : decode cL_rode 18 = .ok (.ifCond .eq 108, 3) := by decide +kernel
theorem dL_rode_21 : decode cL_rode 21 = .ok (.aload_n 0, 1) := by decide +kernel
theorem dL_rode_22 : decode cL_rode 22 = .ok (.iload 6, 2) := by decide +kernel
theorem dL_rode_24 : decode cL_rode 24 = .ok (.invokevirtual 127, 3) := by decide +kernel
theorem dL_rode_27 : decode cL_rode 27 = .ok (.istore 7, 2) := by decide +kernel
theorem dL_rode_29 : decode cL_rode 29 = .ok (.iload 7, 2) := by decide +kernel
theorem dL_rode_31 : decode cL_rode 31 = .ok (.iload 5, 2) := by decide +kernel
theorem dL_rode_33 : decode cL_rode 33 = .ok (.iand, 1) := by decide +kernel
theorem dL_rode_34 : decode cL_rode 34 = .ok (.ifCond .ne 12, 3) := by decide +kernel
theorem dL_rode_37 : decode cL_rode 37 = .ok (.iload 7, 2) := by decide +kernel
theorem dL_rode_39 : decode cL_rode 39 = .ok (.ifCond .lt 7, 3) := by decide +kernel
theorem dL_rode_42 : decode cL_rode 42 = .ok (.iconst 1, 1) := by decide +kernel
theorem dL_rode_43 : decode cL_rode 43 = .ok (.goto 4, 3) := by decide +kernel
theorem dL_rode_46 : decode cL_rode 46 = .ok (.iconst 0, 1) := by decide +kernel
theorem dL_rode_47 : decode cL_rode 47 = .ok (.istore 4, 2) := by decide +kernel
theorem dL_rode_49 : decode cL_rode 49 = .ok (.iload 5, 2) := by decide +kernel
theorem dL_rode_51 : decode cL_rode 51 = .ok (.iload 7, 2) := by decide +kernel
theorem dL_rode_53 : decode cL_rode 53 = .ok (.ior, 1) := by decide +kernel
theorem dL_rode_54 : decode cL_rode 54 = .ok (.istore 5, 2) := by decide +kernel
theorem dL_rode_56 : decode cL_rode 56 = .ok (.iconst 0, 1) := by decide +kernel
theorem dL_rode_57 : decode cL_rode 57 = .ok (.istore 8, 2) := by decide +kernel
theorem dL_rode_59 : decode cL_rode 59 = .ok (.iload 8, 2) := by decide +kernel
theorem dL_rode_61 : decode cL_rode 61 = .ok (.aload_n 1, 1) := by decide +kernel
theorem dL_rode_62 : decode cL_rode 62 = .ok (.iconst 0, 1) := by decide +kernel
theorem dL_rode_63 : decode cL_rode 63 = .ok (.iaload, 1) := by decide +kernel
theorem dL_rode_64 : decode cL_rode 64 = .ok (.if_icmp .ge 56, 3) := by decide +kernel
theorem dL_rode_67 : decode cL_rode 67 = .ok (.iload 4, 2) := by decide +kernel
theorem dL_rode_69 : decode cL_rode 69 = .ok (.ifCond .eq 51, 3) := by decide +kernel
theorem dL_rode_72 : decode cL_rode 72 = .ok (.aload_n 0, 1) := by decide +kernel
theorem dL_rode_73 : decode cL_rode 73 = .ok (.iload 8, 2) := by decide +kernel
theorem dL_rode_75 : decode cL_rode 75 = .ok (.invokevirtual 130, 3) := by decide +kernel
theorem dL_rode_78 : decode cL_rode 78 = .ok (.iload 6, 2) := by decide +kernel
theorem dL_rode_80 : decode cL_rode 80 = .ok (.if_icmp .ne 7, 3) := by decide +kernel
theorem dL_rode_83 : decode cL_rode 83 = .ok (.iconst 1, 1) := by decide +kernel
theorem dL_rode_84 : decode cL_rode 84 = .ok (.goto 4, 3) := by decide +kernel
theorem dL_rode_87 : decode cL_rode 87 = .ok (.iconst 0, 1) := by decide +kernel
theorem dL_rode_88 : decode cL_rode 88 = .ok (.iload 7, 2) := by decide +kernel
theorem dL_rode_90 : decode cL_rode 90 = .ok (.iload 8, 2) := by decide +kernel
theorem dL_rode_92 : decode cL_rode 92 = .ok (.ishr, 1) := by decide +kernel
theorem dL_rode_93 : decode cL_rode 93 = .ok (.iconst 1, 1) := by decide +kernel
theorem dL_rode_94 : decode cL_rode 94 = .ok (.iand, 1) := by decide +kernel
theorem dL_rode_95 : decode cL_rode 95 = .ok (.iconst 1, 1) := by decide +kernel
theorem dL_rode_96 : decode cL_rode 96 = .ok (.if_icmp .ne 7, 3) := by decide +kernel
theorem dL_rode_99 : decode cL_rode 99 = .ok (.iconst 1, 1) := by decide +kernel
theorem dL_rode_100 : decode cL_rode 100 = .ok (.goto 4, 3) := by decide +kernel
theorem dL_rode_103 : decode cL_rode 103 = .ok (.iconst 0, 1) := by decide +kernel
theorem dL_rode_104 : decode cL_rode 104 = .ok (.if_icmp .ne 7, 3) := by decide +kernel
theorem dL_rode_107 : decode cL_rode 107 = .ok (.iconst 1, 1) := by decide +kernel
theorem dL_rode_108 : decode cL_rode 108 = .ok (.goto 4, 3) := by decide +kernel
theorem dL_rode_111 : decode cL_rode 111 = .ok (.iconst 0, 1) := by decide +kernel
theorem dL_rode_112 : decode cL_rode 112 = .ok (.istore 4, 2) := by decide +kernel
theorem dL_rode_114 : decode cL_rode 114 = .ok (.iinc 8 1, 3) := by decide +kernel
theorem dL_rode_117 : decode cL_rode 117 = .ok (.goto (-58), 3) := by decide +kernel
theorem dL_rode_120 : decode cL_rode 120 = .ok (.iinc 6 1, 3) := by decide +kernel
theorem dL_rode_123 : decode cL_rode 123 = .ok (.goto (-114), 3) := by decide +kernel
theorem dL_rode_126 : decode cL_rode 126 = .ok (.iconst 0, 1) := by decide +kernel
theorem dL_rode_127 : decode cL_rode 127 = .ok (.istore 6, 2) := by decide +kernel
theorem dL_rode_129 : decode cL_rode 129 = .ok (.iload 6, 2) := by decide +kernel
theorem dL_rode_131 : decode cL_rode 131 = .ok (.aload_n 1, 1) := by decide +kernel
theorem dL_rode_132 : decode cL_rode 132 = .ok (.iconst 0, 1) := by decide +kernel
theorem dL_rode_133 : decode cL_rode 133 = .ok (.iaload, 1) := by decide +kernel
theorem dL_rode_134 : decode cL_rode 134 = .ok (.if_icmp .ge 532, 3) := by decide +kernel
theorem dL_rode_137 : decode cL_rode 137 = .ok (.iload 4, 2) := by decide +kernel
theorem dL_rode_139 : decode cL_rode 139 = .ok (.ifCond .eq 527, 3) := by decide +kernel
theorem dL_rode_142 : decode cL_rode 142 = .ok (.aload_n 0, 1) := by decide +kernel
theorem dL_rode_143 : decode cL_rode 143 = .ok (.iload 6, 2) := by decide +kernel
theorem dL_rode_145 : decode cL_rode 145 = .ok (.invokevirtual 130, 3) := by decide +kernel
theorem dL_rode_148 : decode cL_rode 148 = .ok (.istore 7, 2) := by decide +kernel
theorem dL_rode_150 : decode cL_rode 150 = .ok (.aload_n 0, 1) := by decide +kernel
theorem dL_rode_151 : decode cL_rode 151 = .ok (.iload 6, 2) := by decide +kernel
theorem dL_rode_153 : decode cL_rode 153 = .ok (.iconst 0, 1) := by decide +kernel
theorem dL_rode_154 : decode cL_rode 154 = .ok (.invokevirtual 133, 3) := by decide +kernel
theorem dL_rode_157 : decode cL_rode 157 = .ok (.istore 8, 2) := by decide +kernel
theorem dL_rode_159 : decode cL_rode 159 = .ok (.aload_n 0, 1) := by decide +kernel
theorem dL_rode_160 : decode cL_rode 160 = .ok (.iload 6, 2) := by decide +kernel
theorem dL_rode_162 : decode cL_rode 162 = .ok (.iconst 1, 1) := by decide +kernel
theorem dL_rode_163 : decode cL_rode 163 = .ok (.invokevirtual 133, 3) := by decide +kernel
theorem dL_rode_166 : decode cL_rode 166 = .ok (.istore 9, 2) := by decide +kernel
theorem dL_rode_168 : decode cL_rode 168 = .ok (.iconst 2, 1) := by decide +kernel
theorem dL_rode_169 : decode cL_rode 169 = .ok (.istore 10, 2) := by decide +kernel
theorem dL_rode_171 : decode cL_rode 171 = .ok (.iload 5, 2) := by decide +kernel
theorem dL_rode_173 : decode cL_rode 173 = .ok (.iload 6, 2) := by decide +kernel
theorem dL_rode_175 : decode cL_rode 175 = .ok (.ishr, 1) := by decide +kernel
theorem dL_rode_176 : decode cL_rode 176 = .ok (.iconst 1, 1) := by decide +kernel
theorem dL_rode_177 : decode cL_rode 177 = .ok (.iand, 1) := by decide +kernel
theorem dL_rode_178 : decode cL_rode 178 = .ok (.iconst 1, 1) := by decide +kernel
theorem dL_rode_179 : decode cL_rode 179 = .ok (.if_icmp .ne 7, 3) := by decide +kernel
theorem dL_rode_182 : decode cL_rode 182 = .ok (.iconst 1, 1) := by decide +kernel
theorem dL_rode_183 : decode cL_rode 183 = .ok (.goto 4, 3) := by decide +kernel
theorem dL_rode_186 : decode cL_rode 186 = .ok (.iconst 0, 1) := by decide +kernel
theorem dL_rode_187 : decode cL_rode 187 = .ok (.iload 7, 2) := by decide +kernel
theorem dL_rode_189 : decode cL_rode 189 = .ok (.bipush 8, 2) := by decide +kernel
theorem dL_rode_191 : decode cL_rode 191 = .ok (.if_icmp .ge 7, 3) := by decide +kernel
theorem dL_rode_194 : decode cL_rode 194 = .ok (.iconst 1, 1) := by decide +kernel
theorem dL_rode_195 : decode cL_rode 195 = .ok (.goto 4, 3) := by decide +kernel
theorem dL_rode_198 : decode cL_rode 198 = .ok (.iconst 0, 1) := by decide +kernel
theorem dL_rode_199 : decode cL_rode 199 = .ok (.if_icmp .ne 61, 3) := by decide +kernel
theorem dL_rode_202 : decode cL_rode 202 = .ok (.iload 8, 2) := by decide +kernel
theorem dL_rode_204 : decode cL_rode 204 = .ok (.bipush (-4), 2) := by decide +kernel
theorem dL_rode_206 : decode cL_rode 206 = .ok (.if_icmp .ne 7, 3) := by decide +kernel
theorem dL_rode_209 : decode cL_rode 209 = .ok (.iconst 1, 1) := by decide +kernel
theorem dL_rode_210 : decode cL_rode 210 = .ok (.goto 4, 3) := by decide +kernel
theorem dL_rode_213 : decode cL_rode 213 = .ok (.iconst 0, 1) := by decide +kernel
theorem dL_rode_214 : decode cL_rode 214 = .ok (.iload 7, 2) := by decide +kernel
theorem dL_rode_216 : decode cL_rode 216 = .ok (.bipush 10, 2) := by decide +kernel
theorem dL_rode_218 : decode cL_rode 218 = .ok (.if_icmp .ne 7, 3) := by decide +kernel
theorem dL_rode_221 : decode cL_rode 221 = .ok (.iconst 1, 1) := by decide +kernel
theorem dL_rode_222 : decode cL_rode 222 = .ok (.goto 4, 3) := by decide +kernel
theorem dL_rode_225 : decode cL_rode 225 = .ok (.iconst 0, 1) := by decide +kernel
theorem dL_rode_226 : decode cL_rode 226 = .ok (.if_icmp .ne 34, 3) := by decide +kernel
theorem dL_rode_229 : decode cL_rode 229 = .ok (.iload 9, 2) := by decide +kernel
theorem dL_rode_231 : decode cL_rode 231 = .ok (.bipush (-4), 2) := by decide +kernel
theorem dL_rode_233 : decode cL_rode 233 = .ok (.if_icmp .ne 7, 3) := by decide +kernel
theorem dL_rode_236 : decode cL_rode 236 = .ok (.iconst 1, 1) := by decide +kernel
theorem dL_rode_237 : decode cL_rode 237 = .ok (.goto 4, 3) := by decide +kernel
theorem dL_rode_240 : decode cL_rode 240 = .ok (.iconst 0, 1) := by decide +kernel
theorem dL_rode_241 : decode cL_rode 241 = .ok (.iload 8, 2) := by decide +kernel
theorem dL_rode_243 : decode cL_rode 243 = .ok (.bipush (-4), 2) := by decide +kernel
theorem dL_rode_245 : decode cL_rode 245 = .ok (.if_icmp .ne 7, 3) := by decide +kernel
theorem dL_rode_248 : decode cL_rode 248 = .ok (.iconst 1, 1) := by decide +kernel
theorem dL_rode_249 : decode cL_rode 249 = .ok (.goto 4, 3) := by decide +kernel
theorem dL_rode_252 : decode cL_rode 252 = .ok (.iconst 0, 1) := by decide +kernel
theorem dL_rode_253 : decode cL_rode 253 = .ok (.if_icmp .ne 7, 3) := by decide +kernel
theorem dL_rode_256 : decode cL_rode 256 = .ok (.iconst 1, 1) := by decide +kernel
theorem dL_rode_257 : decode cL_rode 257 = .ok (.goto 4, 3) := by decide +kernel
theorem dL_rode_260 : decode cL_rode 260 = .ok (.iconst 0, 1) := by decide +kernel
theorem dL_rode_261 : decode cL_rode 261 = .ok (.istore 4, 2) := by decide +kernel
theorem dL_rode_263 : decode cL_rode 263 = .ok (.iconst 0, 1) := by decide +kernel
theorem dL_rode_264 : decode cL_rode 264 = .ok (.istore 11, 2) := by decide +kernel
theorem dL_rode_266 : decode cL_rode 266 = .ok (.iload 11, 2) := by decide +kernel
theorem dL_rode_268 : decode cL_rode 268 = .ok (.bipush 10, 2) := by decide +kernel
theorem dL_rode_270 : decode cL_rode 270 = .ok (.if_icmp .ge 234, 3) := by decide +kernel
theorem dL_rode_273 : decode cL_rode 273 = .ok (.iload 4, 2) := by decide +kernel
theorem dL_rode_275 : decode cL_rode 275 = .ok (.ifCond .eq 229, 3) := by decide +kernel
theorem dL_rode_278 : decode cL_rode 278 = .ok (.aload_n 0, 1) := by decide +kernel
theorem dL_rode_279 : decode cL_rode 279 = .ok (.iload 6, 2) := by decide +kernel
theorem dL_rode_281 : decode cL_rode 281 = .ok (.iload 11, 2) := by decide +kernel
theorem dL_rode_283 : decode cL_rode 283 = .ok (.invokevirtual 136, 3) := by decide +kernel
theorem dL_rode_286 : decode cL_rode 286 = .ok (.istore 12, 2) := by decide +kernel
theorem dL_rode_288 : decode cL_rode 288 = .ok (.aload_n 0, 1) := by decide +kernel
theorem dL_rode_289 : decode cL_rode 289 = .ok (.iload 11, 2) := by decide +kernel
theorem dL_rode_291 : decode cL_rode 291 = .ok (.iconst 2, 1) := by decide +kernel
theorem dL_rode_292 : decode cL_rode 292 = .ok (.invokevirtual 66, 3) := by decide +kernel
theorem dL_rode_295 : decode cL_rode 295 = .ok (.istore 13, 2) := by decide +kernel
theorem dL_rode_297 : decode cL_rode 297 = .ok (.iload 7, 2) := by decide +kernel
theorem dL_rode_299 : decode cL_rode 299 = .ok (.bipush 8, 2) := by decide +kernel
theorem dL_rode_301 : decode cL_rode 301 = .ok (.if_icmp .lt 13, 3) := by decide +kernel
theorem dL_rode_304 : decode cL_rode 304 = .ok (.iload 11, 2) := by decide +kernel
theorem dL_rode_306 : decode cL_rode 306 = .ok (.iload 7, 2) := by decide +kernel
theorem dL_rode_308 : decode cL_rode 308 = .ok (.bipush 10, 2) := by decide +kernel
theorem dL_rode_310 : decode cL_rode 310 = .ok (.isub, 1) := by decide +kernel
theorem dL_rode_311 : decode cL_rode 311 = .ok (.if_icmp .ge 7, 3) := by decide +kernel
theorem dL_rode_314 : decode cL_rode 314 = .ok (.iconst 1, 1) := by decide +kernel
theorem dL_rode_315 : decode cL_rode 315 = .ok (.goto 4, 3) := by decide +kernel
theorem dL_rode_318 : decode cL_rode 318 = .ok (.iconst 0, 1) := by decide +kernel
theorem dL_rode_319 : decode cL_rode 319 = .ok (.istore 14, 2) := by decide +kernel
theorem dL_rode_321 : decode cL_rode 321 = .ok (.iload 10, 2) := by decide +kernel
theorem dL_rode_323 : decode cL_rode 323 = .ok (.iload 10, 2) := by decide +kernel
theorem dL_rode_325 : decode cL_rode 325 = .ok (.ifCond .le 16, 3) := by decide +kernel
theorem dL_rode_328 : decode cL_rode 328 = .ok (.aload_n 0, 1) := by decide +kernel
theorem dL_rode_329 : decode cL_rode 329 = .ok (.iload 6, 2) := by decide +kernel
theorem dL_rode_331 : decode cL_rode 331 = .ok (.iload 11, 2) := by decide +kernel
theorem dL_rode_333 : decode cL_rode 333 = .ok (.iload 10, 2) := by decide +kernel
theorem dL_rode_335 : decode cL_rode 335 = .ok (.invokevirtual 139, 3) := by decide +kernel
theorem dL_rode_338 : decode cL_rode 338 = .ok (.goto 4, 3) := by decide +kernel
theorem dL_rode_341 : decode cL_rode 341 = .ok (.iconst 0, 1) := by decide +kernel
theorem dL_rode_342 : decode cL_rode 342 = .ok (.iadd, 1) := by decide +kernel
theorem dL_rode_343 : decode cL_rode 343 = .ok (.aload_n 0, 1) := by decide +kernel
theorem dL_rode_344 : decode cL_rode 344 = .ok (.iload 11, 2) := by decide +kernel
theorem dL_rode_346 : decode cL_rode 346 = .ok (.iconst 0, 1) := by decide +kernel
theorem dL_rode_347 : decode cL_rode 347 = .ok (.invokevirtual 66, 3) := by decide +kernel
theorem dL_rode_350 : decode cL_rode 350 = .ok (.isub, 1) := by decide +kernel
theorem dL_rode_351 : decode cL_rode 351 = .ok (.aload_n 0, 1) := by decide +kernel
theorem dL_rode_352 : decode cL_rode 352 = .ok (.iload 11, 2) := by decide +kernel
theorem dL_rode_354 : decode cL_rode 354 = .ok (.iconst 1, 1) := by decide +kernel
theorem dL_rode_355 : decode cL_rode 355 = .ok (.invokevirtual 66, 3) := by decide +kernel
theorem dL_rode_358 : decode cL_rode 358 = .ok (.isub, 1) := by decide +kernel
theorem dL_rode_359 : decode cL_rode 359 = .ok (.istore 15, 2) := by decide +kernel
theorem dL_rode_361 : decode cL_rode 361 = .ok (.iload 15, 2) := by decide +kernel
theorem dL_rode_363 : decode cL_rode 363 = .ok (.bipush 30, 2) := by decide +kernel
theorem dL_rode_365 : decode cL_rode 365 = .ok (.if_icmp .le 8, 3) := by decide +kernel
theorem dL_rode_368 : decode cL_rode 368 = .ok (.bipush 30, 2) := by decide +kernel
theorem dL_rode_370 : decode cL_rode 370 = .ok (.goto 5, 3) := by decide +kernel
theorem dL_rode_373 : decode cL_rode 373 = .ok (.iload 15, 2) := by decide +kernel
theorem dL_rode_375 : decode cL_rode 375 = .ok (.istore 15, 2) := by decide +kernel
theorem dL_rode_377 : decode cL_rode 377 = .ok (.iload 13, 2) := by decide +kernel
theorem dL_rode_379 : decode cL_rode 379 = .ok (.ifCond .lt 22, 3) := by decide +kernel
theorem dL_rode_382 : decode cL_rode 382 = .ok (.iload 13, 2) := by decide +kernel
theorem dL_rode_384 : decode cL_rode 384 = .ok (.iload 6, 2) := by decide +kernel
theorem dL_rode_386 : decode cL_rode 386 = .ok (.if_icmp .eq 15, 3) := by decide +kernel
theorem dL_rode_389 : decode cL_rode 389 = .ok (.iload 15, 2) := by decide +kernel
theorem dL_rode_391 : decode cL_rode 391 = .ok (.ifCond .le 10, 3) := by decide +kernel
theorem dL_rode_394 : decode cL_rode 394 = .ok (.iload 15, 2) := by decide +kernel
theorem dL_rode_396 : decode cL_rode 396 = .ok (.iconst 2, 1) := by decide +kernel
theorem dL_rode_397 : decode cL_rode 397 = .ok (.idiv, 1) := by decide +kernel
theorem dL_rode_398 : decode cL_rode 398 = .ok (.goto 5, 3) := by decide +kernel
theorem dL_rode_401 : decode cL_rode 401 = .ok (.iload 15, 2) := by decide +kernel
theorem dL_rode_403 : decode cL_rode 403 = .ok (.istore 15, 2) := by decide +kernel
theorem dL_rode_405 : decode cL_rode 405 = .ok (.iload 14, 2) := by decide +kernel
theorem dL_rode_407 : decode cL_rode 407 = .ok (.ifCond .eq 58, 3) := by decide +kernel
theorem dL_rode_410 : decode cL_rode 410 = .ok (.iload 12, 2) := by decide +kernel
theorem dL_rode_412 : decode cL_rode 412 = .ok (.iload 15, 2) := by decide +kernel
theorem dL_rode_414 : decode cL_rode 414 = .ok (.if_icmp .ne 47, 3) := by decide +kernel
theorem dL_rode_417 : decode cL_rode 417 = .ok (.iload 12, 2) := by decide +kernel
theorem dL_rode_419 : decode cL_rode 419 = .ok (.ifCond .le 42, 3) := by decide +kernel
theorem dL_rode_422 : decode cL_rode 422 = .ok (.iload 12, 2) := by decide +kernel
theorem dL_rode_424 : decode cL_rode 424 = .ok (.iload 9, 2) := by decide +kernel
theorem dL_rode_426 : decode cL_rode 426 = .ok (.if_icmp .gt 35, 3) := by decide +kernel
theorem dL_rode_429 : decode cL_rode 429 = .ok (.iload 11, 2) := by decide +kernel
theorem dL_rode_431 : decode cL_rode 431 = .ok (.iload 8, 2) := by decide +kernel
theorem dL_rode_433 : decode cL_rode 433 = .ok (.if_icmp .ge 10, 3) := by decide +kernel
theorem dL_rode_436 : decode cL_rode 436 = .ok (.iload 12, 2) := by decide +kernel
theorem dL_rode_438 : decode cL_rode 438 = .ok (.iload 9, 2) := by decide +kernel
theorem dL_rode_440 : decode cL_rode 440 = .ok (.if_icmp .ge 21, 3) := by decide +kernel
theorem dL_rode_443 : decode cL_rode 443 = .ok (.iload 11, 2) := by decide +kernel
theorem dL_rode_445 : decode cL_rode 445 = .ok (.iload 8, 2) := by decide +kernel
theorem dL_rode_447 : decode cL_rode 447 = .ok (.if_icmp .ne 10, 3) := by decide +kernel
theorem dL_rode_450 : decode cL_rode 450 = .ok (.iload 12, 2) := by decide +kernel
theorem dL_rode_452 : decode cL_rode 452 = .ok (.iload 9, 2) := by decide +kernel
theorem dL_rode_454 : decode cL_rode 454 = .ok (.if_icmp .ne 7, 3) := by decide +kernel
theorem dL_rode_457 : decode cL_rode 457 = .ok (.iconst 1, 1) := by decide +kernel
theorem dL_rode_458 : decode cL_rode 458 = .ok (.goto 34, 3) := by decide +kernel
theorem dL_rode_461 : decode cL_rode 461 = .ok (.iconst 0, 1) := by decide +kernel
theorem dL_rode_462 : decode cL_rode 462 = .ok (.goto 30, 3) := by decide +kernel
theorem dL_rode_465 : decode cL_rode 465 = .ok (.iload 12, 2) := by decide +kernel
theorem dL_rode_467 : decode cL_rode 467 = .ok (.bipush (-4), 2) := by decide +kernel
theorem dL_rode_469 : decode cL_rode 469 = .ok (.if_icmp .ne 22, 3) := by decide +kernel
theorem dL_rode_472 : decode cL_rode 472 = .ok (.iload 7, 2) := by decide +kernel
theorem dL_rode_474 : decode cL_rode 474 = .ok (.bipush 10, 2) := by decide +kernel
theorem dL_rode_476 : decode cL_rode 476 = .ok (.iload 11, 2) := by decide +kernel
theorem dL_rode_478 : decode cL_rode 478 = .ok (.iadd, 1) := by decide +kernel
theorem dL_rode_479 : decode cL_rode 479 = .ok (.if_icmp .ne 8, 3) := by decide +kernel
theorem dL_rode_482 : decode cL_rode 482 = .ok (.iload 15, 2) := by decide +kernel
theorem dL_rode_484 : decode cL_rode 484 = .ok (.ifCond .gt 7, 3) := by decide +kernel
theorem dL_rode_487 : decode cL_rode 487 = .ok (.iconst 1, 1) := by decide +kernel
theorem dL_rode_488 : decode cL_rode 488 = .ok (.goto 4, 3) := by decide +kernel
theorem dL_rode_491 : decode cL_rode 491 = .ok (.iconst 0, 1) := by decide +kernel
theorem dL_rode_492 : decode cL_rode 492 = .ok (.istore 4, 2) := by decide +kernel
theorem dL_rode_494 : decode cL_rode 494 = .ok (.iload 12, 2) := by decide +kernel
theorem dL_rode_496 : decode cL_rode 496 = .ok (.istore 10, 2) := by decide +kernel
theorem dL_rode_498 : decode cL_rode 498 = .ok (.iinc 11 1, 3) := by decide +kernel
theorem dL_rode_501 : decode cL_rode 501 = .ok (.goto (-235), 3) := by decide +kernel
theorem dL_rode_504 : decode cL_rode 504 = .ok (.iload 4, 2) := by decide +kernel
theorem dL_rode_506 : decode cL_rode 506 = .ok (.ifCond .eq 32, 3) := by decide +kernel
theorem dL_rode_509 : decode cL_rode 509 = .ok (.iload 7, 2) := by decide +kernel
theorem dL_rode_511 : decode cL_rode 511 = .ok (.bipush 9, 2) := by decide +kernel
theorem dL_rode_513 : decode cL_rode 513 = .ok (.if_icmp .gt 21, 3) := by decide +kernel
theorem dL_rode_516 : decode cL_rode 516 = .ok (.iload 7, 2) := by decide +kernel
theorem dL_rode_518 : decode cL_rode 518 = .ok (.iload 10, 2) := by decide +kernel
theorem dL_rode_520 : decode cL_rode 520 = .ok (.aload_n 0, 1) := by decide +kernel
theorem dL_rode_521 : decode cL_rode 521 = .ok (.iload 6, 2) := by decide +kernel
theorem dL_rode_523 : decode cL_rode 523 = .ok (.iconst 2, 1) := by decide +kernel
theorem dL_rode_524 : decode cL_rode 524 = .ok (.invokevirtual 69, 3) := by decide +kernel
theorem dL_rode_527 : decode cL_rode 527 = .ok (.iadd, 1) := by decide +kernel
theorem dL_rode_528 : decode cL_rode 528 = .ok (.bipush 8, 2) := by decide +kernel
theorem dL_rode_530 : decode cL_rode 530 = .ok (.irem, 1) := by decide +kernel
theorem dL_rode_531 : decode cL_rode 531 = .ok (.if_icmp .ne 7, 3) := by decide +kernel
theorem dL_rode_534 : decode cL_rode 534 = .ok (.iconst 1, 1) := by decide +kernel
theorem dL_rode_535 : decode cL_rode 535 = .ok (.goto 4, 3) := by decide +kernel
theorem dL_rode_538 : decode cL_rode 538 = .ok (.iconst 0, 1) := by decide +kernel
theorem dL_rode_539 : decode cL_rode 539 = .ok (.istore 4, 2) := by decide +kernel
theorem dL_rode_541 : decode cL_rode 541 = .ok (.iload 4, 2) := by decide +kernel
theorem dL_rode_543 : decode cL_rode 543 = .ok (.ifCond .eq 117, 3) := by decide +kernel
theorem dL_rode_546 : decode cL_rode 546 = .ok (.aload_n 0, 1) := by decide +kernel
theorem dL_rode_547 : decode cL_rode 547 = .ok (.iconst 5, 1) := by decide +kernel
theorem dL_rode_548 : decode cL_rode 548 = .ok (.invokevirtual 59, 3) := by decide +kernel
theorem dL_rode_551 : decode cL_rode 551 = .ok (.istore 11, 2) := by decide +kernel
theorem dL_rode_553 : decode cL_rode 553 = .ok (.aload_n 0, 1) := by decide +kernel
theorem dL_rode_554 : decode cL_rode 554 = .ok (.iconst 1, 1) := by decide +kernel
theorem dL_rode_555 : decode cL_rode 555 = .ok (.invokevirtual 59, 3) := by decide +kernel
theorem dL_rode_558 : decode cL_rode 558 = .ok (.istore 12, 2) := by decide +kernel
theorem dL_rode_560 : decode cL_rode 560 = .ok (.aload_n 0, 1) := by decide +kernel
theorem dL_rode_561 : decode cL_rode 561 = .ok (.iload 6, 2) := by decide +kernel
theorem dL_rode_563 : decode cL_rode 563 = .ok (.iconst 3, 1) := by decide +kernel
theorem dL_rode_564 : decode cL_rode 564 = .ok (.invokevirtual 69, 3) := by decide +kernel
theorem dL_rode_567 : decode cL_rode 567 = .ok (.bipush 30, 2) := by decide +kernel
theorem dL_rode_569 : decode cL_rode 569 = .ok (.if_icmp .eq 12, 3) := by decide +kernel
theorem dL_rode_572 : decode cL_rode 572 = .ok (.aload_n 0, 1) := by decide +kernel
theorem dL_rode_573 : decode cL_rode 573 = .ok (.iload 6, 2) := by decide +kernel
theorem dL_rode_575 : decode cL_rode 575 = .ok (.invokevirtual 49, 3) := by decide +kernel
theorem dL_rode_578 : decode cL_rode 578 = .ok (.ifCond .lt 79, 3) := by decide +kernel
theorem dL_rode_581 : decode cL_rode 581 = .ok (.aload_n 0, 1) := by decide +kernel
theorem dL_rode_582 : decode cL_rode 582 = .ok (.iload 6, 2) := by decide +kernel
theorem dL_rode_584 : decode cL_rode 584 = .ok (.invokevirtual 43, 3) := by decide +kernel
theorem dL_rode_587 : decode cL_rode 587 = .ok (.iload 7, 2) := by decide +kernel
theorem dL_rode_589 : decode cL_rode 589 = .ok (.if_icmp .ne 68, 3) := by decide +kernel
theorem dL_rode_592 : decode cL_rode 592 = .ok (.aload_n 0, 1) := by decide +kernel
theorem dL_rode_593 : decode cL_rode 593 = .ok (.iload 6, 2) := by decide +kernel
theorem dL_rode_595 : decode cL_rode 595 = .ok (.iconst 3, 1) := by decide +kernel
theorem dL_rode_596 : decode cL_rode 596 = .ok (.invokevirtual 69, 3) := by decide +kernel
theorem dL_rode_599 : decode cL_rode 599 = .ok (.iload 7, 2) := by decide +kernel
theorem dL_rode_601 : decode cL_rode 601 = .ok (.if_icmp .ne 56, 3) := by decide +kernel
theorem dL_rode_604 : decode cL_rode 604 = .ok (.aload_n 0, 1) := by decide +kernel
theorem dL_rode_605 : decode cL_rode 605 = .ok (.iconst 1, 1) := by decide +kernel
theorem dL_rode_606 : decode cL_rode 606 = .ok (.invokevirtual 59, 3) := by decide +kernel
theorem dL_rode_609 : decode cL_rode 609 = .ok (.iload 12, 2) := by decide +kernel
theorem dL_rode_611 : decode cL_rode 611 = .ok (.iconst 1, 1) := by decide +kernel
theorem dL_rode_612 : decode cL_rode 612 = .ok (.iadd, 1) := by decide +kernel
theorem dL_rode_613 : decode cL_rode 613 = .ok (.if_icmp .ne 44, 3) := by decide +kernel
theorem dL_rode_616 : decode cL_rode 616 = .ok (.aload_n 0, 1) := by decide +kernel
theorem dL_rode_617 : decode cL_rode 617 = .ok (.iconst 5, 1) := by decide +kernel
theorem dL_rode_618 : decode cL_rode 618 = .ok (.invokevirtual 59, 3) := by decide +kernel
theorem dL_rode_621 : decode cL_rode 621 = .ok (.iload 11, 2) := by decide +kernel
theorem dL_rode_623 : decode cL_rode 623 = .ok (.if_icmp .gt 34, 3) := by decide +kernel
theorem dL_rode_626 : decode cL_rode 626 = .ok (.aload_n 0, 1) := by decide +kernel
theorem dL_rode_627 : decode cL_rode 627 = .ok (.aload_n 1, 1) := by decide +kernel
theorem dL_rode_628 : decode cL_rode 628 = .ok (.invokestatic 77, 3) := by decide +kernel
theorem dL_rode_631 : decode cL_rode 631 = .ok (.ifCond .eq 26, 3) := by decide +kernel
theorem dL_rode_634 : decode cL_rode 634 = .ok (.aload_n 0, 1) := by decide +kernel
theorem dL_rode_635 : decode cL_rode 635 = .ok (.iload 6, 2) := by decide +kernel
theorem dL_rode_637 : decode cL_rode 637 = .ok (.invokevirtual 43, 3) := by decide +kernel
theorem dL_rode_640 : decode cL_rode 640 = .ok (.bipush (-2), 2) := by decide +kernel
theorem dL_rode_642 : decode cL_rode 642 = .ok (.if_icmp .ne 15, 3) := by decide +kernel
theorem dL_rode_645 : decode cL_rode 645 = .ok (.aload_n 0, 1) := by decide +kernel
theorem dL_rode_646 : decode cL_rode 646 = .ok (.invokevirtual 120, 3) := by decide +kernel
theorem dL_rode_649 : decode cL_rode 649 = .ok (.iconst 1, 1) := by decide +kernel
theorem dL_rode_650 : decode cL_rode 650 = .ok (.if_icmp .ne 7, 3) := by decide +kernel
theorem dL_rode_653 : decode cL_rode 653 = .ok (.iconst 1, 1) := by decide +kernel
theorem dL_rode_654 : decode cL_rode 654 = .ok (.goto 4, 3) := by decide +kernel
theorem dL_rode_657 : decode cL_rode 657 = .ok (.iconst 0, 1) := by decide +kernel
theorem dL_rode_658 : decode cL_rode 658 = .ok (.istore 4, 2) := by decide +kernel
theorem dL_rode_660 : decode cL_rode 660 = .ok (.iinc 6 1, 3) := by decide +kernel
theorem dL_rode_663 : decode cL_rode 663 = .ok (.goto (-534), 3) := by decide +kernel
theorem dL_rode_666 : decode cL_rode 666 = .ok (.iload 4, 2) := by decide +kernel
theorem dL_rode_668 : decode cL_rode 668 = .ok (.ifCond .eq 17, 3) := by decide +kernel
theorem dL_rode_671 : decode cL_rode 671 = .ok (.aload_n 0, 1) := by decide +kernel
theorem dL_rode_672 : decode cL_rode 672 = .ok (.aload_n 1, 1) := by decide +kernel
theorem dL_rode_673 : decode cL_rode 673 = .ok (.invokestatic 87, 3) := by decide +kernel
theorem dL_rode_676 : decode cL_rode 676 = .ok (.lload_n 2, 1) := by decide +kernel
theorem dL_rode_677 : decode cL_rode 677 = .ok (.lcmp, 1) := by decide +kernel
theorem dL_rode_678 : decode cL_rode 678 = .ok (.ifCond .ne 7, 3) := by decide +kernel
theorem dL_rode_681 : decode cL_rode 681 = .ok (.iconst 1, 1) := by decide +kernel
theorem dL_rode_682 : decode cL_rode 682 = .ok (.goto 4, 3) := by decide +kernel
theorem dL_rode_685 : decode cL_rode 685 = .ok (.iconst 0, 1) := by decide +kernel
theorem dL_rode_686 : decode cL_rode 686 = .ok (.ireturn, 1) := by decide +kernel
theorem dL_waxed_0 : decode cL_waxed 0 = .ok (.aload_n 1, 1) := by decide +kernel
theorem dL_waxed_1 : decode cL_waxed 1 = .ok (.bipush 13, 2) := by decide +kernel
theorem dL_waxed_3 : decode cL_waxed 3 = .ok (.invokestatic 15, 3) := by decide +kernel
theorem dL_waxed_6 : decode cL_waxed 6 = .ok (.aload_n 2, 1) := by decide +kernel
theorem dL_waxed_7 : decode cL_waxed 7 = .ok (.iconst 0, 1) := by decide +kernel
theorem dL_waxed_8 : decode cL_waxed 8 = .ok (.iaload, 1) := by decide +kernel
theorem dL_waxed_9 : decode cL_waxed 9 = .ok (.irem, 1) := by decide +kernel
theorem dL_waxed_10 : decode cL_waxed 10 = .ok (.istore 5, 2) := by decide +kernel
theorem dL_waxed_12 : decode cL_waxed 12 = .ok (.aload_n 0, 1) := by decide +kernel
theorem dL_waxed_13 : decode cL_waxed 13 = .ok (.iload 5, 2) := by decide +kernel
theorem dL_waxed_15 : decode cL_waxed 15 = .ok (.invokevirtual 130, 3) := by decide +kernel
theorem dL_waxed_18 : decode cL_waxed 18 = .ok (.istore 6, 2) := by decide +kernel
theorem dL_waxed_20 : decode cL_waxed 20 = .ok (.iconst 1, 1) := by decide +kernel
theorem dL_waxed_21 : decode cL_waxed 21 = .ok (.istore 7, 2) := by decide +kernel
theorem dL_waxed_23 : decode cL_waxed 23 = .ok (.iconst 0, 1) := by decide +kernel
theorem dL_waxed_24 : decode cL_waxed 24 = .ok (.istore 8, 2) := by decide +kernel
theorem dL_waxed_26 : decode cL_waxed 26 = .ok (.iconst 0, 1) := by decide +kernel
theorem dL_waxed_27 : decode cL_waxed 27 = .ok (.istore 9, 2) := by decide +kernel
theorem dL_waxed_29 : decode cL_waxed 29 = .ok (.iload 9, 2) := by decide +kernel
theorem dL_waxed_31 : decode cL_waxed 31 = .ok (.bipush 10, 2) := by decide +kernel
theorem dL_waxed_33 : decode cL_waxed 33 = .ok (.if_icmp .ge 69, 3) := by decide +kernel
theorem dL_waxed_36 : decode cL_waxed 36 = .ok (.iload 7, 2) := by decide +kernel
theorem dL_waxed_38 : decode cL_waxed 38 = .ok (.ifCond .eq 64, 3) := by decide +kernel
theorem dL_waxed_41 : decode cL_waxed 41 = .ok (.aload_n 0, 1) := by decide +kernel
theorem dL_waxed_42 : decode cL_waxed 42 = .ok (.iload 5, 2) := by decide +kernel
theorem dL_waxed_44 : decode cL_waxed 44 = .ok (.iload 9, 2) := by decide +kernel
theorem dL_waxed_46 : decode cL_waxed 46 = .ok (.invokevirtual 143, 3) := by decide +kernel
theorem dL_waxed_49 : decode cL_waxed 49 = .ok (.istore 10, 2) := by decide +kernel
theorem dL_waxed_51 : decode cL_waxed 51 = .ok (.iload 8, 2) := by decide +kernel
theorem dL_waxed_53 : decode cL_waxed 53 = .ok (.iload 10, 2) := by decide +kernel
theorem dL_waxed_55 : decode cL_waxed 55 = .ok (.ior, 1) := by decide +kernel
theorem dL_waxed_56 : decode cL_waxed 56 = .ok (.istore 8, 2) := by decide +kernel
theorem dL_waxed_58 : decode cL_waxed 58 = .ok (.iload 10, 2) := by decide +kernel
theorem dL_waxed_60 : decode cL_waxed 60 = .ok (.ifCond .lt 33, 3) := by decide +kernel
theorem dL_waxed_63 : decode cL_waxed 63 = .ok (.iload 10, 2) := by decide +kernel
theorem dL_waxed_65 : decode cL_waxed 65 = .ok (.sipush 256, 3) := by decide +kernel
theorem dL_waxed_68 : decode cL_waxed 68 = .ok (.if_icmp .ge 25, 3) := by decide +kernel
theorem dL_waxed_71 : decode cL_waxed 71 = .ok (.iload 6, 2) := by decide +kernel
theorem dL_waxed_73 : decode cL_waxed 73 = .ok (.bipush 7, 2) := by decide +kernel
theorem dL_waxed_75 : decode cL_waxed 75 = .ok (.if_icmp .gt 14, 3) := by decide +kernel
theorem dL_waxed_78 : decode cL_waxed 78 = .ok (.iload 10, 2) := by decide +kernel
theorem dL_waxed_80 : decode cL_waxed 80 = .ok (.iload 6, 2) := by decide +kernel
theorem dL_waxed_82 : decode cL_waxed 82 = .ok (.ishr, 1) := by decide +kernel
theorem dL_waxed_83 : decode cL_waxed 83 = .ok (.iconst 1, 1) := by decide +kernel
theorem dL_waxed_84 : decode cL_waxed 84 = .ok (.iand, 1) := by decide +kernel
theorem dL_waxed_85 : decode cL_waxed 85 = .ok (.iconst 1, 1) := by decide +kernel
theorem dL_waxed_86 : decode cL_waxed 86 = .ok (.if_icmp .ne 7, 3) := by decide +kernel
theorem dL_waxed_89 : decode cL_waxed 89 = .ok (.iconst 1, 1) := by decide +kernel
theorem dL_waxed_90 : decode cL_waxed 90 = .ok (.goto 4, 3) := by decide +kernel
theorem dL_waxed_93 : decode cL_waxed 93 = .ok (.iconst 0, 1) := by decide +kernel
theorem dL_waxed_94 : decode cL_waxed 94 = .ok (.istore 7, 2) := by decide +kernel
theorem dL_waxed_96 : decode cL_waxed 96 = .ok (.iinc 9 1, 3) := by decide +kernel
theorem dL_waxed_99 : decode cL_waxed 99 = .ok (.goto (-70), 3) := by decide +kernel
theorem dL_waxed_102 : decode cL_waxed 102 = .ok (.iconst 0, 1) := by decide +kernel
theorem dL_waxed_103 : decode cL_waxed 103 = .ok (.istore 9, 2) := by decide +kernel
theorem dL_waxed_105 : decode cL_waxed 105 = .ok (.iload 9, 2) := by decide +kernel
theorem dL_waxed_107 : decode cL_waxed 107 = .ok (.bipush 8, 2) := by decide +kernel
theorem dL_waxed_109 : decode cL_waxed 109 = .ok (.if_icmp .ge 168, 3) := by decide +kernel
theorem dL_waxed_112 : decode cL_waxed 112 = .ok (.iload 7, 2) := by decide +kernel
theorem dL_waxed_114 : decode cL_waxed 114 = .ok (.ifCond .eq 163, 3) := by decide +kernel
theorem dL_waxed_117 : decode cL_waxed 117 = .ok (.aload_n 0, 1) := by decide +kernel
theorem dL_waxed_118 : decode cL_waxed 118 = .ok (.iload 5, 2) := by decide +kernel
theorem dL_waxed_120 : decode cL_waxed 120 = .ok (.iload 9, 2) := by decide +kernel
theorem dL_waxed_122 : decode cL_waxed 122 = .ok (.invokevirtual 146, 3) := by decide +kernel
theorem dL_waxed_125 : decode cL_waxed 125 = .ok (.istore 10, 2) := by decide +kernel
theorem dL_waxed_127 : decode cL_waxed 127 = .ok (.iload 10, 2) := by decide +kernel
theorem dL_waxed_129 : decode cL_waxed 129 = .ok (.bipush (-4), 2) := by decide +kernel
theorem dL_waxed_131 : decode cL_waxed 131 = .ok (.if_icmp .ne 7, 3) := by decide +kernel
theorem dL_waxed_134 : decode cL_waxed 134 = .ok (.iconst 1, 1) := by decide +kernel
theorem dL_waxed_135 : decode cL_waxed 135 = .ok (.goto 4, 3) := by decide +kernel
theorem dL_waxed_138 : decode cL_waxed 138 = .ok (.iconst 0, 1) := by decide +kernel
theorem dL_waxed_139 : decode cL_waxed 139 = .ok (.iload 8, 2) := by decide +kernel
theorem dL_waxed_141 : decode cL_waxed 141 = .ok (.iload 9, 2) := by decide +kernel
theorem dL_waxed_143 : decode cL_waxed 143 = .ok (.ishr, 1) := by decide +kernel
theorem dL_waxed_144 : decode cL_waxed 144 = .ok (.iconst 1, 1) := by decide +kernel
theorem dL_waxed_145 : decode cL_waxed 145 = .ok (.iand, 1) := by decide +kernel
theorem dL_waxed_146 : decode cL_waxed 146 = .ok (.ifCond .ne 7, 3) := by decide +kernel
theorem dL_waxed_149 : decode cL_waxed 149 = .ok (.iconst 1, 1) := by decide +kernel
theorem dL_waxed_150 : decode cL_waxed 150 = .ok (.goto 4, 3) := by decide +kernel
theorem dL_waxed_153 : decode cL_waxed 153 = .ok (.iconst 0, 1) := by decide +kernel
theorem dL_waxed_154 : decode cL_waxed 154 = .ok (.if_icmp .ne 34, 3) := by decide +kernel
theorem dL_waxed_157 : decode cL_waxed 157 = .ok (.iload 10, 2) := by decide +kernel
theorem dL_waxed_159 : decode cL_waxed 159 = .ok (.bipush 100, 2) := by decide +kernel
theorem dL_waxed_161 : decode cL_waxed 161 = .ok (.if_icmp .ne 7, 3) := by decide +kernel
theorem dL_waxed_164 : decode cL_waxed 164 = .ok (.iconst 1, 1) := by decide +kernel
theorem dL_waxed_165 : decode cL_waxed 165 = .ok (.goto 4, 3) := by decide +kernel
theorem dL_waxed_168 : decode cL_waxed 168 = .ok (.iconst 0, 1) := by decide +kernel
theorem dL_waxed_169 : decode cL_waxed 169 = .ok (.iload 6, 2) := by decide +kernel
theorem dL_waxed_171 : decode cL_waxed 171 = .ok (.iload 9, 2) := by decide +kernel
theorem dL_waxed_173 : decode cL_waxed 173 = .ok (.if_icmp .ne 7, 3) := by decide +kernel
theorem dL_waxed_176 : decode cL_waxed 176 = .ok (.iconst 1, 1) := by decide +kernel
theorem dL_waxed_177 : decode cL_waxed 177 = .ok (.goto 4, 3) := by decide +kernel
theorem dL_waxed_180 : decode cL_waxed 180 = .ok (.iconst 0, 1) := by decide +kernel
theorem dL_waxed_181 : decode cL_waxed 181 = .ok (.if_icmp .ne 7, 3) := by decide +kernel
theorem dL_waxed_184 : decode cL_waxed 184 = .ok (.iconst 1, 1) := by decide +kernel
theorem dL_waxed_185 : decode cL_waxed 185 = .ok (.goto 4, 3) := by decide +kernel
theorem dL_waxed_188 : decode cL_waxed 188 = .ok (.iconst 0, 1) := by decide +kernel
theorem dL_waxed_189 : decode cL_waxed 189 = .ok (.istore 7, 2) := by decide +kernel
theorem dL_waxed_191 : decode cL_waxed 191 = .ok (.iload 7, 2) := by decide +kernel
theorem dL_waxed_193 : decode cL_waxed 193 = .ok (.ifCond .eq 78, 3) := by decide +kernel
theorem dL_waxed_196 : decode cL_waxed 196 = .ok (.iload 10, 2) := by decide +kernel
theorem dL_waxed_198 : decode cL_waxed 198 = .ok (.ifCond .lt 73, 3) := by decide +kernel
theorem dL_waxed_201 : decode cL_waxed 201 = .ok (.iload 10, 2) := by decide +kernel
theorem dL_waxed_203 : decode cL_waxed 203 = .ok (.bipush 100, 2) := by decide +kernel
theorem dL_waxed_205 : decode cL_waxed 205 = .ok (.if_icmp .ge 66, 3) := by decide +kernel
theorem dL_waxed_208 : decode cL_waxed 208 = .ok (.aload_n 0, 1) := by decide +kernel
theorem dL_waxed_209 : decode cL_waxed 209 = .ok (.iload 5, 2) := by decide +kernel
theorem dL_waxed_211 : decode cL_waxed 211 = .ok (.iload 10, 2) := by decide +kernel
theorem dL_waxed_213 : decode cL_waxed 213 = .ok (.bipush 10, 2) := by decide +kernel
theorem dL_waxed_215 : decode cL_waxed 215 = .ok (.idiv, 1) := by decide +kernel
theorem dL_waxed_216 : decode cL_waxed 216 = .ok (.invokevirtual 143, 3) := by decide +kernel
theorem dL_waxed_219 : decode cL_waxed 219 = .ok (.iload 9, 2) := by decide +kernel
theorem dL_waxed_221 : decode cL_waxed 221 = .ok (.ishr, 1) := by decide +kernel
theorem dL_waxed_222 : decode cL_waxed 222 = .ok (.iconst 1, 1) := by decide +kernel
theorem dL_waxed_223 : decode cL_waxed 223 = .ok (.iand, 1) := by decide +kernel
theorem dL_waxed_224 : decode cL_waxed 224 = .ok (.iconst 1, 1) := by decide +kernel
theorem dL_waxed_225 : decode cL_waxed 225 = .ok (.if_icmp .ne 43, 3) := by decide +kernel
theorem dL_waxed_228 : decode cL_waxed 228 = .ok (.aload_n 0, 1) := by decide +kernel
theorem dL_waxed_229 : decode cL_waxed 229 = .ok (.iload 10, 2) := by decide +kernel
theorem dL_waxed_231 : decode cL_waxed 231 = .ok (.bipush 10, 2) := by decide +kernel
theorem dL_waxed_233 : decode cL_waxed 233 = .ok (.idiv, 1) := by decide +kernel
theorem dL_waxed_234 : decode cL_waxed 234 = .ok (.iload 10, 2) := by decide +kernel
theorem dL_waxed_236 : decode cL_waxed 236 = .ok (.bipush 10, 2) := by decide +kernel
theorem dL_waxed_238 : decode cL_waxed 238 = .ok (.irem, 1) := by decide +kernel
theorem dL_waxed_239 : decode cL_waxed 239 = .ok (.invokevirtual 52, 3) := by decide +kernel
theorem dL_waxed_242 : decode cL_waxed 242 = .ok (.ifCond .lt 26, 3) := by decide +kernel
theorem dL_waxed_245 : decode cL_waxed 245 = .ok (.aload_n 0, 1) := by decide +kernel
theorem dL_waxed_246 : decode cL_waxed 246 = .ok (.iload 5, 2) := by decide +kernel
theorem dL_waxed_248 : decode cL_waxed 248 = .ok (.invokevirtual 130, 3) := by decide +kernel
theorem dL_waxed_251 : decode cL_waxed 251 = .ok (.iload 9, 2) := by decide +kernel
theorem dL_waxed_253 : decode cL_waxed 253 = .ok (.if_icmp .ne 15, 3) := by decide +kernel
theorem dL_waxed_256 : decode cL_waxed 256 = .ok (.aload_n 0, 1) := by decide +kernel
theorem dL_waxed_257 : decode cL_waxed 257 = .ok (.invokevirtual 120, 3) := by decide +kernel
theorem dL_waxed_260 : decode cL_waxed 260 = .ok (.iconst 1, 1) := by decide +kernel
theorem dL_waxed_261 : decode cL_waxed 261 = .ok (.if_icmp .ne 7, 3) := by decide +kernel
theorem dL_waxed_264 : decode cL_waxed 264 = .ok (.iconst 1, 1) := by decide +kernel
theorem dL_waxed_265 : decode cL_waxed 265 = .ok (.goto 4, 3) := by decide +kernel
theorem dL_waxed_268 : decode cL_waxed 268 = .ok (.iconst 0, 1) := by decide +kernel
theorem dL_waxed_269 : decode cL_waxed 269 = .ok (.istore 7, 2) := by decide +kernel
theorem dL_waxed_271 : decode cL_waxed 271 = .ok (.iinc 9 1, 3) := by decide +kernel
theorem dL_waxed_274 : decode cL_waxed 274 = .ok (.goto (-169), 3) := by decide +kernel
theorem dL_waxed_277 : decode cL_waxed 277 = .ok (.aload_n 0, 1) := by decide +kernel
theorem dL_waxed_278 : decode cL_waxed 278 = .ok (.iload 5, 2) := by decide +kernel
theorem dL_waxed_280 : decode cL_waxed 280 = .ok (.invokevirtual 149, 3) := by decide +kernel
theorem dL_waxed_283 : decode cL_waxed 283 = .ok (.istore 9, 2) := by decide +kernel
theorem dL_waxed_285 : decode cL_waxed 285 = .ok (.iload 7, 2) := by decide +kernel
theorem dL_waxed_287 : decode cL_waxed 287 = .ok (.ifCond .eq 74, 3) := by decide +kernel
theorem dL_waxed_290 : decode cL_waxed 290 = .ok (.iload 9, 2) := by decide +kernel
theorem dL_waxed_292 : decode cL_waxed 292 = .ok (.bipush (-4), 2) := by decide +kernel
theorem dL_waxed_294 : decode cL_waxed 294 = .ok (.if_icmp .lt 67, 3) := by decide +kernel
theorem dL_waxed_297 : decode cL_waxed 297 = .ok (.iload 9, 2) := by decide +kernel
theorem dL_waxed_299 : decode cL_waxed 299 = .ok (.bipush 21, 2) := by decide +kernel
theorem dL_waxed_301 : decode cL_waxed 301 = .ok (.if_icmp .ge 60, 3) := by decide +kernel
theorem dL_waxed_304 : decode cL_waxed 304 = .ok (.iload 6, 2) := by decide +kernel
theorem dL_waxed_306 : decode cL_waxed 306 = .ok (.bipush 7, 2) := by decide +kernel
theorem dL_waxed_308 : decode cL_waxed 308 = .ok (.if_icmp .gt 20, 3) := by decide +kernel
theorem dL_waxed_311 : decode cL_waxed 311 = .ok (.iload 9, 2) := by decide +kernel
theorem dL_waxed_313 : decode cL_waxed 313 = .ok (.ifCond .le 48, 3) := by decide +kernel
theorem dL_waxed_316 : decode cL_waxed 316 = .ok (.iload 9, 2) := by decide +kernel
theorem dL_waxed_318 : decode cL_waxed 318 = .ok (.aload_n 0, 1) := by decide +kernel
theorem dL_waxed_319 : decode cL_waxed 319 = .ok (.iload 5, 2) := by decide +kernel
theorem dL_waxed_321 : decode cL_waxed 321 = .ok (.iconst 1, 1) := by decide +kernel
theorem dL_waxed_322 : decode cL_waxed 322 = .ok (.invokevirtual 69, 3) := by decide +kernel
theorem dL_waxed_325 : decode cL_waxed 325 = .ok (.if_icmp .gt 36, 3) := by decide +kernel
theorem dL_waxed_328 : decode cL_waxed 328 = .ok (.iload 9, 2) := by decide +kernel
theorem dL_waxed_330 : decode cL_waxed 330 = .ok (.aload_n 0, 1) := by decide +kernel
theorem dL_waxed_331 : decode cL_waxed 331 = .ok (.iload 5, 2) := by decide +kernel
theorem dL_waxed_333 : decode cL_waxed 333 = .ok (.iconst 1, 1) := by decide +kernel
theorem dL_waxed_334 : decode cL_waxed 334 = .ok (.invokevirtual 69, 3) := by decide +kernel
theorem dL_waxed_337 : decode cL_waxed 337 = .ok (.if_icmp .ne 10, 3) := by decide +kernel
theorem dL_waxed_340 : decode cL_waxed 340 = .ok (.iload 6, 2) := by decide +kernel
theorem dL_waxed_342 : decode cL_waxed 342 = .ok (.bipush 8, 2) := by decide +kernel
theorem dL_waxed_344 : decode cL_waxed 344 = .ok (.if_icmp .ge 17, 3) := by decide +kernel
theorem dL_waxed_347 : decode cL_waxed 347 = .ok (.aload_n 0, 1) := by decide +kernel
theorem dL_waxed_348 : decode cL_waxed 348 = .ok (.aload_n 2, 1) := by decide +kernel
theorem dL_waxed_349 : decode cL_waxed 349 = .ok (.invokestatic 87, 3) := by decide +kernel
theorem dL_waxed_352 : decode cL_waxed 352 = .ok (.lload_n 3, 1) := by decide +kernel
theorem dL_waxed_353 : decode cL_waxed 353 = .ok (.lcmp, 1) := by decide +kernel
theorem dL_waxed_354 : decode cL_waxed 354 = .ok (.ifCond .ne 7, 3) := by decide +kernel
theorem dL_waxed_357 : decode cL_waxed 357 = .ok (.iconst 1, 1) := by decide +kernel
theorem dL_waxed_358 : decode cL_waxed 358 = .ok (.goto 4, 3) := by decide +kernel
theorem dL_waxed_361 : decode cL_waxed 361 = .ok (.iconst 0, 1) := by decide +kernel
theorem dL_waxed_362 : decode cL_waxed 362 = .ok (.ireturn, 1) := by decide +kernel
theorem dL_through_0 : decode cL_through 0 = .ok (.iconst 0, 1) := by decide +kernel
theorem dL_through_1 : decode cL_through 1 = .ok (.istore_n 2, 1) := by decide +kernel
theorem dL_through_2 : decode cL_through 2 = .ok (.iconst 0, 1) := by decide +kernel
theorem dL_through_3 : decode cL_through 3 = .ok (.istore_n 3, 1) := by decide +kernel
theorem dL_through_4 : decode cL_through 4 = .ok (.iload_n 3, 1) := by decide +kernel
theorem dL_through_5 : decode cL_through 5 = .ok (.aload_n 1, 1) := by decide +kernel
theorem dL_through_6 : decode cL_through 6 = .ok (.iconst 0, 1) := by decide +kernel
theorem dL_through_7 : decode cL_through 7 = .ok (.iaload, 1) := by decide +kernel
theorem dL_through_8 : decode cL_through 8 = .ok (.if_icmp .ge 27, 3) := by decide +kernel
theorem dL_through_11 : decode cL_through 11 = .ok (.iload_n 2, 1) := by decide +kernel
theorem dL_through_12 : decode cL_through 12 = .ok (.aload_n 0, 1) := by decide +kernel
theorem dL_through_13 : decode cL_through 13 = .ok (.iload_n 3, 1) := by decide +kernel
theorem dL_through_14 : decode cL_through 14 = .ok (.invokevirtual 130, 3) := by decide +kernel
theorem dL_through_17 : decode cL_through 17 = .ok (.bipush 8, 2) := by decide +kernel
theorem dL_through_19 : decode cL_through 19 = .ok (.if_icmp .ge 7, 3) := by decide +kernel
theorem dL_through_22 : decode cL_through 22 = .ok (.iconst 1, 1) := by decide +kernel
theorem dL_through_23 : decode cL_through 23 = .ok (.goto 4, 3) := by decide +kernel
theorem dL_through_26 : decode cL_through 26 = .ok (.iconst 0, 1) := by decide +kernel
theorem dL_through_27 : decode cL_through 27 = .ok (.iadd, 1) := by decide +kernel
theorem dL_through_28 : decode cL_through 28 = .ok (.istore_n 2, 1) := by decide +kernel
theorem dL_through_29 : decode cL_through 29 = .ok (.iinc 3 1, 3) := by decide +kernel
theorem dL_through_32 : decode cL_through 32 = .ok (.goto (-28), 3) := by decide +kernel
theorem dL_through_35 : decode cL_through 35 = .ok (.iload_n 2, 1) := by decide +kernel
theorem dL_through_36 : decode cL_through 36 = .ok (.ireturn, 1) := by decide +kernel
theorem dL_hammered_0 : decode cL_hammered 0 = .ok (.aload_n 0, 1) := by decide +kernel
theorem dL_hammered_1 : decode cL_hammered 1 = .ok (.iconst 0, 1) := by decide +kernel
theorem dL_hammered_2 : decode cL_hammered 2 = .ok (.invokevirtual 152, 3) := by decide +kernel
theorem dL_hammered_5 : decode cL_hammered 5 = .ok (.istore 4, 2) := by decide +kernel
theorem dL_hammered_7 : decode cL_hammered 7 = .ok (.aload_n 0, 1) := by decide +kernel
theorem dL_hammered_8 : decode cL_hammered 8 = .ok (.iconst 1, 1) := by decide +kernel
theorem dL_hammered_9 : decode cL_hammered 9 = .ok (.invokevirtual 152, 3) := by decide +kernel
theorem dL_hammered_12 : decode cL_hammered 12 = .ok (.istore 5, 2) := by decide +kernel
theorem dL_hammered_14 : decode cL_hammered 14 = .ok (.iload 4, 2) := by decide +kernel
theorem dL_hammered_16 : decode cL_hammered 16 = .ok (.ifCond .lt 27, 3) := by decide +kernel
theorem dL_hammered_19 : decode cL_hammered 19 = .ok (.iload 4, 2) := by decide +kernel
theorem dL_hammered_21 : decode cL_hammered 21 = .ok (.bipush 10, 2) := by decide +kernel
theorem dL_hammered_23 : decode cL_hammered 23 = .ok (.if_icmp .ge 20, 3) := by decide +kernel
theorem dL_hammered_26 : decode cL_hammered 26 = .ok (.iload 5, 2) := by decide +kernel
theorem dL_hammered_28 : decode cL_hammered 28 = .ok (.ifCond .lt 15, 3) := by decide +kernel
theorem dL_hammered_31 : decode cL_hammered 31 = .ok (.iload 5, 2) := by decide +kernel
theorem dL_hammered_33 : decode cL_hammered 33 = .ok (.aload_n 1, 1) := by decide +kernel
theorem dL_hammered_34 : decode cL_hammered 34 = .ok (.iconst 0, 1) := by decide +kernel
theorem dL_hammered_35 : decode cL_hammered 35 = .ok (.iaload, 1) := by decide +kernel
theorem dL_hammered_36 : decode cL_hammered 36 = .ok (.if_icmp .gt 7, 3) := by decide +kernel
theorem dL_hammered_39 : decode cL_hammered 39 = .ok (.iconst 1, 1) := by decide +kernel
theorem dL_hammered_40 : decode cL_hammered 40 = .ok (.goto 4, 3) := by decide +kernel
theorem dL_hammered_43 : decode cL_hammered 43 = .ok (.iconst 0, 1) := by decide +kernel
theorem dL_hammered_44 : decode cL_hammered 44 = .ok (.istore 6, 2) := by decide +kernel
theorem dL_hammered_46 : decode cL_hammered 46 = .ok (.iconst 0, 1) := by decide +kernel
theorem dL_hammered_47 : decode cL_hammered 47 = .ok (.istore 7, 2) := by decide +kernel
theorem dL_hammered_49 : decode cL_hammered 49 = .ok (.iload 7, 2) := by decide +kernel
theorem dL_hammered_51 : decode cL_hammered 51 = .ok (.bipush 10, 2) := by decide +kernel
theorem dL_hammered_53 : decode cL_hammered 53 = .ok (.if_icmp .ge 128, 3) := by decide +kernel
theorem dL_hammered_56 : decode cL_hammered 56 = .ok (.iload 6, 2) := by decide +kernel
theorem dL_hammered_58 : decode cL_hammered 58 = .ok (.ifCond .eq 123, 3) := by decide +kernel
theorem dL_hammered_61 : decode cL_hammered 61 = .ok (.aload_n 0, 1) := by decide +kernel
theorem dL_hammered_62 : decode cL_hammered 62 = .ok (.iload 7, 2) := by decide +kernel
theorem dL_hammered_64 : decode cL_hammered 64 = .ok (.iconst 1, 1) := by decide +kernel
theorem dL_hammered_65 : decode cL_hammered 65 = .ok (.invokevirtual 66, 3) := by decide +kernel
theorem dL_hammered_68 : decode cL_hammered 68 = .ok (.ifCond .eq 13, 3) := by decide +kernel
theorem dL_hammered_71 : decode cL_hammered 71 = .ok (.aload_n 0, 1) := by decide +kernel
theorem dL_hammered_72 : decode cL_hammered 72 = .ok (.iload 7, 2) := by decide +kernel
theorem dL_hammered_74 : decode cL_hammered 74 = .ok (.iconst 0, 1) := by decide +kernel
theorem dL_hammered_75 : decode cL_hammered 75 = .ok (.invokevirtual 56, 3) := by decide +kernel
theorem dL_hammered_78 : decode cL_hammered 78 = .ok (.ifCond .le 7, 3) := by decide +kernel
theorem dL_hammered_81 : decode cL_hammered 81 = .ok (.iconst 1, 1) := by decide +kernel
theorem dL_hammered_82 : decode cL_hammered 82 = .ok (.goto 4, 3) := by decide +kernel
theorem dL_hammered_85 : decode cL_hammered 85 = .ok (.iconst 0, 1) := by decide +kernel
theorem dL_hammered_86 : decode cL_hammered 86 = .ok (.istore 6, 2) := by decide +kernel
theorem dL_hammered_88 : decode cL_hammered 88 = .ok (.iload 6, 2) := by decide +kernel
theorem dL_hammered_90 : decode cL_hammered 90 = .ok (.ifCond .eq 11, 3) := by decide +kernel
theorem dL_hammered_93 : decode cL_hammered 93 = .ok (.aload_n 0, 1) := by decide +kernel
theorem dL_hammered_94 : decode cL_hammered 94 = .ok (.aload_n 1, 1) := by decide +kernel
theorem dL_hammered_95 : decode cL_hammered 95 = .ok (.invokestatic 155, 3) := by decide +kernel
theorem dL_hammered_98 : decode cL_hammered 98 = .ok (.goto 4, 3) := by decide +kernel
theorem dL_hammered_101 : decode cL_hammered 101 = .ok (.iconst 0, 1) := by decide +kernel
theorem dL_hammered_102 : decode cL_hammered 102 = .ok (.istore 8, 2) := by decide +kernel
theorem dL_hammered_104 : decode cL_hammered 104 = .ok (.iload 6, 2) := by decide +kernel
theorem dL_hammered_106 : decode cL_hammered 106 = .ok (.ifCond .eq 66, 3) := by decide +kernel
theorem dL_hammered_109 : decode cL_hammered 109 = .ok (.iload 7, 2) := by decide +kernel
theorem dL_hammered_111 : decode cL_hammered 111 = .ok (.iload 4, 2) := by decide +kernel
theorem dL_hammered_113 : decode cL_hammered 113 = .ok (.if_icmp .ge 13, 3) := by decide +kernel
theorem dL_hammered_116 : decode cL_hammered 116 = .ok (.iload 8, 2) := by decide +kernel
theorem dL_hammered_118 : decode cL_hammered 118 = .ok (.iload 5, 2) := by decide +kernel
theorem dL_hammered_120 : decode cL_hammered 120 = .ok (.if_icmp .ge 52, 3) := by decide +kernel
theorem dL_hammered_123 : decode cL_hammered 123 = .ok (.goto 27, 3) := by decide +kernel
theorem dL_hammered_126 : decode cL_hammered 126 = .ok (.iload 7, 2) := by decide +kernel
theorem dL_hammered_128 : decode cL_hammered 128 = .ok (.iload 4, 2) := by decide +kernel
theorem dL_hammered_130 : decode cL_hammered 130 = .ok (.if_icmp .ne 13, 3) := by decide +kernel
theorem dL_hammered_133 : decode cL_hammered 133 = .ok (.iload 8, 2) := by decide +kernel
theorem dL_hammered_135 : decode cL_hammered 135 = .ok (.iload 5, 2) := by decide +kernel
theorem dL_hammered_137 : decode cL_hammered 137 = .ok (.if_icmp .ne 35, 3) := by decide +kernel
theorem dL_hammered_140 : decode cL_hammered 140 = .ok (.goto 10, 3) := by decide +kernel
theorem dL_hammered_143 : decode cL_hammered 143 = .ok (.iload 8, 2) := by decide +kernel
theorem dL_hammered_145 : decode cL_hammered 145 = .ok (.iload 5, 2) := by decide +kernel
theorem dL_hammered_147 : decode cL_hammered 147 = .ok (.if_icmp .gt 25, 3) := by decide +kernel
theorem dL_hammered_150 : decode cL_hammered 150 = .ok (.aload_n 0, 1) := by decide +kernel
theorem dL_hammered_151 : decode cL_hammered 151 = .ok (.iload 7, 2) := by decide +kernel
theorem dL_hammered_153 : decode cL_hammered 153 = .ok (.iconst 1, 1) := by decide +kernel
theorem dL_hammered_154 : decode cL_hammered 154 = .ok (.invokevirtual 66, 3) := by decide +kernel
theorem dL_hammered_157 : decode cL_hammered 157 = .ok (.ifCond .ne 15, 3) := by decide +kernel
theorem dL_hammered_160 : decode cL_hammered 160 = .ok (.aload_n 0, 1) := by decide +kernel
theorem dL_hammered_161 : decode cL_hammered 161 = .ok (.invokevirtual 120, 3) := by decide +kernel
theorem dL_hammered_164 : decode cL_hammered 164 = .ok (.iconst 1, 1) := by decide +kernel
theorem dL_hammered_165 : decode cL_hammered 165 = .ok (.if_icmp .ne 7, 3) := by decide +kernel
theorem dL_hammered_168 : decode cL_hammered 168 = .ok (.iconst 1, 1) := by decide +kernel
theorem dL_hammered_169 : decode cL_hammered 169 = .ok (.goto 4, 3) := by decide +kernel
theorem dL_hammered_172 : decode cL_hammered 172 = .ok (.iconst 0, 1) := by decide +kernel
theorem dL_hammered_173 : decode cL_hammered 173 = .ok (.istore 6, 2) := by decide +kernel
theorem dL_hammered_175 : decode cL_hammered 175 = .ok (.iinc 7 1, 3) := by decide +kernel
theorem dL_hammered_178 : decode cL_hammered 178 = .ok (.goto (-129), 3) := by decide +kernel
theorem dL_hammered_181 : decode cL_hammered 181 = .ok (.iload 6, 2) := by decide +kernel
theorem dL_hammered_183 : decode cL_hammered 183 = .ok (.ifCond .eq 17, 3) := by decide +kernel
theorem dL_hammered_186 : decode cL_hammered 186 = .ok (.aload_n 0, 1) := by decide +kernel
theorem dL_hammered_187 : decode cL_hammered 187 = .ok (.aload_n 1, 1) := by decide +kernel
theorem dL_hammered_188 : decode cL_hammered 188 = .ok (.invokestatic 87, 3) := by decide +kernel
theorem dL_hammered_191 : decode cL_hammered 191 = .ok (.lload_n 2, 1) := by decide +kernel
theorem dL_hammered_192 : decode cL_hammered 192 = .ok (.lcmp, 1) := by decide +kernel
theorem dL_hammered_193 : decode cL_hammered 193 = .ok (.ifCond .ne 7, 3) := by decide +kernel
theorem dL_hammered_196 : decode cL_hammered 196 = .ok (.iconst 1, 1) := by decide +kernel
theorem dL_hammered_197 : decode cL_hammered 197 = .ok (.goto 4, 3) := by decide +kernel
theorem dL_hammered_200 : decode cL_hammered 200 = .ok (.iconst 0, 1) := by decide +kernel
theorem dL_hammered_201 : decode cL_hammered 201 = .ok (.ireturn, 1) := by decide +kernel
theorem dL_ordered_0 : decode cL_ordered 0 = .ok (.aload_n 0, 1) := by decide +kernel
theorem dL_ordered_1 : decode cL_ordered 1 = .ok (.iconst (-1), 1) := by decide +kernel
theorem dL_ordered_2 : decode cL_ordered 2 = .ok (.invokevirtual 159, 3) := by decide +kernel
theorem dL_ordered_5 : decode cL_ordered 5 = .ok (.istore 4, 2) := by decide +kernel
theorem dL_ordered_7 : decode cL_ordered 7 = .ok (.aload_n 0, 1) := by decide +kernel
theorem dL_ordered_8 : decode cL_ordered 8 = .ok (.iconst 2, 1) := by decide +kernel
theorem dL_ordered_9 : decode cL_ordered 9 = .ok (.invokevirtual 59, 3) := by decide +kernel
theorem dL_ordered_12 : decode cL_ordered 12 = .ok (.istore 5, 2) := by decide +kernel
theorem dL_ordered_14 : decode cL_ordered 14 = .ok (.iconst 0, 1) := by decide +kernel
theorem dL_ordered_15 : decode cL_ordered 15 = .ok (.istore 6, 2) := by decide +kernel
theorem dL_ordered_17 : decode cL_ordered 17 = .ok (.iconst 5, 1) := by decide +kernel
theorem dL_ordered_18 : decode cL_ordered 18 = .ok (.newarray .int, 2) := by decide +kernel
theorem dL_ordered_20 : decode cL_ordered 20 = .ok (.astore 7, 2) := by decide +kernel
theorem dL_ordered_22 : decode cL_ordered 22 = .ok (.iload 4, 2) := by decide +kernel
theorem dL_ordered_24 : decode cL_ordered 24 = .ok (.aload_n 0, 1) := by decide +kernel
theorem dL_ordered_25 : decode cL_ordered 25 = .ok (.iconst 3, 1) := by decide +kernel
theorem dL_ordered_26 : decode cL_ordered 26 = .ok (.invokevirtual 59, 3) := by decide +kernel
theorem dL_ordered_29 : decode cL_ordered 29 = .ok (.invokestatic 162, 3) := by decide +kernel
theorem dL_ordered_32 : decode cL_ordered 32 = .ok (.if_icmp .lt 29, 3) := by decide +kernel
theorem dL_ordered_35 : decode cL_ordered 35 = .ok (.iload 4, 2) := by decide +kernel
theorem dL_ordered_37 : decode cL_ordered 37 = .ok (.aload_n 1, 1) := by decide +kernel
theorem dL_ordered_38 : decode cL_ordered 38 = .ok (.iconst 0, 1) := by decide +kernel
theorem dL_ordered_39 : decode cL_ordered 39 = .ok (.iaload, 1) := by decide +kernel
theorem dL_ordered_40 : decode cL_ordered 40 = .ok (.if_icmp .gt 21, 3) := by decide +kernel
theorem dL_ordered_43 : decode cL_ordered 43 = .ok (.aload_n 0, 1) := by decide +kernel
theorem dL_ordered_44 : decode cL_ordered 44 = .ok (.iload 5, 2) := by decide +kernel
theorem dL_ordered_46 : decode cL_ordered 46 = .ok (.invokestatic 162, 3) := by decide +kernel
theorem dL_ordered_49 : decode cL_ordered 49 = .ok (.invokevirtual 159, 3) := by decide +kernel
theorem dL_ordered_52 : decode cL_ordered 52 = .ok (.bipush (-4), 2) := by decide +kernel
theorem dL_ordered_54 : decode cL_ordered 54 = .ok (.if_icmp .ne 7, 3) := by decide +kernel
theorem dL_ordered_57 : decode cL_ordered 57 = .ok (.iconst 1, 1) := by decide +kernel
theorem dL_ordered_58 : decode cL_ordered 58 = .ok (.goto 4, 3) := by decide +kernel
theorem dL_ordered_61 : decode cL_ordered 61 = .ok (.iconst 0, 1) := by decide +kernel
theorem dL_ordered_62 : decode cL_ordered 62 = .ok (.istore 8, 2) := by decide +kernel
theorem dL_ordered_64 : decode cL_ordered 64 = .ok (.iconst 0, 1) := by decide +kernel
theorem dL_ordered_65 : decode cL_ordered 65 = .ok (.istore 9, 2) := by decide +kernel
theorem dL_ordered_67 : decode cL_ordered 67 = .ok (.iload 9, 2) := by decide +kernel
theorem dL_ordered_69 : decode cL_ordered 69 = .ok (.iload 5, 2) := by decide +kernel
theorem dL_ordered_71 : decode cL_ordered 71 = .ok (.invokestatic 162, 3) := by decide +kernel
theorem dL_ordered_74 : decode cL_ordered 74 = .ok (.if_icmp .ge 88, 3) := by decide +kernel
theorem dL_ordered_77 : decode cL_ordered 77 = .ok (.iload 8, 2) := by decide +kernel
theorem dL_ordered_79 : decode cL_ordered 79 = .ok (.ifCond .eq 83, 3) := by decide +kernel
theorem dL_ordered_82 : decode cL_ordered 82 = .ok (.aload 7, 2) := by decide +kernel
theorem dL_ordered_84 : decode cL_ordered 84 = .ok (.iload 9, 2) := by decide +kernel
theorem dL_ordered_86 : decode cL_ordered 86 = .ok (.aload_n 0, 1) := by decide +kernel
theorem dL_ordered_87 : decode cL_ordered 87 = .ok (.iload 9, 2) := by decide +kernel
theorem dL_ordered_89 : decode cL_ordered 89 = .ok (.invokevirtual 159, 3) := by decide +kernel
theorem dL_ordered_92 : decode cL_ordered 92 = .ok (.iastore, 1) := by decide +kernel
theorem dL_ordered_93 : decode cL_ordered 93 = .ok (.aload 7, 2) := by decide +kernel
theorem dL_ordered_95 : decode cL_ordered 95 = .ok (.iload 9, 2) := by decide +kernel
theorem dL_ordered_97 : decode cL_ordered 97 = .ok (.iaload, 1) := by decide +kernel
theorem dL_ordered_98 : decode cL_ordered 98 = .ok (.ifCond .lt 34, 3) := by decide +kernel
theorem dL_ordered_101 : decode cL_ordered 101 = .ok (.iload 5, 2) := by decide +kernel
theorem dL_ordered_103 : decode cL_ordered 103 = .ok (.aload 7, 2) := by decide +kernel
theorem dL_ordered_105 : decode cL_ordered 105 = .ok (.iload 9, 2) := by decide +kernel
theorem dL_ordered_107 : decode cL_ordered 107 = .ok (.iaload, 1) := by decide +kernel
theorem dL_ordered_108 : decode cL_ordered 108 = .ok (.ishr, 1) := by decide +kernel
theorem dL_ordered_109 : decode cL_ordered 109 = .ok (.iconst 1, 1) := by decide +kernel
theorem dL_ordered_110 : decode cL_ordered 110 = .ok (.iand, 1) := by decide +kernel
theorem dL_ordered_111 : decode cL_ordered 111 = .ok (.iconst 1, 1) := by decide +kernel
theorem dL_ordered_112 : decode cL_ordered 112 = .ok (.if_icmp .ne 20, 3) := by decide +kernel
theorem dL_ordered_115 : decode cL_ordered 115 = .ok (.iload 6, 2) := by decide +kernel
theorem dL_ordered_117 : decode cL_ordered 117 = .ok (.aload 7, 2) := by decide +kernel
theorem dL_ordered_119 : decode cL_ordered 119 = .ok (.iload 9, 2) := by decide +kernel
theorem dL_ordered_121 : decode cL_ordered 121 = .ok (.iaload, 1) := by decide +kernel
theorem dL_ordered_122 : decode cL_ordered 122 = .ok (.ishr, 1) := by decide +kernel
theorem dL_ordered_123 : decode cL_ordered 123 = .ok (.iconst 1, 1) := by decide +kernel
theorem dL_ordered_124 : decode cL_ordered 124 = .ok (.iand, 1) := by decide +kernel
theorem dL_ordered_125 : decode cL_ordered 125 = .ok (.ifCond .ne 7, 3) := by decide +kernel
theorem dL_ordered_128 : decode cL_ordered 128 = .ok (.iconst 1, 1) := by decide +kernel
theorem dL_ordered_129 : decode cL_ordered 129 = .ok (.goto 4, 3) := by decide +kernel
theorem dL_ordered_132 : decode cL_ordered 132 = .ok (.iconst 0, 1) := by decide +kernel
theorem dL_ordered_133 : decode cL_ordered 133 = .ok (.istore 8, 2) := by decide +kernel
theorem dL_ordered_135 : decode cL_ordered 135 = .ok (.iload 6, 2) := by decide +kernel
theorem dL_ordered_137 : decode cL_ordered 137 = .ok (.iload 8, 2) := by decide +kernel
theorem dL_ordered_139 : decode cL_ordered 139 = .ok (.ifCond .eq 13, 3) := by decide +kernel
theorem dL_ordered_142 : decode cL_ordered 142 = .ok (.iconst 1, 1) := by decide +kernel
theorem dL_ordered_143 : decode cL_ordered 143 = .ok (.aload 7, 2) := by decide +kernel
theorem dL_ordered_145 : decode cL_ordered 145 = .ok (.iload 9, 2) := by decide +kernel
theorem dL_ordered_147 : decode cL_ordered 147 = .ok (.iaload, 1) := by decide +kernel
theorem dL_ordered_148 : decode cL_ordered 148 = .ok (.ishl, 1) := by decide +kernel
theorem dL_ordered_149 : decode cL_ordered 149 = .ok (.goto 4, 3) := by decide +kernel
theorem dL_ordered_152 : decode cL_ordered 152 = .ok (.iconst 0, 1) := by decide +kernel
theorem dL_ordered_153 : decode cL_ordered 153 = .ok (.ior, 1) := by decide +kernel
theorem dL_ordered_154 : decode cL_ordered 154 = .ok (.istore 6, 2) := by decide +kernel
theorem dL_ordered_156 : decode cL_ordered 156 = .ok (.iinc 9 1, 3) := by decide +kernel
theorem dL_ordered_159 : decode cL_ordered 159 = .ok (.goto (-92), 3) := by decide +kernel
theorem dL_ordered_162 : decode cL_ordered 162 = .ok (.iload 5, 2) := by decide +kernel
theorem dL_ordered_164 : decode cL_ordered 164 = .ok (.invokestatic 162, 3) := by decide +kernel
theorem dL_ordered_167 : decode cL_ordered 167 = .ok (.istore 9, 2) := by decide +kernel
theorem dL_ordered_169 : decode cL_ordered 169 = .ok (.iconst 0, 1) := by decide +kernel
theorem dL_ordered_170 : decode cL_ordered 170 = .ok (.istore 10, 2) := by decide +kernel
theorem dL_ordered_172 : decode cL_ordered 172 = .ok (.iload 10, 2) := by decide +kernel
theorem dL_ordered_174 : decode cL_ordered 174 = .ok (.iload 9, 2) := by decide +kernel
theorem dL_ordered_176 : decode cL_ordered 176 = .ok (.if_icmp .ge 33, 3) := by decide +kernel
theorem dL_ordered_179 : decode cL_ordered 179 = .ok (.iload 8, 2) := by decide +kernel
theorem dL_ordered_181 : decode cL_ordered 181 = .ok (.ifCond .eq 28, 3) := by decide +kernel
theorem dL_ordered_184 : decode cL_ordered 184 = .ok (.aload_n 0, 1) := by decide +kernel
theorem dL_ordered_185 : decode cL_ordered 185 = .ok (.aload 7, 2) := by decide +kernel
theorem dL_ordered_187 : decode cL_ordered 187 = .ok (.iload 10, 2) := by decide +kernel
theorem dL_ordered_189 : decode cL_ordered 189 = .ok (.iaload, 1) := by decide +kernel
theorem dL_ordered_190 : decode cL_ordered 190 = .ok (.invokevirtual 43, 3) := by decide +kernel
theorem dL_ordered_193 : decode cL_ordered 193 = .ok (.ifCond .lt 7, 3) := by decide +kernel
theorem dL_ordered_196 : decode cL_ordered 196 = .ok (.iconst 1, 1) := by decide +kernel
theorem dL_ordered_197 : decode cL_ordered 197 = .ok (.goto 4, 3) := by decide +kernel
theorem dL_ordered_200 : decode cL_ordered 200 = .ok (.iconst 0, 1) := by decide +kernel
theorem dL_ordered_201 : decode cL_ordered 201 = .ok (.istore 8, 2) := by decide +kernel
theorem dL_ordered_203 : decode cL_ordered 203 = .ok (.iinc 10 1, 3) := by decide +kernel
theorem dL_ordered_206 : decode cL_ordered 206 = .ok (.goto (-34), 3) := by decide +kernel
theorem dL_ordered_209 : decode cL_ordered 209 = .ok (.iload 8, 2) := by decide +kernel
theorem dL_ordered_211 : decode cL_ordered 211 = .ok (.ifCond .eq 28, 3) := by decide +kernel
theorem dL_ordered_214 : decode cL_ordered 214 = .ok (.aload_n 0, 1) := by decide +kernel
theorem dL_ordered_215 : decode cL_ordered 215 = .ok (.iconst 3, 1) := by decide +kernel
theorem dL_ordered_216 : decode cL_ordered 216 = .ok (.invokevirtual 59, 3) := by decide +kernel
theorem dL_ordered_219 : decode cL_ordered 219 = .ok (.invokestatic 162, 3) := by decide +kernel
theorem dL_ordered_222 : decode cL_ordered 222 = .ok (.iload 4, 2) := by decide +kernel
theorem dL_ordered_224 : decode cL_ordered 224 = .ok (.if_icmp .ne 15, 3) := by decide +kernel
theorem dL_ordered_227 : decode cL_ordered 227 = .ok (.aload_n 0, 1) := by decide +kernel
theorem dL_ordered_228 : decode cL_ordered 228 = .ok (.invokevirtual 120, 3) := by decide +kernel
theorem dL_ordered_231 : decode cL_ordered 231 = .ok (.iconst 1, 1) := by decide +kernel
theorem dL_ordered_232 : decode cL_ordered 232 = .ok (.if_icmp .ne 7, 3) := by decide +kernel
theorem dL_ordered_235 : decode cL_ordered 235 = .ok (.iconst 1, 1) := by decide +kernel
theorem dL_ordered_236 : decode cL_ordered 236 = .ok (.goto 4, 3) := by decide +kernel
theorem dL_ordered_239 : decode cL_ordered 239 = .ok (.iconst 0, 1) := by decide +kernel
theorem dL_ordered_240 : decode cL_ordered 240 = .ok (.istore 8, 2) := by decide +kernel
theorem dL_ordered_242 : decode cL_ordered 242 = .ok (.iconst 0, 1) := by decide +kernel
theorem dL_ordered_243 : decode cL_ordered 243 = .ok (.istore 10, 2) := by decide +kernel
theorem dL_ordered_245 : decode cL_ordered 245 = .ok (.iload 10, 2) := by decide +kernel
theorem dL_ordered_247 : decode cL_ordered 247 = .ok (.aload_n 1, 1) := by decide +kernel
theorem dL_ordered_248 : decode cL_ordered 248 = .ok (.iconst 0, 1) := by decide +kernel
theorem dL_ordered_249 : decode cL_ordered 249 = .ok (.iaload, 1) := by decide +kernel
theorem dL_ordered_250 : decode cL_ordered 250 = .ok (.if_icmp .ge 40, 3) := by decide +kernel
theorem dL_ordered_253 : decode cL_ordered 253 = .ok (.iload 8, 2) := by decide +kernel
theorem dL_ordered_255 : decode cL_ordered 255 = .ok (.ifCond .eq 35, 3) := by decide +kernel
theorem dL_ordered_258 : decode cL_ordered 258 = .ok (.iload 5, 2) := by decide +kernel
theorem dL_ordered_260 : decode cL_ordered 260 = .ok (.iload 10, 2) := by decide +kernel
theorem dL_ordered_262 : decode cL_ordered 262 = .ok (.ishr, 1) := by decide +kernel
theorem dL_ordered_263 : decode cL_ordered 263 = .ok (.iconst 1, 1) := by decide +kernel
theorem dL_ordered_264 : decode cL_ordered 264 = .ok (.iand, 1) := by decide +kernel
theorem dL_ordered_265 : decode cL_ordered 265 = .ok (.ifCond .eq 12, 3) := by decide +kernel
theorem dL_ordered_268 : decode cL_ordered 268 = .ok (.aload_n 0, 1) := by decide +kernel
theorem dL_ordered_269 : decode cL_ordered 269 = .ok (.iload 10, 2) := by decide +kernel
theorem dL_ordered_271 : decode cL_ordered 271 = .ok (.invokevirtual 43, 3) := by decide +kernel
theorem dL_ordered_274 : decode cL_ordered 274 = .ok (.ifCond .lt 7, 3) := by decide +kernel
theorem dL_ordered_277 : decode cL_ordered 277 = .ok (.iconst 1, 1) := by decide +kernel
theorem dL_ordered_278 : decode cL_ordered 278 = .ok (.goto 4, 3) := by decide +kernel
theorem dL_ordered_281 : decode cL_ordered 281 = .ok (.iconst 0, 1) := by decide +kernel
theorem dL_ordered_282 : decode cL_ordered 282 = .ok (.istore 8, 2) := by decide +kernel
theorem dL_ordered_284 : decode cL_ordered 284 = .ok (.iinc 10 1, 3) := by decide +kernel
theorem dL_ordered_287 : decode cL_ordered 287 = .ok (.goto (-42), 3) := by decide +kernel
theorem dL_ordered_290 : decode cL_ordered 290 = .ok (.iload 8, 2) := by decide +kernel
theorem dL_ordered_292 : decode cL_ordered 292 = .ok (.ifCond .eq 38, 3) := by decide +kernel
theorem dL_ordered_295 : decode cL_ordered 295 = .ok (.aload_n 0, 1) := by decide +kernel
theorem dL_ordered_296 : decode cL_ordered 296 = .ok (.iconst 3, 1) := by decide +kernel
theorem dL_ordered_297 : decode cL_ordered 297 = .ok (.invokevirtual 59, 3) := by decide +kernel
theorem dL_ordered_300 : decode cL_ordered 300 = .ok (.invokestatic 162, 3) := by decide +kernel
theorem dL_ordered_303 : decode cL_ordered 303 = .ok (.iload 4, 2) := by decide +kernel
theorem dL_ordered_305 : decode cL_ordered 305 = .ok (.if_icmp .gt 25, 3) := by decide +kernel
theorem dL_ordered_308 : decode cL_ordered 308 = .ok (.aload_n 0, 1) := by decide +kernel
theorem dL_ordered_309 : decode cL_ordered 309 = .ok (.invokevirtual 120, 3) := by decide +kernel
theorem dL_ordered_312 : decode cL_ordered 312 = .ok (.iconst 1, 1) := by decide +kernel
theorem dL_ordered_313 : decode cL_ordered 313 = .ok (.if_icmp .ne 17, 3) := by decide +kernel
theorem dL_ordered_316 : decode cL_ordered 316 = .ok (.aload_n 0, 1) := by decide +kernel
theorem dL_ordered_317 : decode cL_ordered 317 = .ok (.aload_n 1, 1) := by decide +kernel
theorem dL_ordered_318 : decode cL_ordered 318 = .ok (.invokestatic 87, 3) := by decide +kernel
theorem dL_ordered_321 : decode cL_ordered 321 = .ok (.lload_n 2, 1) := by decide +kernel
theorem dL_ordered_322 : decode cL_ordered 322 = .ok (.lcmp, 1) := by decide +kernel
theorem dL_ordered_323 : decode cL_ordered 323 = .ok (.ifCond .ne 7, 3) := by decide +kernel
theorem dL_ordered_326 : decode cL_ordered 326 = .ok (.iconst 1, 1) := by decide +kernel
theorem dL_ordered_327 : decode cL_ordered 327 = .ok (.goto 4, 3) := by decide +kernel
theorem dL_ordered_330 : decode cL_ordered 330 = .ok (.iconst 0, 1) := by decide +kernel
theorem dL_ordered_331 : decode cL_ordered 331 = .ok (.ireturn, 1) := by decide +kernel
theorem dL_rained_0 : decode cL_rained 0 = .ok (.aload_n 1, 1) := by decide +kernel
theorem dL_rained_1 : decode cL_rained 1 = .ok (.bipush 14, 2) := by decide +kernel
theorem dL_rained_3 : decode cL_rained 3 = .ok (.invokestatic 15, 3) := by decide +kernel
theorem dL_rained_6 : decode cL_rained 6 = .ok (.bipush 11, 2) := by decide +kernel
theorem dL_rained_8 : decode cL_rained 8 = .ok (.irem, 1) := by decide +kernel
theorem dL_rained_9 : decode cL_rained 9 = .ok (.istore_n 3, 1) := by decide +kernel
theorem dL_rained_10 : decode cL_rained 10 = .ok (.iconst 1, 1) := by decide +kernel
theorem dL_rained_11 : decode cL_rained 11 = .ok (.istore 4, 2) := by decide +kernel
theorem dL_rained_13 : decode cL_rained 13 = .ok (.iconst 0, 1) := by decide +kernel
theorem dL_rained_14 : decode cL_rained 14 = .ok (.istore 5, 2) := by decide +kernel
theorem dL_rained_16 : decode cL_rained 16 = .ok (.iload 5, 2) := by decide +kernel
theorem dL_rained_18 : decode cL_rained 18 = .ok (.aload_n 2, 1) := by decide +kernel
theorem dL_rained_19 : decode cL_rained 19 = .ok (.iconst 0, 1) := by decide +kernel
theorem dL_rained_20 : decode cL_rained 20 = .ok (.iaload, 1) := by decide +kernel
theorem dL_rained_21 : decode cL_rained 21 = .ok (.if_icmp .ge 118, 3) := by decide +kernel
theorem dL_rained_24 : decode cL_rained 24 = .ok (.iload 4, 2) := by decide +kernel
theorem dL_rained_26 : decode cL_rained 26 = .ok (.ifCond .eq 113, 3) := by decide +kernel
theorem dL_rained_29 : decode cL_rained 29 = .ok (.aload_n 0, 1) := by decide +kernel
theorem dL_rained_30 : decode cL_rained 30 = .ok (.iload 5, 2) := by decide +kernel
theorem dL_rained_32 : decode cL_rained 32 = .ok (.iload_n 3, 1) := by decide +kernel
theorem dL_rained_33 : decode cL_rained 33 = .ok (.iconst 0, 1) := by decide +kernel
theorem dL_rained_34 : decode cL_rained 34 = .ok (.invokevirtual 165, 3) := by decide +kernel
theorem dL_rained_37 : decode cL_rained 37 = .ok (.lstore 6, 2) := by decide +kernel
theorem dL_rained_39 : decode cL_rained 39 = .ok (.aload_n 0, 1) := by decide +kernel
theorem dL_rained_40 : decode cL_rained 40 = .ok (.iload 5, 2) := by decide +kernel
theorem dL_rained_42 : decode cL_rained 42 = .ok (.iload_n 3, 1) := by decide +kernel
theorem dL_rained_43 : decode cL_rained 43 = .ok (.iconst 1, 1) := by decide +kernel
theorem dL_rained_44 : decode cL_rained 44 = .ok (.invokevirtual 165, 3) := by decide +kernel
theorem dL_rained_47 : decode cL_rained 47 = .ok (.lstore 8, 2) := by decide +kernel
theorem dL_rained_49 : decode cL_rained 49 = .ok (.lload 6, 2) := by decide +kernel
theorem dL_rained_51 : decode cL_rained 51 = .ok (.lconst 0, 1) := by decide +kernel
theorem dL_rained_52 : decode cL_rained 52 = .ok (.lcmp, 1) := by decide +kernel
theorem dL_rained_53 : decode cL_rained 53 = .ok (.ifCond .lt 77, 3) := by decide +kernel
theorem dL_rained_56 : decode cL_rained 56 = .ok (.lload 8, 2) := by decide +kernel
theorem dL_rained_58 : decode cL_rained 58 = .ok (.lconst 0, 1) := by decide +kernel
theorem dL_rained_59 : decode cL_rained 59 = .ok (.lcmp, 1) := by decide +kernel
theorem dL_rained_60 : decode cL_rained 60 = .ok (.ifCond .le 70, 3) := by decide +kernel
theorem dL_rained_63 : decode cL_rained 63 = .ok (.lload 6, 2) := by decide +kernel
theorem dL_rained_65 : decode cL_rained 65 = .ok (.lload 8, 2) := by decide +kernel
theorem dL_rained_67 : decode cL_rained 67 = .ok (.lcmp, 1) := by decide +kernel
theorem dL_rained_68 : decode cL_rained 68 = .ok (.ifCond .gt 62, 3) := by decide +kernel
theorem dL_rained_71 : decode cL_rained 71 = .ok (.aload_n 0, 1) := by decide +kernel
theorem dL_rained_72 : decode cL_rained 72 = .ok (.iload 5, 2) := by decide +kernel
theorem dL_rained_74 : decode cL_rained 74 = .ok (.iconst 0, 1) := by decide +kernel
theorem dL_rained_75 : decode cL_rained 75 = .ok (.iconst 0, 1) := by decide +kernel
theorem dL_rained_76 : decode cL_rained 76 = .ok (.invokevirtual 165, 3) := by decide +kernel
theorem dL_rained_79 : decode cL_rained 79 = .ok (.aload_n 0, 1) := by decide +kernel
theorem dL_rained_80 : decode cL_rained 80 = .ok (.iload 5, 2) := by decide +kernel
theorem dL_rained_82 : decode cL_rained 82 = .ok (.invokevirtual 130, 3) := by decide +kernel
theorem dL_rained_85 : decode cL_rained 85 = .ok (.bipush 8, 2) := by decide +kernel
theorem dL_rained_87 : decode cL_rained 87 = .ok (.if_icmp .ge 7, 3) := by decide +kernel
theorem dL_rained_90 : decode cL_rained 90 = .ok (.lconst 1, 1) := by decide +kernel
theorem dL_rained_91 : decode cL_rained 91 = .ok (.goto 4, 3) := by decide +kernel
theorem dL_rained_94 : decode cL_rained 94 = .ok (.lconst 0, 1) := by decide +kernel
theorem dL_rained_95 : decode cL_rained 95 = .ok (.lcmp, 1) := by decide +kernel
theorem dL_rained_96 : decode cL_rained 96 = .ok (.ifCond .ne 34, 3) := by decide +kernel
theorem dL_rained_99 : decode cL_rained 99 = .ok (.aload_n 0, 1) := by decide +kernel
theorem dL_rained_100 : decode cL_rained 100 = .ok (.iload 5, 2) := by decide +kernel
theorem dL_rained_102 : decode cL_rained 102 = .ok (.iconst 0, 1) := by decide +kernel
theorem dL_rained_103 : decode cL_rained 103 = .ok (.iconst 1, 1) := by decide +kernel
theorem dL_rained_104 : decode cL_rained 104 = .ok (.invokevirtual 165, 3) := by decide +kernel
theorem dL_rained_107 : decode cL_rained 107 = .ok (.lconst 1, 1) := by decide +kernel
theorem dL_rained_108 : decode cL_rained 108 = .ok (.lcmp, 1) := by decide +kernel
theorem dL_rained_109 : decode cL_rained 109 = .ok (.ifCond .ne 21, 3) := by decide +kernel
theorem dL_rained_112 : decode cL_rained 112 = .ok (.aload_n 0, 1) := by decide +kernel
theorem dL_rained_113 : decode cL_rained 113 = .ok (.iload 5, 2) := by decide +kernel
theorem dL_rained_115 : decode cL_rained 115 = .ok (.bipush 10, 2) := by decide +kernel
theorem dL_rained_117 : decode cL_rained 117 = .ok (.iconst 1, 1) := by decide +kernel
theorem dL_rained_118 : decode cL_rained 118 = .ok (.invokevirtual 165, 3) := by decide +kernel
theorem dL_rained_121 : decode cL_rained 121 = .ok (.lconst 1, 1) := by decide +kernel
theorem dL_rained_122 : decode cL_rained 122 = .ok (.lcmp, 1) := by decide +kernel
theorem dL_rained_123 : decode cL_rained 123 = .ok (.ifCond .ne 7, 3) := by decide +kernel
theorem dL_rained_126 : decode cL_rained 126 = .ok (.iconst 1, 1) := by decide +kernel
theorem dL_rained_127 : decode cL_rained 127 = .ok (.goto 4, 3) := by decide +kernel
theorem dL_rained_130 : decode cL_rained 130 = .ok (.iconst 0, 1) := by decide +kernel
theorem dL_rained_131 : decode cL_rained 131 = .ok (.istore 4, 2) := by decide +kernel
theorem dL_rained_133 : decode cL_rained 133 = .ok (.iinc 5 1, 3) := by decide +kernel
theorem dL_rained_136 : decode cL_rained 136 = .ok (.goto (-120), 3) := by decide +kernel
theorem dL_rained_139 : decode cL_rained 139 = .ok (.aload_n 1, 1) := by decide +kernel
theorem dL_rained_140 : decode cL_rained 140 = .ok (.bipush 14, 2) := by decide +kernel
theorem dL_rained_142 : decode cL_rained 142 = .ok (.invokestatic 15, 3) := by decide +kernel
theorem dL_rained_145 : decode cL_rained 145 = .ok (.iconst 4, 1) := by decide +kernel
theorem dL_rained_146 : decode cL_rained 146 = .ok (.ishr, 1) := by decide +kernel
theorem dL_rained_147 : decode cL_rained 147 = .ok (.aload_n 2, 1) := by decide +kernel
theorem dL_rained_148 : decode cL_rained 148 = .ok (.iconst 0, 1) := by decide +kernel
theorem dL_rained_149 : decode cL_rained 149 = .ok (.iaload, 1) := by decide +kernel
theorem dL_rained_150 : decode cL_rained 150 = .ok (.irem, 1) := by decide +kernel
theorem dL_rained_151 : decode cL_rained 151 = .ok (.istore 5, 2) := by decide +kernel
theorem dL_rained_153 : decode cL_rained 153 = .ok (.iload 4, 2) := by decide +kernel
theorem dL_rained_155 : decode cL_rained 155 = .ok (.ifCond .eq 15, 3) := by decide +kernel
theorem dL_rained_158 : decode cL_rained 158 = .ok (.aload_n 0, 1) := by decide +kernel
theorem dL_rained_159 : decode cL_rained 159 = .ok (.iload 5, 2) := by decide +kernel
theorem dL_rained_161 : decode cL_rained 161 = .ok (.bipush 10, 2) := by decide +kernel
theorem dL_rained_163 : decode cL_rained 163 = .ok (.iconst 0, 1) := by decide +kernel
theorem dL_rained_164 : decode cL_rained 164 = .ok (.invokevirtual 165, 3) := by decide +kernel
theorem dL_rained_167 : decode cL_rained 167 = .ok (.goto 4, 3) := by decide +kernel
theorem dL_rained_170 : decode cL_rained 170 = .ok (.lconst 0, 1) := by decide +kernel
theorem dL_rained_171 : decode cL_rained 171 = .ok (.lstore 6, 2) := by decide +kernel
theorem dL_rained_173 : decode cL_rained 173 = .ok (.iconst 0, 1) := by decide +kernel
theorem dL_rained_174 : decode cL_rained 174 = .ok (.istore 8, 2) := by decide +kernel
theorem dL_rained_176 : decode cL_rained 176 = .ok (.iload 8, 2) := by decide +kernel
theorem dL_rained_178 : decode cL_rained 178 = .ok (.bipush 10, 2) := by decide +kernel
theorem dL_rained_180 : decode cL_rained 180 = .ok (.if_icmp .ge 74, 3) := by decide +kernel
theorem dL_rained_183 : decode cL_rained 183 = .ok (.iload 4, 2) := by decide +kernel
theorem dL_rained_185 : decode cL_rained 185 = .ok (.ifCond .eq 69, 3) := by decide +kernel
theorem dL_rained_188 : decode cL_rained 188 = .ok (.aload_n 0, 1) := by decide +kernel
theorem dL_rained_189 : decode cL_rained 189 = .ok (.iload 8, 2) := by decide +kernel
theorem dL_rained_191 : decode cL_rained 191 = .ok (.iconst 0, 1) := by decide +kernel
theorem dL_rained_192 : decode cL_rained 192 = .ok (.invokevirtual 66, 3) := by decide +kernel
theorem dL_rained_195 : decode cL_rained 195 = .ok (.iconst 2, 1) := by decide +kernel
theorem dL_rained_196 : decode cL_rained 196 = .ok (.iadd, 1) := by decide +kernel
theorem dL_rained_197 : decode cL_rained 197 = .ok (.bipush 9, 2) := by decide +kernel
theorem dL_rained_199 : decode cL_rained 199 = .ok (.if_icmp .le 8, 3) := by decide +kernel
theorem dL_rained_202 : decode cL_rained 202 = .ok (.bipush 9, 2) := by decide +kernel
theorem dL_rained_204 : decode cL_rained 204 = .ok (.goto 12, 3) := by decide +kernel
theorem dL_rained_207 : decode cL_rained 207 = .ok (.aload_n 0, 1) := by decide +kernel
theorem dL_rained_208 : decode cL_rained 208 = .ok (.iload 8, 2) := by decide +kernel
theorem dL_rained_210 : decode cL_rained 210 = .ok (.iconst 0, 1) := by decide +kernel
theorem dL_rained_211 : decode cL_rained 211 = .ok (.invokevirtual 66, 3) := by decide +kernel
theorem dL_rained_214 : decode cL_rained 214 = .ok (.iconst 2, 1) := by decide +kernel
theorem dL_rained_215 : decode cL_rained 215 = .ok (.iadd, 1) := by decide +kernel
theorem dL_rained_216 : decode cL_rained 216 = .ok (.istore 9, 2) := by decide +kernel
theorem dL_rained_218 : decode cL_rained 218 = .ok (.aload_n 0, 1) := by decide +kernel
theorem dL_rained_219 : decode cL_rained 219 = .ok (.iload 8, 2) := by decide +kernel
theorem dL_rained_221 : decode cL_rained 221 = .ok (.iconst 0, 1) := by decide +kernel
theorem dL_rained_222 : decode cL_rained 222 = .ok (.invokevirtual 66, 3) := by decide +kernel
theorem dL_rained_225 : decode cL_rained 225 = .ok (.iload 9, 2) := by decide +kernel
theorem dL_rained_227 : decode cL_rained 227 = .ok (.if_icmp .eq 14, 3) := by decide +kernel
theorem dL_rained_230 : decode cL_rained 230 = .ok (.aload_n 0, 1) := by decide +kernel
theorem dL_rained_231 : decode cL_rained 231 = .ok (.iload 8, 2) := by decide +kernel
theorem dL_rained_233 : decode cL_rained 233 = .ok (.iload 9, 2) := by decide +kernel
theorem dL_rained_235 : decode cL_rained 235 = .ok (.invokevirtual 52, 3) := by decide +kernel
theorem dL_rained_238 : decode cL_rained 238 = .ok (.ifCond .lt 7, 3) := by decide +kernel
theorem dL_rained_241 : decode cL_rained 241 = .ok (.iconst 1, 1) := by decide +kernel
theorem dL_rained_242 : decode cL_rained 242 = .ok (.goto 4, 3) := by decide +kernel
theorem dL_rained_245 : decode cL_rained 245 = .ok (.iconst 0, 1) := by decide +kernel
theorem dL_rained_246 : decode cL_rained 246 = .ok (.istore 4, 2) := by decide +kernel
theorem dL_rained_248 : decode cL_rained 248 = .ok (.iinc 8 1, 3) := by decide +kernel
theorem dL_rained_251 : decode cL_rained 251 = .ok (.goto (-75), 3) := by decide +kernel
theorem dL_rained_254 : decode cL_rained 254 = .ok (.iload 4, 2) := by decide +kernel
theorem dL_rained_256 : decode cL_rained 256 = .ok (.ifCond .eq 46, 3) := by decide +kernel
theorem dL_rained_259 : decode cL_rained 259 = .ok (.aload_n 0, 1) := by decide +kernel
theorem dL_rained_260 : decode cL_rained 260 = .ok (.iload 5, 2) := by decide +kernel
theorem dL_rained_262 : decode cL_rained 262 = .ok (.invokevirtual 130, 3) := by decide +kernel
theorem dL_rained_265 : decode cL_rained 265 = .ok (.bipush 8, 2) := by decide +kernel
theorem dL_rained_267 : decode cL_rained 267 = .ok (.if_icmp .ge 7, 3) := by decide +kernel
theorem dL_rained_270 : decode cL_rained 270 = .ok (.iconst 1, 1) := by decide +kernel
theorem dL_rained_271 : decode cL_rained 271 = .ok (.goto 4, 3) := by decide +kernel
theorem dL_rained_274 : decode cL_rained 274 = .ok (.iconst 0, 1) := by decide +kernel
theorem dL_rained_275 : decode cL_rained 275 = .ok (.lload 6, 2) := by decide +kernel
theorem dL_rained_277 : decode cL_rained 277 = .ok (.lconst 1, 1) := by decide +kernel
theorem dL_rained_278 : decode cL_rained 278 = .ok (.lcmp, 1) := by decide +kernel
theorem dL_rained_279 : decode cL_rained 279 = .ok (.ifCond .ne 7, 3) := by decide +kernel
theorem dL_rained_282 : decode cL_rained 282 = .ok (.iconst 1, 1) := by decide +kernel
theorem dL_rained_283 : decode cL_rained 283 = .ok (.goto 4, 3) := by decide +kernel
theorem dL_rained_286 : decode cL_rained 286 = .ok (.iconst 0, 1) := by decide +kernel
theorem dL_rained_287 : decode cL_rained 287 = .ok (.if_icmp .ne 15, 3) := by decide +kernel
theorem dL_rained_290 : decode cL_rained 290 = .ok (.aload_n 0, 1) := by decide +kernel
theorem dL_rained_291 : decode cL_rained 291 = .ok (.invokevirtual 120, 3) := by decide +kernel
theorem dL_rained_294 : decode cL_rained 294 = .ok (.iconst 1, 1) := by decide +kernel
theorem dL_rained_295 : decode cL_rained 295 = .ok (.if_icmp .ne 7, 3) := by decide +kernel
theorem dL_rained_298 : decode cL_rained 298 = .ok (.iconst 1, 1) := by decide +kernel
theorem dL_rained_299 : decode cL_rained 299 = .ok (.goto 4, 3) := by decide +kernel
theorem dL_rained_302 : decode cL_rained 302 = .ok (.iconst 0, 1) := by decide +kernel
theorem dL_rained_303 : decode cL_rained 303 = .ok (.ireturn, 1) := by decide +kernel
theorem dL_clocked_0 : decode cL_clocked 0 = .ok (.aload_n 1, 1) := by decide +kernel
theorem dL_clocked_1 : decode cL_clocked 1 = .ok (.bipush 15, 2) := by decide +kernel
theorem dL_clocked_3 : decode cL_clocked 3 = .ok (.invokestatic 15, 3) := by decide +kernel
theorem dL_clocked_6 : decode cL_clocked 6 = .ok (.aload_n 2, 1) := by decide +kernel
theorem dL_clocked_7 : decode cL_clocked 7 = .ok (.iconst 0, 1) := by decide +kernel
theorem dL_clocked_8 : decode cL_clocked 8 = .ok (.iaload, 1) := by decide +kernel
theorem dL_clocked_9 : decode cL_clocked 9 = .ok (.irem, 1) := by decide +kernel
theorem dL_clocked_10 : decode cL_clocked 10 = .ok (.istore 5, 2) := by decide +kernel
theorem dL_clocked_12 : decode cL_clocked 12 = .ok (.iconst 1, 1) := by decide +kernel
theorem dL_clocked_13 : decode cL_clocked 13 = .ok (.aload_n 1, 1) := by decide +kernel
theorem dL_clocked_14 : decode cL_clocked 14 = .ok (.bipush 15, 2) := by decide +kernel
theorem dL_clocked_16 : decode cL_clocked 16 = .ok (.invokestatic 15, 3) := by decide +kernel
theorem dL_clocked_19 : decode cL_clocked 19 = .ok (.iconst 3, 1) := by decide +kernel
theorem dL_clocked_20 : decode cL_clocked 20 = .ok (.ishr, 1) := by decide +kernel
theorem dL_clocked_21 : decode cL_clocked 21 = .ok (.bipush 10, 2) := by decide +kernel
theorem dL_clocked_23 : decode cL_clocked 23 = .ok (.irem, 1) := by decide +kernel
theorem dL_clocked_24 : decode cL_clocked 24 = .ok (.iadd, 1) := by decide +kernel
theorem dL_clocked_25 : decode cL_clocked 25 = .ok (.istore 6, 2) := by decide +kernel
theorem dL_clocked_27 : decode cL_clocked 27 = .ok (.aload_n 0, 1) := by decide +kernel
theorem dL_clocked_28 : decode cL_clocked 28 = .ok (.iconst 2, 1) := by decide +kernel
theorem dL_clocked_29 : decode cL_clocked 29 = .ok (.iconst 0, 1) := by decide +kernel
theorem dL_clocked_30 : decode cL_clocked 30 = .ok (.bipush 10, 2) := by decide +kernel
theorem dL_clocked_32 : decode cL_clocked 32 = .ok (.invokevirtual 169, 3) := by decide +kernel
theorem dL_clocked_35 : decode cL_clocked 35 = .ok (.bipush 10, 2) := by decide +kernel
theorem dL_clocked_37 : decode cL_clocked 37 = .ok (.if_icmp .ne 23, 3) := by decide +kernel
theorem dL_clocked_40 : decode cL_clocked 40 = .ok (.aload_n 0, 1) := by decide +kernel
theorem dL_clocked_41 : decode cL_clocked 41 = .ok (.iload 5, 2) := by decide +kernel
theorem dL_clocked_43 : decode cL_clocked 43 = .ok (.iload 6, 2) := by decide +kernel
theorem dL_clocked_45 : decode cL_clocked 45 = .ok (.iconst 2, 1) := by decide +kernel
theorem dL_clocked_46 : decode cL_clocked 46 = .ok (.iconst 0, 1) := by decide +kernel
theorem dL_clocked_47 : decode cL_clocked 47 = .ok (.iconst 0, 1) := by decide +kernel
theorem dL_clocked_48 : decode cL_clocked 48 = .ok (.invokevirtual 172, 3) := by decide +kernel
theorem dL_clocked_51 : decode cL_clocked 51 = .ok (.iload 6, 2) := by decide +kernel
theorem dL_clocked_53 : decode cL_clocked 53 = .ok (.if_icmp .ne 7, 3) := by decide +kernel
theorem dL_clocked_56 : decode cL_clocked 56 = .ok (.iconst 1, 1) := by decide +kernel
theorem dL_clocked_57 : decode cL_clocked 57 = .ok (.goto 4, 3) := by decide +kernel
theorem dL_clocked_60 : decode cL_clocked 60 = .ok (.iconst 0, 1) := by decide +kernel
theorem dL_clocked_61 : decode cL_clocked 61 = .ok (.istore 7, 2) := by decide +kernel
theorem dL_clocked_63 : decode cL_clocked 63 = .ok (.iload 7, 2) := by decide +kernel
theorem dL_clocked_65 : decode cL_clocked 65 = .ok (.ifCond .eq 19, 3) := by decide +kernel
theorem dL_clocked_68 : decode cL_clocked 68 = .ok (.aload_n 0, 1) := by decide +kernel
theorem dL_clocked_69 : decode cL_clocked 69 = .ok (.iload 5, 2) := by decide +kernel
theorem dL_clocked_71 : decode cL_clocked 71 = .ok (.iconst 0, 1) := by decide +kernel
theorem dL_clocked_72 : decode cL_clocked 72 = .ok (.iconst 2, 1) := by decide +kernel
theorem dL_clocked_73 : decode cL_clocked 73 = .ok (.iconst 0, 1) := by decide +kernel
theorem dL_clocked_74 : decode cL_clocked 74 = .ok (.iconst 0, 1) := by decide +kernel
theorem dL_clocked_75 : decode cL_clocked 75 = .ok (.iload 6, 2) := by decide +kernel
theorem dL_clocked_77 : decode cL_clocked 77 = .ok (.iconst 0, 1) := by decide +kernel
theorem dL_clocked_78 : decode cL_clocked 78 = .ok (.invokevirtual 176, 3) := by decide +kernel
theorem dL_clocked_81 : decode cL_clocked 81 = .ok (.goto 4, 3) := by decide +kernel
theorem dL_clocked_84 : decode cL_clocked 84 = .ok (.iconst 0, 1) := by decide +kernel
theorem dL_clocked_85 : decode cL_clocked 85 = .ok (.istore 8, 2) := by decide +kernel
theorem dL_clocked_87 : decode cL_clocked 87 = .ok (.iload 7, 2) := by decide +kernel
theorem dL_clocked_89 : decode cL_clocked 89 = .ok (.ifCond .eq 19, 3) := by decide +kernel
theorem dL_clocked_92 : decode cL_clocked 92 = .ok (.aload_n 0, 1) := by decide +kernel
theorem dL_clocked_93 : decode cL_clocked 93 = .ok (.iload 5, 2) := by decide +kernel
theorem dL_clocked_95 : decode cL_clocked 95 = .ok (.iconst 0, 1) := by decide +kernel
theorem dL_clocked_96 : decode cL_clocked 96 = .ok (.iconst 2, 1) := by decide +kernel
theorem dL_clocked_97 : decode cL_clocked 97 = .ok (.iconst 0, 1) := by decide +kernel
theorem dL_clocked_98 : decode cL_clocked 98 = .ok (.iconst 0, 1) := by decide +kernel
theorem dL_clocked_99 : decode cL_clocked 99 = .ok (.iload 6, 2) := by decide +kernel
theorem dL_clocked_101 : decode cL_clocked 101 = .ok (.iconst 1, 1) := by decide +kernel
theorem dL_clocked_102 : decode cL_clocked 102 = .ok (.invokevirtual 176, 3) := by decide +kernel
theorem dL_clocked_105 : decode cL_clocked 105 = .ok (.goto 4, 3) := by decide +kernel
theorem dL_clocked_108 : decode cL_clocked 108 = .ok (.iconst 0, 1) := by decide +kernel
theorem dL_clocked_109 : decode cL_clocked 109 = .ok (.istore 9, 2) := by decide +kernel
theorem dL_clocked_111 : decode cL_clocked 111 = .ok (.iload 7, 2) := by decide +kernel
theorem dL_clocked_113 : decode cL_clocked 113 = .ok (.ifCond .eq 132, 3) := by decide +kernel
theorem dL_clocked_116 : decode cL_clocked 116 = .ok (.iload 8, 2) := by decide +kernel
theorem dL_clocked_118 : decode cL_clocked 118 = .ok (.aload_n 0, 1) := by decide +kernel
theorem dL_clocked_119 : decode cL_clocked 119 = .ok (.iload 5, 2) := by decide +kernel
theorem dL_clocked_121 : decode cL_clocked 121 = .ok (.iconst 0, 1) := by decide +kernel
theorem dL_clocked_122 : decode cL_clocked 122 = .ok (.invokevirtual 69, 3) := by decide +kernel
theorem dL_clocked_125 : decode cL_clocked 125 = .ok (.ishr, 1) := by decide +kernel
theorem dL_clocked_126 : decode cL_clocked 126 = .ok (.iconst 1, 1) := by decide +kernel
theorem dL_clocked_127 : decode cL_clocked 127 = .ok (.iand, 1) := by decide +kernel
theorem dL_clocked_128 : decode cL_clocked 128 = .ok (.iconst 1, 1) := by decide +kernel
theorem dL_clocked_129 : decode cL_clocked 129 = .ok (.if_icmp .ne 116, 3) := by decide +kernel
theorem dL_clocked_132 : decode cL_clocked 132 = .ok (.iload 8, 2) := by decide +kernel
theorem dL_clocked_134 : decode cL_clocked 134 = .ok (.bipush 32, 2) := by decide +kernel
theorem dL_clocked_136 : decode cL_clocked 136 = .ok (.if_icmp .ge 109, 3) := by decide +kernel
theorem dL_clocked_139 : decode cL_clocked 139 = .ok (.iload 9, 2) := by decide +kernel
theorem dL_clocked_141 : decode cL_clocked 141 = .ok (.aload_n 0, 1) := by decide +kernel
theorem dL_clocked_142 : decode cL_clocked 142 = .ok (.iload 5, 2) := by decide +kernel
theorem dL_clocked_144 : decode cL_clocked 144 = .ok (.iconst 1, 1) := by decide +kernel
theorem dL_clocked_145 : decode cL_clocked 145 = .ok (.invokevirtual 69, 3) := by decide +kernel
theorem dL_clocked_148 : decode cL_clocked 148 = .ok (.ishr, 1) := by decide +kernel
theorem dL_clocked_149 : decode cL_clocked 149 = .ok (.iconst 1, 1) := by decide +kernel
theorem dL_clocked_150 : decode cL_clocked 150 = .ok (.iand, 1) := by decide +kernel
theorem dL_clocked_151 : decode cL_clocked 151 = .ok (.iconst 1, 1) := by decide +kernel
theorem dL_clocked_152 : decode cL_clocked 152 = .ok (.if_icmp .ne 93, 3) := by decide +kernel
theorem dL_clocked_155 : decode cL_clocked 155 = .ok (.iload 9, 2) := by decide +kernel
theorem dL_clocked_157 : decode cL_clocked 157 = .ok (.iconst 1, 1) := by decide +kernel
theorem dL_clocked_158 : decode cL_clocked 158 = .ok (.iand, 1) := by decide +kernel
theorem dL_clocked_159 : decode cL_clocked 159 = .ok (.ifCond .ne 86, 3) := by decide +kernel
theorem dL_clocked_162 : decode cL_clocked 162 = .ok (.iload 9, 2) := by decide +kernel
theorem dL_clocked_164 : decode cL_clocked 164 = .ok (.ldc 179, 2) := by decide +kernel
theorem dL_clocked_166 : decode cL_clocked 166 = .ok (.if_icmp .ge 79, 3) := by decide +kernel
theorem dL_clocked_169 : decode cL_clocked 169 = .ok (.iload 6, 2) := by decide +kernel
theorem dL_clocked_171 : decode cL_clocked 171 = .ok (.iconst 1, 1) := by decide +kernel
theorem dL_clocked_172 : decode cL_clocked 172 = .ok (.if_icmp .eq 49, 3) := by decide +kernel
theorem dL_clocked_175 : decode cL_clocked 175 = .ok (.aload_n 0, 1) := by decide +kernel
theorem dL_clocked_176 : decode cL_clocked 176 = .ok (.iload 5, 2) := by decide +kernel
theorem dL_clocked_178 : decode cL_clocked 178 = .ok (.iconst 0, 1) := by decide +kernel
theorem dL_clocked_179 : decode cL_clocked 179 = .ok (.iconst 2, 1) := by decide +kernel
theorem dL_clocked_180 : decode cL_clocked 180 = .ok (.iconst 0, 1) := by decide +kernel
theorem dL_clocked_181 : decode cL_clocked 181 = .ok (.iconst 0, 1) := by decide +kernel
theorem dL_clocked_182 : decode cL_clocked 182 = .ok (.iload 6, 2) := by decide +kernel
theorem dL_clocked_184 : decode cL_clocked 184 = .ok (.iconst 1, 1) := by decide +kernel
theorem dL_clocked_185 : decode cL_clocked 185 = .ok (.isub, 1) := by decide +kernel
theorem dL_clocked_186 : decode cL_clocked 186 = .ok (.iconst 0, 1) := by decide +kernel
theorem dL_clocked_187 : decode cL_clocked 187 = .ok (.invokevirtual 176, 3) := by decide +kernel
theorem dL_clocked_190 : decode cL_clocked 190 = .ok (.iload 8, 2) := by decide +kernel
theorem dL_clocked_192 : decode cL_clocked 192 = .ok (.iand, 1) := by decide +kernel
theorem dL_clocked_193 : decode cL_clocked 193 = .ok (.iload 8, 2) := by decide +kernel
theorem dL_clocked_195 : decode cL_clocked 195 = .ok (.if_icmp .ne 50, 3) := by decide +kernel
theorem dL_clocked_198 : decode cL_clocked 198 = .ok (.aload_n 0, 1) := by decide +kernel
theorem dL_clocked_199 : decode cL_clocked 199 = .ok (.iload 5, 2) := by decide +kernel
theorem dL_clocked_201 : decode cL_clocked 201 = .ok (.iconst 1, 1) := by decide +kernel
theorem dL_clocked_202 : decode cL_clocked 202 = .ok (.iconst 2, 1) := by decide +kernel
theorem dL_clocked_203 : decode cL_clocked 203 = .ok (.iconst 0, 1) := by decide +kernel
theorem dL_clocked_204 : decode cL_clocked 204 = .ok (.iconst 1, 1) := by decide +kernel
theorem dL_clocked_205 : decode cL_clocked 205 = .ok (.iload 6, 2) := by decide +kernel
theorem dL_clocked_207 : decode cL_clocked 207 = .ok (.iconst 1, 1) := by decide +kernel
theorem dL_clocked_208 : decode cL_clocked 208 = .ok (.isub, 1) := by decide +kernel
theorem dL_clocked_209 : decode cL_clocked 209 = .ok (.iconst 1, 1) := by decide +kernel
theorem dL_clocked_210 : decode cL_clocked 210 = .ok (.invokevirtual 176, 3) := by decide +kernel
theorem dL_clocked_213 : decode cL_clocked 213 = .ok (.iload 9, 2) := by decide +kernel
theorem dL_clocked_215 : decode cL_clocked 215 = .ok (.iand, 1) := by decide +kernel
theorem dL_clocked_216 : decode cL_clocked 216 = .ok (.iload 9, 2) := by decide +kernel
theorem dL_clocked_218 : decode cL_clocked 218 = .ok (.if_icmp .ne 27, 3) := by decide +kernel
theorem dL_clocked_221 : decode cL_clocked 221 = .ok (.aload_n 0, 1) := by decide +kernel
theorem dL_clocked_222 : decode cL_clocked 222 = .ok (.iconst 2, 1) := by decide +kernel
theorem dL_clocked_223 : decode cL_clocked 223 = .ok (.invokevirtual 180, 3) := by decide +kernel
theorem dL_clocked_226 : decode cL_clocked 226 = .ok (.bipush 10, 2) := by decide +kernel
theorem dL_clocked_228 : decode cL_clocked 228 = .ok (.if_icmp .ne 17, 3) := by decide +kernel
theorem dL_clocked_231 : decode cL_clocked 231 = .ok (.aload_n 0, 1) := by decide +kernel
theorem dL_clocked_232 : decode cL_clocked 232 = .ok (.aload_n 2, 1) := by decide +kernel
theorem dL_clocked_233 : decode cL_clocked 233 = .ok (.invokestatic 87, 3) := by decide +kernel
theorem dL_clocked_236 : decode cL_clocked 236 = .ok (.lload_n 3, 1) := by decide +kernel
theorem dL_clocked_237 : decode cL_clocked 237 = .ok (.lcmp, 1) := by decide +kernel
theorem dL_clocked_238 : decode cL_clocked 238 = .ok (.ifCond .ne 7, 3) := by decide +kernel
theorem dL_clocked_241 : decode cL_clocked 241 = .ok (.iconst 1, 1) := by decide +kernel
theorem dL_clocked_242 : decode cL_clocked 242 = .ok (.goto 4, 3) := by decide +kernel
theorem dL_clocked_245 : decode cL_clocked 245 = .ok (.iconst 0, 1) := by decide +kernel
theorem dL_clocked_246 : decode cL_clocked 246 = .ok (.ireturn, 1) := by decide +kernel
