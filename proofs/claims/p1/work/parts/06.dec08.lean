theorem dX10_readLine_207 : decode cX10_readLine 207 = .ok (.getfield 149, 3) := by decide +kernel
theorem dX10_readLine_210 : decode cX10_readLine 210 = .ok (.iconst 1, 1) := by decide +kernel
theorem dX10_readLine_211 : decode cX10_readLine 211 = .ok (.iadd, 1) := by decide +kernel
theorem dX10_readLine_212 : decode cX10_readLine 212 = .ok (.putfield 149, 3) := by decide +kernel
theorem dX10_readLine_215 : decode cX10_readLine 215 = .ok (.goto 11, 3) := by decide +kernel
theorem dX10_readLine_218 : decode cX10_readLine 218 = .ok (.aload_n 0, 1) := by decide +kernel
theorem dX10_readLine_219 : decode cX10_readLine 219 = .ok (.aload_n 0, 1) := by decide +kernel
theorem dX10_readLine_220 : decode cX10_readLine 220 = .ok (.getfield 116, 3) := by decide +kernel
theorem dX10_readLine_223 : decode cX10_readLine 223 = .ok (.invokevirtual 134, 3) := by decide +kernel
theorem dX10_readLine_226 : decode cX10_readLine 226 = .ok (.return_, 1) := by decide +kernel
theorem dX10_orchard_0 : decode cX10_orchard 0 = .ok (.aload_n 0, 1) := by decide +kernel
theorem dX10_orchard_1 : decode cX10_orchard 1 = .ok (.iconst 0, 1) := by decide +kernel
theorem dX10_orchard_2 : decode cX10_orchard 2 = .ok (.putfield 87, 3) := by decide +kernel
theorem dX10_orchard_5 : decode cX10_orchard 5 = .ok (.aload_n 0, 1) := by decide +kernel
theorem dX10_orchard_6 : decode cX10_orchard 6 = .ok (.aload_n 0, 1) := by decide +kernel
theorem dX10_orchard_7 : decode cX10_orchard 7 = .ok (.getfield 34, 3) := by decide +kernel
theorem dX10_orchard_10 : decode cX10_orchard 10 = .ok (.aload_n 0, 1) := by decide +kernel
theorem dX10_orchard_11 : decode cX10_orchard 11 = .ok (.getfield 104, 3) := by decide +kernel
theorem dX10_orchard_14 : decode cX10_orchard 14 = .ok (.bipush 76, 2) := by decide +kernel
theorem dX10_orchard_16 : decode cX10_orchard 16 = .ok (.invokevirtual 152, 3) := by decide +kernel
theorem dX10_orchard_19 : decode cX10_orchard 19 = .ok (.aload_n 0, 1) := by decide +kernel
theorem dX10_orchard_20 : decode cX10_orchard 20 = .ok (.iconst 0, 1) := by decide +kernel
theorem dX10_orchard_21 : decode cX10_orchard 21 = .ok (.putfield 104, 3) := by decide +kernel
theorem dX10_orchard_24 : decode cX10_orchard 24 = .ok (.aload_n 0, 1) := by decide +kernel
theorem dX10_orchard_25 : decode cX10_orchard 25 = .ok (.getfield 110, 3) := by decide +kernel
theorem dX10_orchard_28 : decode cX10_orchard 28 = .ok (.ifCond .ne 5, 3) := by decide +kernel
theorem dX10_orchard_31 : decode cX10_orchard 31 = .ok (.iconst 0, 1) := by decide +kernel
theorem dX10_orchard_32 : decode cX10_orchard 32 = .ok (.ireturn, 1) := by decide +kernel
theorem dX10_orchard_33 : decode cX10_orchard 33 = .ok (.aload_n 0, 1) := by decide +kernel
theorem dX10_orchard_34 : decode cX10_orchard 34 = .ok (.iconst 0, 1) := by decide +kernel
theorem dX10_orchard_35 : decode cX10_orchard 35 = .ok (.putfield 138, 3) := by decide +kernel
theorem dX10_orchard_38 : decode cX10_orchard 38 = .ok (.aload_n 0, 1) := by decide +kernel
theorem dX10_orchard_39 : decode cX10_orchard 39 = .ok (.iconst 0, 1) := by decide +kernel
theorem dX10_orchard_40 : decode cX10_orchard 40 = .ok (.putfield 149, 3) := by decide +kernel
theorem dX10_orchard_43 : decode cX10_orchard 43 = .ok (.iconst 1, 1) := by decide +kernel
theorem dX10_orchard_44 : decode cX10_orchard 44 = .ok (.istore_n 1, 1) := by decide +kernel
theorem dX10_orchard_45 : decode cX10_orchard 45 = .ok (.iload_n 1, 1) := by decide +kernel
theorem dX10_orchard_46 : decode cX10_orchard 46 = .ok (.ifCond .eq 24, 3) := by decide +kernel
theorem dX10_orchard_49 : decode cX10_orchard 49 = .ok (.aload_n 0, 1) := by decide +kernel
theorem dX10_orchard_50 : decode cX10_orchard 50 = .ok (.invokevirtual 122, 3) := by decide +kernel
theorem dX10_orchard_53 : decode cX10_orchard 53 = .ok (.ifCond .eq 17, 3) := by decide +kernel
theorem dX10_orchard_56 : decode cX10_orchard 56 = .ok (.aload_n 0, 1) := by decide +kernel
theorem dX10_orchard_57 : decode cX10_orchard 57 = .ok (.invokevirtual 156, 3) := by decide +kernel
theorem dX10_orchard_60 : decode cX10_orchard 60 = .ok (.aload_n 0, 1) := by decide +kernel
theorem dX10_orchard_61 : decode cX10_orchard 61 = .ok (.bipush 59, 2) := by decide +kernel
theorem dX10_orchard_63 : decode cX10_orchard 63 = .ok (.invokevirtual 130, 3) := by decide +kernel
theorem dX10_orchard_66 : decode cX10_orchard 66 = .ok (.istore_n 1, 1) := by decide +kernel
theorem dX10_orchard_67 : decode cX10_orchard 67 = .ok (.goto (-22), 3) := by decide +kernel
theorem dX10_orchard_70 : decode cX10_orchard 70 = .ok (.aload_n 0, 1) := by decide +kernel
theorem dX10_orchard_71 : decode cX10_orchard 71 = .ok (.getfield 116, 3) := by decide +kernel
theorem dX10_orchard_74 : decode cX10_orchard 74 = .ok (.aload_n 0, 1) := by decide +kernel
theorem dX10_orchard_75 : decode cX10_orchard 75 = .ok (.getfield 110, 3) := by decide +kernel
theorem dX10_orchard_78 : decode cX10_orchard 78 = .ok (.if_icmp .ge 11, 3) := by decide +kernel
theorem dX10_orchard_81 : decode cX10_orchard 81 = .ok (.aload_n 0, 1) := by decide +kernel
theorem dX10_orchard_82 : decode cX10_orchard 82 = .ok (.aload_n 0, 1) := by decide +kernel
theorem dX10_orchard_83 : decode cX10_orchard 83 = .ok (.getfield 116, 3) := by decide +kernel
theorem dX10_orchard_86 : decode cX10_orchard 86 = .ok (.invokevirtual 134, 3) := by decide +kernel
theorem dX10_orchard_89 : decode cX10_orchard 89 = .ok (.aload_n 0, 1) := by decide +kernel
theorem dX10_orchard_90 : decode cX10_orchard 90 = .ok (.invokevirtual 122, 3) := by decide +kernel
theorem dX10_orchard_93 : decode cX10_orchard 93 = .ok (.ifCond .ne 10, 3) := by decide +kernel
theorem dX10_orchard_96 : decode cX10_orchard 96 = .ok (.iconst (-1), 1) := by decide +kernel
theorem dX10_orchard_97 : decode cX10_orchard 97 = .ok (.aload_n 0, 1) := by decide +kernel
theorem dX10_orchard_98 : decode cX10_orchard 98 = .ok (.getfield 119, 3) := by decide +kernel
theorem dX10_orchard_101 : decode cX10_orchard 101 = .ok (.isub, 1) := by decide +kernel
theorem dX10_orchard_102 : decode cX10_orchard 102 = .ok (.ireturn, 1) := by decide +kernel
theorem dX10_orchard_103 : decode cX10_orchard 103 = .ok (.iconst 0, 1) := by decide +kernel
theorem dX10_orchard_104 : decode cX10_orchard 104 = .ok (.istore_n 2, 1) := by decide +kernel
theorem dX10_orchard_105 : decode cX10_orchard 105 = .ok (.iload_n 2, 1) := by decide +kernel
theorem dX10_orchard_106 : decode cX10_orchard 106 = .ok (.aload_n 0, 1) := by decide +kernel
theorem dX10_orchard_107 : decode cX10_orchard 107 = .ok (.getfield 138, 3) := by decide +kernel
theorem dX10_orchard_110 : decode cX10_orchard 110 = .ok (.if_icmp .ge 103, 3) := by decide +kernel
theorem dX10_orchard_113 : decode cX10_orchard 113 = .ok (.aload_n 0, 1) := by decide +kernel
theorem dX10_orchard_114 : decode cX10_orchard 114 = .ok (.getfield 13, 3) := by decide +kernel
theorem dX10_orchard_117 : decode cX10_orchard 117 = .ok (.aload_n 0, 1) := by decide +kernel
theorem dX10_orchard_118 : decode cX10_orchard 118 = .ok (.getfield 94, 3) := by decide +kernel
theorem dX10_orchard_121 : decode cX10_orchard 121 = .ok (.aload_n 0, 1) := by decide +kernel
theorem dX10_orchard_122 : decode cX10_orchard 122 = .ok (.getfield 41, 3) := by decide +kernel
theorem dX10_orchard_125 : decode cX10_orchard 125 = .ok (.iconst 4, 1) := by decide +kernel
theorem dX10_orchard_126 : decode cX10_orchard 126 = .ok (.iload_n 2, 1) := by decide +kernel
theorem dX10_orchard_127 : decode cX10_orchard 127 = .ok (.imul, 1) := by decide +kernel
theorem dX10_orchard_128 : decode cX10_orchard 128 = .ok (.iaload, 1) := by decide +kernel
theorem dX10_orchard_129 : decode cX10_orchard 129 = .ok (.iastore, 1) := by decide +kernel
theorem dX10_orchard_130 : decode cX10_orchard 130 = .ok (.aload_n 0, 1) := by decide +kernel
theorem dX10_orchard_131 : decode cX10_orchard 131 = .ok (.getfield 16, 3) := by decide +kernel
theorem dX10_orchard_134 : decode cX10_orchard 134 = .ok (.aload_n 0, 1) := by decide +kernel
theorem dX10_orchard_135 : decode cX10_orchard 135 = .ok (.getfield 94, 3) := by decide +kernel
theorem dX10_orchard_138 : decode cX10_orchard 138 = .ok (.aload_n 0, 1) := by decide +kernel
theorem dX10_orchard_139 : decode cX10_orchard 139 = .ok (.getfield 41, 3) := by decide +kernel
theorem dX10_orchard_142 : decode cX10_orchard 142 = .ok (.iconst 4, 1) := by decide +kernel
theorem dX10_orchard_143 : decode cX10_orchard 143 = .ok (.iload_n 2, 1) := by decide +kernel
theorem dX10_orchard_144 : decode cX10_orchard 144 = .ok (.imul, 1) := by decide +kernel
theorem dX10_orchard_145 : decode cX10_orchard 145 = .ok (.iconst 1, 1) := by decide +kernel
theorem dX10_orchard_146 : decode cX10_orchard 146 = .ok (.iadd, 1) := by decide +kernel
theorem dX10_orchard_147 : decode cX10_orchard 147 = .ok (.iaload, 1) := by decide +kernel
theorem dX10_orchard_148 : decode cX10_orchard 148 = .ok (.iastore, 1) := by decide +kernel
theorem dX10_orchard_149 : decode cX10_orchard 149 = .ok (.aload_n 0, 1) := by decide +kernel
theorem dX10_orchard_150 : decode cX10_orchard 150 = .ok (.getfield 19, 3) := by decide +kernel
theorem dX10_orchard_153 : decode cX10_orchard 153 = .ok (.aload_n 0, 1) := by decide +kernel
theorem dX10_orchard_154 : decode cX10_orchard 154 = .ok (.getfield 94, 3) := by decide +kernel
theorem dX10_orchard_157 : decode cX10_orchard 157 = .ok (.aload_n 0, 1) := by decide +kernel
theorem dX10_orchard_158 : decode cX10_orchard 158 = .ok (.getfield 41, 3) := by decide +kernel
theorem dX10_orchard_161 : decode cX10_orchard 161 = .ok (.iconst 4, 1) := by decide +kernel
theorem dX10_orchard_162 : decode cX10_orchard 162 = .ok (.iload_n 2, 1) := by decide +kernel
theorem dX10_orchard_163 : decode cX10_orchard 163 = .ok (.imul, 1) := by decide +kernel
theorem dX10_orchard_164 : decode cX10_orchard 164 = .ok (.iconst 2, 1) := by decide +kernel
theorem dX10_orchard_165 : decode cX10_orchard 165 = .ok (.iadd, 1) := by decide +kernel
theorem dX10_orchard_166 : decode cX10_orchard 166 = .ok (.iaload, 1) := by decide +kernel
theorem dX10_orchard_167 : decode cX10_orchard 167 = .ok (.iastore, 1) := by decide +kernel
theorem dX10_orchard_168 : decode cX10_orchard 168 = .ok (.aload_n 0, 1) := by decide +kernel
theorem dX10_orchard_169 : decode cX10_orchard 169 = .ok (.getfield 22, 3) := by decide +kernel
theorem dX10_orchard_172 : decode cX10_orchard 172 = .ok (.aload_n 0, 1) := by decide +kernel
theorem dX10_orchard_173 : decode cX10_orchard 173 = .ok (.getfield 94, 3) := by decide +kernel
theorem dX10_orchard_176 : decode cX10_orchard 176 = .ok (.aload_n 0, 1) := by decide +kernel
theorem dX10_orchard_177 : decode cX10_orchard 177 = .ok (.getfield 41, 3) := by decide +kernel
theorem dX10_orchard_180 : decode cX10_orchard 180 = .ok (.iconst 4, 1) := by decide +kernel
theorem dX10_orchard_181 : decode cX10_orchard 181 = .ok (.iload_n 2, 1) := by decide +kernel
theorem dX10_orchard_182 : decode cX10_orchard 182 = .ok (.imul, 1) := by decide +kernel
theorem dX10_orchard_183 : decode cX10_orchard 183 = .ok (.iconst 3, 1) := by decide +kernel
theorem dX10_orchard_184 : decode cX10_orchard 184 = .ok (.iadd, 1) := by decide +kernel
theorem dX10_orchard_185 : decode cX10_orchard 185 = .ok (.iaload, 1) := by decide +kernel
theorem dX10_orchard_186 : decode cX10_orchard 186 = .ok (.iastore, 1) := by decide +kernel
theorem dX10_orchard_187 : decode cX10_orchard 187 = .ok (.aload_n 0, 1) := by decide +kernel
theorem dX10_orchard_188 : decode cX10_orchard 188 = .ok (.getfield 9, 3) := by decide +kernel
theorem dX10_orchard_191 : decode cX10_orchard 191 = .ok (.aload_n 0, 1) := by decide +kernel
theorem dX10_orchard_192 : decode cX10_orchard 192 = .ok (.getfield 94, 3) := by decide +kernel
theorem dX10_orchard_195 : decode cX10_orchard 195 = .ok (.iconst 0, 1) := by decide +kernel
theorem dX10_orchard_196 : decode cX10_orchard 196 = .ok (.iastore, 1) := by decide +kernel
theorem dX10_orchard_197 : decode cX10_orchard 197 = .ok (.aload_n 0, 1) := by decide +kernel
theorem dX10_orchard_198 : decode cX10_orchard 198 = .ok (.dup, 1) := by decide +kernel
theorem dX10_orchard_199 : decode cX10_orchard 199 = .ok (.getfield 94, 3) := by decide +kernel
theorem dX10_orchard_202 : decode cX10_orchard 202 = .ok (.iconst 1, 1) := by decide +kernel
theorem dX10_orchard_203 : decode cX10_orchard 203 = .ok (.iadd, 1) := by decide +kernel
theorem dX10_orchard_204 : decode cX10_orchard 204 = .ok (.putfield 94, 3) := by decide +kernel
theorem dX10_orchard_207 : decode cX10_orchard 207 = .ok (.iinc 2 1, 3) := by decide +kernel
theorem dX10_orchard_210 : decode cX10_orchard 210 = .ok (.goto (-105), 3) := by decide +kernel
theorem dX10_orchard_213 : decode cX10_orchard 213 = .ok (.iconst 0, 1) := by decide +kernel
theorem dX10_orchard_214 : decode cX10_orchard 214 = .ok (.istore_n 2, 1) := by decide +kernel
theorem dX10_orchard_215 : decode cX10_orchard 215 = .ok (.iload_n 2, 1) := by decide +kernel
theorem dX10_orchard_216 : decode cX10_orchard 216 = .ok (.aload_n 0, 1) := by decide +kernel
theorem dX10_orchard_217 : decode cX10_orchard 217 = .ok (.getfield 149, 3) := by decide +kernel
theorem dX10_orchard_220 : decode cX10_orchard 220 = .ok (.if_icmp .ge 55, 3) := by decide +kernel
theorem dX10_orchard_223 : decode cX10_orchard 223 = .ok (.aload_n 0, 1) := by decide +kernel
theorem dX10_orchard_224 : decode cX10_orchard 224 = .ok (.getfield 25, 3) := by decide +kernel
theorem dX10_orchard_227 : decode cX10_orchard 227 = .ok (.aload_n 0, 1) := by decide +kernel
theorem dX10_orchard_228 : decode cX10_orchard 228 = .ok (.getfield 101, 3) := by decide +kernel
theorem dX10_orchard_231 : decode cX10_orchard 231 = .ok (.aload_n 0, 1) := by decide +kernel
theorem dX10_orchard_232 : decode cX10_orchard 232 = .ok (.getfield 44, 3) := by decide +kernel
theorem dX10_orchard_235 : decode cX10_orchard 235 = .ok (.iconst 2, 1) := by decide +kernel
theorem dX10_orchard_236 : decode cX10_orchard 236 = .ok (.iload_n 2, 1) := by decide +kernel
theorem dX10_orchard_237 : decode cX10_orchard 237 = .ok (.imul, 1) := by decide +kernel
theorem dX10_orchard_238 : decode cX10_orchard 238 = .ok (.iaload, 1) := by decide +kernel
theorem dX10_orchard_239 : decode cX10_orchard 239 = .ok (.iastore, 1) := by decide +kernel
theorem dX10_orchard_240 : decode cX10_orchard 240 = .ok (.aload_n 0, 1) := by decide +kernel
theorem dX10_orchard_241 : decode cX10_orchard 241 = .ok (.getfield 28, 3) := by decide +kernel
theorem dX10_orchard_244 : decode cX10_orchard 244 = .ok (.aload_n 0, 1) := by decide +kernel
theorem dX10_orchard_245 : decode cX10_orchard 245 = .ok (.getfield 101, 3) := by decide +kernel
theorem dX10_orchard_248 : decode cX10_orchard 248 = .ok (.aload_n 0, 1) := by decide +kernel
theorem dX10_orchard_249 : decode cX10_orchard 249 = .ok (.getfield 44, 3) := by decide +kernel
theorem dX10_orchard_252 : decode cX10_orchard 252 = .ok (.iconst 2, 1) := by decide +kernel
theorem dX10_orchard_253 : decode cX10_orchard 253 = .ok (.iload_n 2, 1) := by decide +kernel
theorem dX10_orchard_254 : decode cX10_orchard 254 = .ok (.imul, 1) := by decide +kernel
theorem dX10_orchard_255 : decode cX10_orchard 255 = .ok (.iconst 1, 1) := by decide +kernel
theorem dX10_orchard_256 : decode cX10_orchard 256 = .ok (.iadd, 1) := by decide +kernel
theorem dX10_orchard_257 : decode cX10_orchard 257 = .ok (.iaload, 1) := by decide +kernel
theorem dX10_orchard_258 : decode cX10_orchard 258 = .ok (.iastore, 1) := by decide +kernel
theorem dX10_orchard_259 : decode cX10_orchard 259 = .ok (.aload_n 0, 1) := by decide +kernel
theorem dX10_orchard_260 : decode cX10_orchard 260 = .ok (.dup, 1) := by decide +kernel
theorem dX10_orchard_261 : decode cX10_orchard 261 = .ok (.getfield 101, 3) := by decide +kernel
theorem dX10_orchard_264 : decode cX10_orchard 264 = .ok (.iconst 1, 1) := by decide +kernel
theorem dX10_orchard_265 : decode cX10_orchard 265 = .ok (.iadd, 1) := by decide +kernel
theorem dX10_orchard_266 : decode cX10_orchard 266 = .ok (.putfield 101, 3) := by decide +kernel
theorem dX10_orchard_269 : decode cX10_orchard 269 = .ok (.iinc 2 1, 3) := by decide +kernel
theorem dX10_orchard_272 : decode cX10_orchard 272 = .ok (.goto (-57), 3) := by decide +kernel
theorem dX10_orchard_275 : decode cX10_orchard 275 = .ok (.aload_n 0, 1) := by decide +kernel
theorem dX10_orchard_276 : decode cX10_orchard 276 = .ok (.iconst 0, 1) := by decide +kernel
theorem dX10_orchard_277 : decode cX10_orchard 277 = .ok (.putfield 159, 3) := by decide +kernel
theorem dX10_orchard_280 : decode cX10_orchard 280 = .ok (.aload_n 0, 1) := by decide +kernel
theorem dX10_orchard_281 : decode cX10_orchard 281 = .ok (.dup, 1) := by decide +kernel
theorem dX10_orchard_282 : decode cX10_orchard 282 = .ok (.getfield 162, 3) := by decide +kernel
theorem dX10_orchard_285 : decode cX10_orchard 285 = .ok (.iconst 1, 1) := by decide +kernel
theorem dX10_orchard_286 : decode cX10_orchard 286 = .ok (.iadd, 1) := by decide +kernel
theorem dX10_orchard_287 : decode cX10_orchard 287 = .ok (.putfield 162, 3) := by decide +kernel
theorem dX10_orchard_290 : decode cX10_orchard 290 = .ok (.aload_n 0, 1) := by decide +kernel
theorem dX10_orchard_291 : decode cX10_orchard 291 = .ok (.getfield 138, 3) := by decide +kernel
theorem dX10_orchard_294 : decode cX10_orchard 294 = .ok (.aload_n 0, 1) := by decide +kernel
theorem dX10_orchard_295 : decode cX10_orchard 295 = .ok (.getfield 149, 3) := by decide +kernel
theorem dX10_orchard_298 : decode cX10_orchard 298 = .ok (.iadd, 1) := by decide +kernel
theorem dX10_orchard_299 : decode cX10_orchard 299 = .ok (.ireturn, 1) := by decide +kernel
theorem dX10_above_0 : decode cX10_above 0 = .ok (.iconst 0, 1) := by decide +kernel
theorem dX10_above_1 : decode cX10_above 1 = .ok (.aload_n 0, 1) := by decide +kernel
theorem dX10_above_2 : decode cX10_above 2 = .ok (.getfield 16, 3) := by decide +kernel
theorem dX10_above_5 : decode cX10_above 5 = .ok (.iload_n 1, 1) := by decide +kernel
theorem dX10_above_6 : decode cX10_above 6 = .ok (.iaload, 1) := by decide +kernel
theorem dX10_above_7 : decode cX10_above 7 = .ok (.aload_n 0, 1) := by decide +kernel
theorem dX10_above_8 : decode cX10_above 8 = .ok (.getfield 28, 3) := by decide +kernel
theorem dX10_above_11 : decode cX10_above 11 = .ok (.iload_n 2, 1) := by decide +kernel
theorem dX10_above_12 : decode cX10_above 12 = .ok (.iaload, 1) := by decide +kernel
theorem dX10_above_13 : decode cX10_above 13 = .ok (.isub, 1) := by decide +kernel
theorem dX10_above_14 : decode cX10_above 14 = .ok (.invokestatic 211, 3) := by decide +kernel
theorem dX10_above_17 : decode cX10_above 17 = .ok (.ireturn, 1) := by decide +kernel
theorem dX10_far_0 : decode cX10_far 0 = .ok (.aload_n 0, 1) := by decide +kernel
theorem dX10_far_1 : decode cX10_far 1 = .ok (.getfield 13, 3) := by decide +kernel
theorem dX10_far_4 : decode cX10_far 4 = .ok (.iload_n 1, 1) := by decide +kernel
theorem dX10_far_5 : decode cX10_far 5 = .ok (.iaload, 1) := by decide +kernel
theorem dX10_far_6 : decode cX10_far 6 = .ok (.aload_n 0, 1) := by decide +kernel
theorem dX10_far_7 : decode cX10_far 7 = .ok (.getfield 25, 3) := by decide +kernel
theorem dX10_far_10 : decode cX10_far 10 = .ok (.iload_n 2, 1) := by decide +kernel
theorem dX10_far_11 : decode cX10_far 11 = .ok (.iaload, 1) := by decide +kernel
theorem dX10_far_12 : decode cX10_far 12 = .ok (.isub, 1) := by decide +kernel
theorem dX10_far_13 : decode cX10_far 13 = .ok (.invokestatic 206, 3) := by decide +kernel
theorem dX10_far_16 : decode cX10_far 16 = .ok (.ireturn, 1) := by decide +kernel
theorem dX10_valueOf_0 : decode cX10_valueOf 0 = .ok (.iload_n 1, 1) := by decide +kernel
theorem dX10_valueOf_1 : decode cX10_valueOf 1 = .ok (.lookupswitch 115 #[(100, 59), (107, 110), (115, 105), (117, 72), (119, 95), (121, 85)], 59) := by decide +kernel
theorem dX10_valueOf_60 : decode cX10_valueOf 60 = .ok (.aload_n 0, 1) := by decide +kernel
theorem dX10_valueOf_61 : decode cX10_valueOf 61 = .ok (.aload_n 0, 1) := by decide +kernel
theorem dX10_valueOf_62 : decode cX10_valueOf 62 = .ok (.getfield 184, 3) := by decide +kernel
theorem dX10_valueOf_65 : decode cX10_valueOf 65 = .ok (.aload_n 0, 1) := by decide +kernel
theorem dX10_valueOf_66 : decode cX10_valueOf 66 = .ok (.getfield 187, 3) := by decide +kernel
theorem dX10_valueOf_69 : decode cX10_valueOf 69 = .ok (.invokevirtual 190, 3) := by decide +kernel
theorem dX10_valueOf_72 : decode cX10_valueOf 72 = .ok (.ireturn, 1) := by decide +kernel
theorem dX10_valueOf_73 : decode cX10_valueOf 73 = .ok (.aload_n 0, 1) := by decide +kernel
theorem dX10_valueOf_74 : decode cX10_valueOf 74 = .ok (.aload_n 0, 1) := by decide +kernel
theorem dX10_valueOf_75 : decode cX10_valueOf 75 = .ok (.getfield 184, 3) := by decide +kernel
theorem dX10_valueOf_78 : decode cX10_valueOf 78 = .ok (.aload_n 0, 1) := by decide +kernel
theorem dX10_valueOf_79 : decode cX10_valueOf 79 = .ok (.getfield 187, 3) := by decide +kernel
theorem dX10_valueOf_82 : decode cX10_valueOf 82 = .ok (.invokevirtual 194, 3) := by decide +kernel
theorem dX10_valueOf_85 : decode cX10_valueOf 85 = .ok (.ireturn, 1) := by decide +kernel
theorem dX10_valueOf_86 : decode cX10_valueOf 86 = .ok (.aload_n 0, 1) := by decide +kernel
theorem dX10_valueOf_87 : decode cX10_valueOf 87 = .ok (.getfield 16, 3) := by decide +kernel
theorem dX10_valueOf_90 : decode cX10_valueOf 90 = .ok (.aload_n 0, 1) := by decide +kernel
theorem dX10_valueOf_91 : decode cX10_valueOf 91 = .ok (.getfield 184, 3) := by decide +kernel
theorem dX10_valueOf_94 : decode cX10_valueOf 94 = .ok (.iaload, 1) := by decide +kernel
theorem dX10_valueOf_95 : decode cX10_valueOf 95 = .ok (.ireturn, 1) := by decide +kernel
theorem dX10_valueOf_96 : decode cX10_valueOf 96 = .ok (.aload_n 0, 1) := by decide +kernel
theorem dX10_valueOf_97 : decode cX10_valueOf 97 = .ok (.getfield 19, 3) := by decide +kernel
theorem dX10_valueOf_100 : decode cX10_valueOf 100 = .ok (.aload_n 0, 1) := by decide +kernel
theorem dX10_valueOf_101 : decode cX10_valueOf 101 = .ok (.getfield 184, 3) := by decide +kernel
theorem dX10_valueOf_104 : decode cX10_valueOf 104 = .ok (.iaload, 1) := by decide +kernel
theorem dX10_valueOf_105 : decode cX10_valueOf 105 = .ok (.ireturn, 1) := by decide +kernel
theorem dX10_valueOf_106 : decode cX10_valueOf 106 = .ok (.aload_n 0, 1) := by decide +kernel
theorem dX10_valueOf_107 : decode cX10_valueOf 107 = .ok (.getfield 187, 3) := by decide +kernel
theorem dX10_valueOf_110 : decode cX10_valueOf 110 = .ok (.ireturn, 1) := by decide +kernel
theorem dX10_valueOf_111 : decode cX10_valueOf 111 = .ok (.aload_n 0, 1) := by decide +kernel
theorem dX10_valueOf_112 : decode cX10_valueOf 112 = .ok (.getfield 197, 3) := by decide +kernel
theorem dX10_valueOf_115 : decode cX10_valueOf 115 = .ok (.ireturn, 1) := by decide +kernel
theorem dX10_valueOf_116 : decode cX10_valueOf 116 = .ok (.aload_n 0, 1) := by decide +kernel
theorem dX10_valueOf_117 : decode cX10_valueOf 117 = .ok (.getfield 200, 3) := by decide +kernel
theorem dX10_valueOf_120 : decode cX10_valueOf 120 = .ok (.ireturn, 1) := by decide +kernel
theorem dX10_thing_0 : decode cX10_thing 0 = .ok (.aload_n 0, 1) := by decide +kernel
theorem dX10_thing_1 : decode cX10_thing 1 = .ok (.bipush 45, 2) := by decide +kernel
theorem dX10_thing_3 : decode cX10_thing 3 = .ok (.invokevirtual 130, 3) := by decide +kernel
theorem dX10_thing_6 : decode cX10_thing 6 = .ok (.ifCond .eq 10, 3) := by decide +kernel
theorem dX10_thing_9 : decode cX10_thing 9 = .ok (.aload_n 0, 1) := by decide +kernel
theorem dX10_thing_10 : decode cX10_thing 10 = .ok (.iload_n 1, 1) := by decide +kernel
theorem dX10_thing_11 : decode cX10_thing 11 = .ok (.invokevirtual 171, 3) := by decide +kernel
theorem dX10_thing_14 : decode cX10_thing 14 = .ok (.ineg, 1) := by decide +kernel
theorem dX10_thing_15 : decode cX10_thing 15 = .ok (.ireturn, 1) := by decide +kernel
theorem dX10_thing_16 : decode cX10_thing 16 = .ok (.aload_n 0, 1) := by decide +kernel
theorem dX10_thing_17 : decode cX10_thing 17 = .ok (.invokevirtual 122, 3) := by decide +kernel
theorem dX10_thing_20 : decode cX10_thing 20 = .ok (.ifCond .ne 5, 3) := by decide +kernel
theorem dX10_thing_23 : decode cX10_thing 23 = .ok (.iconst 0, 1) := by decide +kernel
theorem dX10_thing_24 : decode cX10_thing 24 = .ok (.ireturn, 1) := by decide +kernel
theorem dX10_thing_25 : decode cX10_thing 25 = .ok (.aload_n 0, 1) := by decide +kernel
theorem dX10_thing_26 : decode cX10_thing 26 = .ok (.invokevirtual 126, 3) := by decide +kernel
theorem dX10_thing_29 : decode cX10_thing 29 = .ok (.istore_n 2, 1) := by decide +kernel
theorem dX10_thing_30 : decode cX10_thing 30 = .ok (.iload_n 2, 1) := by decide +kernel
theorem dX10_thing_31 : decode cX10_thing 31 = .ok (.bipush 40, 2) := by decide +kernel
theorem dX10_thing_33 : decode cX10_thing 33 = .ok (.if_icmp .ne 34, 3) := by decide +kernel
theorem dX10_thing_36 : decode cX10_thing 36 = .ok (.iload_n 1, 1) := by decide +kernel
theorem dX10_thing_37 : decode cX10_thing 37 = .ok (.iconst 4, 1) := by decide +kernel
theorem dX10_thing_38 : decode cX10_thing 38 = .ok (.if_icmp .ge 29, 3) := by decide +kernel
theorem dX10_thing_41 : decode cX10_thing 41 = .ok (.aload_n 0, 1) := by decide +kernel
theorem dX10_thing_42 : decode cX10_thing 42 = .ok (.dup, 1) := by decide +kernel
theorem dX10_thing_43 : decode cX10_thing 43 = .ok (.getfield 116, 3) := by decide +kernel
theorem dX10_thing_46 : decode cX10_thing 46 = .ok (.iconst 1, 1) := by decide +kernel
theorem dX10_thing_47 : decode cX10_thing 47 = .ok (.iadd, 1) := by decide +kernel
theorem dX10_thing_48 : decode cX10_thing 48 = .ok (.putfield 116, 3) := by decide +kernel
theorem dX10_thing_51 : decode cX10_thing 51 = .ok (.aload_n 0, 1) := by decide +kernel
theorem dX10_thing_52 : decode cX10_thing 52 = .ok (.iload_n 1, 1) := by decide +kernel
theorem dX10_thing_53 : decode cX10_thing 53 = .ok (.iconst 1, 1) := by decide +kernel
theorem dX10_thing_54 : decode cX10_thing 54 = .ok (.iadd, 1) := by decide +kernel
theorem dX10_thing_55 : decode cX10_thing 55 = .ok (.invokevirtual 174, 3) := by decide +kernel
theorem dX10_thing_58 : decode cX10_thing 58 = .ok (.istore_n 3, 1) := by decide +kernel
theorem dX10_thing_59 : decode cX10_thing 59 = .ok (.aload_n 0, 1) := by decide +kernel
theorem dX10_thing_60 : decode cX10_thing 60 = .ok (.bipush 41, 2) := by decide +kernel
theorem dX10_thing_62 : decode cX10_thing 62 = .ok (.invokevirtual 145, 3) := by decide +kernel
theorem dX10_thing_65 : decode cX10_thing 65 = .ok (.iload_n 3, 1) := by decide +kernel
theorem dX10_thing_66 : decode cX10_thing 66 = .ok (.ireturn, 1) := by decide +kernel
theorem dX10_thing_67 : decode cX10_thing 67 = .ok (.iload_n 2, 1) := by decide +kernel
theorem dX10_thing_68 : decode cX10_thing 68 = .ok (.bipush 48, 2) := by decide +kernel
theorem dX10_thing_70 : decode cX10_thing 70 = .ok (.bipush 57, 2) := by decide +kernel
theorem dX10_thing_72 : decode cX10_thing 72 = .ok (.invokestatic 97, 3) := by decide +kernel
theorem dX10_thing_75 : decode cX10_thing 75 = .ok (.ifCond .eq 9, 3) := by decide +kernel
theorem dX10_thing_78 : decode cX10_thing 78 = .ok (.aload_n 0, 1) := by decide +kernel
theorem dX10_thing_79 : decode cX10_thing 79 = .ok (.iconst 3, 1) := by decide +kernel
theorem dX10_thing_80 : decode cX10_thing 80 = .ok (.invokevirtual 141, 3) := by decide +kernel
theorem dX10_thing_83 : decode cX10_thing 83 = .ok (.ireturn, 1) := by decide +kernel
theorem dX10_thing_84 : decode cX10_thing 84 = .ok (.iload_n 2, 1) := by decide +kernel
theorem dX10_thing_85 : decode cX10_thing 85 = .ok (.bipush 100, 2) := by decide +kernel
theorem dX10_thing_87 : decode cX10_thing 87 = .ok (.if_icmp .eq 49, 3) := by decide +kernel
theorem dX10_thing_90 : decode cX10_thing 90 = .ok (.iload_n 2, 1) := by decide +kernel
theorem dX10_thing_91 : decode cX10_thing 91 = .ok (.bipush 117, 2) := by decide +kernel
theorem dX10_thing_93 : decode cX10_thing 93 = .ok (.if_icmp .eq 43, 3) := by decide +kernel
theorem dX10_thing_96 : decode cX10_thing 96 = .ok (.iload_n 2, 1) := by decide +kernel
theorem dX10_thing_97 : decode cX10_thing 97 = .ok (.bipush 121, 2) := by decide +kernel
theorem dX10_thing_99 : decode cX10_thing 99 = .ok (.if_icmp .eq 37, 3) := by decide +kernel
theorem dX10_thing_102 : decode cX10_thing 102 = .ok (.iload_n 2, 1) := by decide +kernel
theorem dX10_thing_103 : decode cX10_thing 103 = .ok (.bipush 119, 2) := by decide +kernel
theorem dX10_thing_105 : decode cX10_thing 105 = .ok (.if_icmp .eq 31, 3) := by decide +kernel
theorem dX10_thing_108 : decode cX10_thing 108 = .ok (.iload_n 2, 1) := by decide +kernel
theorem dX10_thing_109 : decode cX10_thing 109 = .ok (.bipush 115, 2) := by decide +kernel
theorem dX10_thing_111 : decode cX10_thing 111 = .ok (.if_icmp .eq 25, 3) := by decide +kernel
theorem dX10_thing_114 : decode cX10_thing 114 = .ok (.iload_n 2, 1) := by decide +kernel
theorem dX10_thing_115 : decode cX10_thing 115 = .ok (.bipush 107, 2) := by decide +kernel
theorem dX10_thing_117 : decode cX10_thing 117 = .ok (.if_icmp .eq 19, 3) := by decide +kernel
theorem dX10_thing_120 : decode cX10_thing 120 = .ok (.iload_n 2, 1) := by decide +kernel
theorem dX10_thing_121 : decode cX10_thing 121 = .ok (.bipush 111, 2) := by decide +kernel
theorem dX10_thing_123 : decode cX10_thing 123 = .ok (.if_icmp .eq 13, 3) := by decide +kernel
theorem dX10_thing_126 : decode cX10_thing 126 = .ok (.aload_n 0, 1) := by decide +kernel
theorem dX10_thing_127 : decode cX10_thing 127 = .ok (.aload_n 0, 1) := by decide +kernel
theorem dX10_thing_128 : decode cX10_thing 128 = .ok (.getfield 116, 3) := by decide +kernel
theorem dX10_thing_131 : decode cX10_thing 131 = .ok (.invokevirtual 134, 3) := by decide +kernel
theorem dX10_thing_134 : decode cX10_thing 134 = .ok (.iconst 0, 1) := by decide +kernel
theorem dX10_thing_135 : decode cX10_thing 135 = .ok (.ireturn, 1) := by decide +kernel
theorem dX10_thing_136 : decode cX10_thing 136 = .ok (.aload_n 0, 1) := by decide +kernel
theorem dX10_thing_137 : decode cX10_thing 137 = .ok (.dup, 1) := by decide +kernel
theorem dX10_thing_138 : decode cX10_thing 138 = .ok (.getfield 116, 3) := by decide +kernel
theorem dX10_thing_141 : decode cX10_thing 141 = .ok (.iconst 1, 1) := by decide +kernel
theorem dX10_thing_142 : decode cX10_thing 142 = .ok (.iadd, 1) := by decide +kernel
theorem dX10_thing_143 : decode cX10_thing 143 = .ok (.putfield 116, 3) := by decide +kernel
theorem dX10_thing_146 : decode cX10_thing 146 = .ok (.aload_n 0, 1) := by decide +kernel
theorem dX10_thing_147 : decode cX10_thing 147 = .ok (.getfield 177, 3) := by decide +kernel
theorem dX10_thing_150 : decode cX10_thing 150 = .ok (.ifCond .eq 11, 3) := by decide +kernel
theorem dX10_thing_153 : decode cX10_thing 153 = .ok (.aload_n 0, 1) := by decide +kernel
theorem dX10_thing_154 : decode cX10_thing 154 = .ok (.iload_n 2, 1) := by decide +kernel
theorem dX10_thing_155 : decode cX10_thing 155 = .ok (.invokevirtual 181, 3) := by decide +kernel
theorem dX10_thing_158 : decode cX10_thing 158 = .ok (.goto 4, 3) := by decide +kernel
theorem dX10_thing_161 : decode cX10_thing 161 = .ok (.iconst 0, 1) := by decide +kernel
theorem dX10_thing_162 : decode cX10_thing 162 = .ok (.ireturn, 1) := by decide +kernel
theorem dX10_product_0 : decode cX10_product 0 = .ok (.aload_n 0, 1) := by decide +kernel
theorem dX10_product_1 : decode cX10_product 1 = .ok (.iload_n 1, 1) := by decide +kernel
theorem dX10_product_2 : decode cX10_product 2 = .ok (.invokevirtual 171, 3) := by decide +kernel
theorem dX10_product_5 : decode cX10_product 5 = .ok (.istore_n 2, 1) := by decide +kernel
theorem dX10_product_6 : decode cX10_product 6 = .ok (.aload_n 0, 1) := by decide +kernel
theorem dX10_product_7 : decode cX10_product 7 = .ok (.invokevirtual 122, 3) := by decide +kernel
theorem dX10_product_10 : decode cX10_product 10 = .ok (.ifCond .eq 81, 3) := by decide +kernel
theorem dX10_product_13 : decode cX10_product 13 = .ok (.aload_n 0, 1) := by decide +kernel
theorem dX10_product_14 : decode cX10_product 14 = .ok (.invokevirtual 126, 3) := by decide +kernel
theorem dX10_product_17 : decode cX10_product 17 = .ok (.bipush 42, 2) := by decide +kernel
theorem dX10_product_19 : decode cX10_product 19 = .ok (.if_icmp .eq 12, 3) := by decide +kernel
theorem dX10_product_22 : decode cX10_product 22 = .ok (.aload_n 0, 1) := by decide +kernel
theorem dX10_product_23 : decode cX10_product 23 = .ok (.invokevirtual 126, 3) := by decide +kernel
theorem dX10_product_26 : decode cX10_product 26 = .ok (.bipush 47, 2) := by decide +kernel
theorem dX10_product_28 : decode cX10_product 28 = .ok (.if_icmp .ne 63, 3) := by decide +kernel
theorem dX10_product_31 : decode cX10_product 31 = .ok (.aload_n 0, 1) := by decide +kernel
theorem dX10_product_32 : decode cX10_product 32 = .ok (.invokevirtual 126, 3) := by decide +kernel
theorem dX10_product_35 : decode cX10_product 35 = .ok (.bipush 42, 2) := by decide +kernel
theorem dX10_product_37 : decode cX10_product 37 = .ok (.if_icmp .ne 7, 3) := by decide +kernel
theorem dX10_product_40 : decode cX10_product 40 = .ok (.iconst 1, 1) := by decide +kernel
theorem dX10_product_41 : decode cX10_product 41 = .ok (.goto 4, 3) := by decide +kernel
theorem dX10_product_44 : decode cX10_product 44 = .ok (.iconst 0, 1) := by decide +kernel
theorem dX10_product_45 : decode cX10_product 45 = .ok (.istore_n 3, 1) := by decide +kernel
theorem dX10_product_46 : decode cX10_product 46 = .ok (.aload_n 0, 1) := by decide +kernel
theorem dX10_product_47 : decode cX10_product 47 = .ok (.dup, 1) := by decide +kernel
theorem dX10_product_48 : decode cX10_product 48 = .ok (.getfield 116, 3) := by decide +kernel
theorem dX10_product_51 : decode cX10_product 51 = .ok (.iconst 1, 1) := by decide +kernel
theorem dX10_product_52 : decode cX10_product 52 = .ok (.iadd, 1) := by decide +kernel
theorem dX10_product_53 : decode cX10_product 53 = .ok (.putfield 116, 3) := by decide +kernel
theorem dX10_product_56 : decode cX10_product 56 = .ok (.aload_n 0, 1) := by decide +kernel
theorem dX10_product_57 : decode cX10_product 57 = .ok (.iload_n 1, 1) := by decide +kernel
theorem dX10_product_58 : decode cX10_product 58 = .ok (.invokevirtual 171, 3) := by decide +kernel
theorem dX10_product_61 : decode cX10_product 61 = .ok (.istore 4, 2) := by decide +kernel
theorem dX10_product_63 : decode cX10_product 63 = .ok (.iload_n 3, 1) := by decide +kernel
theorem dX10_product_64 : decode cX10_product 64 = .ok (.ifCond .eq 10, 3) := by decide +kernel
theorem dX10_product_67 : decode cX10_product 67 = .ok (.iload_n 2, 1) := by decide +kernel
theorem dX10_product_68 : decode cX10_product 68 = .ok (.iload 4, 2) := by decide +kernel
theorem dX10_product_70 : decode cX10_product 70 = .ok (.imul, 1) := by decide +kernel
theorem dX10_product_71 : decode cX10_product 71 = .ok (.goto 16, 3) := by decide +kernel
theorem dX10_product_74 : decode cX10_product 74 = .ok (.iload 4, 2) := by decide +kernel
theorem dX10_product_76 : decode cX10_product 76 = .ok (.ifCond .ne 7, 3) := by decide +kernel
theorem dX10_product_79 : decode cX10_product 79 = .ok (.iconst 0, 1) := by decide +kernel
theorem dX10_product_80 : decode cX10_product 80 = .ok (.goto 7, 3) := by decide +kernel
theorem dX10_product_83 : decode cX10_product 83 = .ok (.iload_n 2, 1) := by decide +kernel
theorem dX10_product_84 : decode cX10_product 84 = .ok (.iload 4, 2) := by decide +kernel
theorem dX10_product_86 : decode cX10_product 86 = .ok (.idiv, 1) := by decide +kernel
theorem dX10_product_87 : decode cX10_product 87 = .ok (.istore_n 2, 1) := by decide +kernel
theorem dX10_product_88 : decode cX10_product 88 = .ok (.goto (-82), 3) := by decide +kernel
theorem dX10_product_91 : decode cX10_product 91 = .ok (.iload_n 2, 1) := by decide +kernel
theorem dX10_product_92 : decode cX10_product 92 = .ok (.ireturn, 1) := by decide +kernel
theorem dX10_sum_0 : decode cX10_sum 0 = .ok (.aload_n 0, 1) := by decide +kernel
theorem dX10_sum_1 : decode cX10_sum 1 = .ok (.iload_n 1, 1) := by decide +kernel
theorem dX10_sum_2 : decode cX10_sum 2 = .ok (.invokevirtual 168, 3) := by decide +kernel
theorem dX10_sum_5 : decode cX10_sum 5 = .ok (.istore_n 2, 1) := by decide +kernel
theorem dX10_sum_6 : decode cX10_sum 6 = .ok (.aload_n 0, 1) := by decide +kernel
theorem dX10_sum_7 : decode cX10_sum 7 = .ok (.invokevirtual 122, 3) := by decide +kernel
theorem dX10_sum_10 : decode cX10_sum 10 = .ok (.ifCond .eq 72, 3) := by decide +kernel
theorem dX10_sum_13 : decode cX10_sum 13 = .ok (.aload_n 0, 1) := by decide +kernel
theorem dX10_sum_14 : decode cX10_sum 14 = .ok (.invokevirtual 126, 3) := by decide +kernel
theorem dX10_sum_17 : decode cX10_sum 17 = .ok (.bipush 43, 2) := by decide +kernel
theorem dX10_sum_19 : decode cX10_sum 19 = .ok (.if_icmp .eq 12, 3) := by decide +kernel
theorem dX10_sum_22 : decode cX10_sum 22 = .ok (.aload_n 0, 1) := by decide +kernel
theorem dX10_sum_23 : decode cX10_sum 23 = .ok (.invokevirtual 126, 3) := by decide +kernel
theorem dX10_sum_26 : decode cX10_sum 26 = .ok (.bipush 45, 2) := by decide +kernel
theorem dX10_sum_28 : decode cX10_sum 28 = .ok (.if_icmp .ne 54, 3) := by decide +kernel
theorem dX10_sum_31 : decode cX10_sum 31 = .ok (.aload_n 0, 1) := by decide +kernel
theorem dX10_sum_32 : decode cX10_sum 32 = .ok (.invokevirtual 126, 3) := by decide +kernel
theorem dX10_sum_35 : decode cX10_sum 35 = .ok (.bipush 43, 2) := by decide +kernel
theorem dX10_sum_37 : decode cX10_sum 37 = .ok (.if_icmp .ne 7, 3) := by decide +kernel
theorem dX10_sum_40 : decode cX10_sum 40 = .ok (.iconst 1, 1) := by decide +kernel
theorem dX10_sum_41 : decode cX10_sum 41 = .ok (.goto 4, 3) := by decide +kernel
theorem dX10_sum_44 : decode cX10_sum 44 = .ok (.iconst 0, 1) := by decide +kernel
theorem dX10_sum_45 : decode cX10_sum 45 = .ok (.istore_n 3, 1) := by decide +kernel
theorem dX10_sum_46 : decode cX10_sum 46 = .ok (.aload_n 0, 1) := by decide +kernel
theorem dX10_sum_47 : decode cX10_sum 47 = .ok (.dup, 1) := by decide +kernel
theorem dX10_sum_48 : decode cX10_sum 48 = .ok (.getfield 116, 3) := by decide +kernel
theorem dX10_sum_51 : decode cX10_sum 51 = .ok (.iconst 1, 1) := by decide +kernel
theorem dX10_sum_52 : decode cX10_sum 52 = .ok (.iadd, 1) := by decide +kernel
theorem dX10_sum_53 : decode cX10_sum 53 = .ok (.putfield 116, 3) := by decide +kernel
theorem dX10_sum_56 : decode cX10_sum 56 = .ok (.aload_n 0, 1) := by decide +kernel
theorem dX10_sum_57 : decode cX10_sum 57 = .ok (.iload_n 1, 1) := by decide +kernel
theorem dX10_sum_58 : decode cX10_sum 58 = .ok (.invokevirtual 168, 3) := by decide +kernel
theorem dX10_sum_61 : decode cX10_sum 61 = .ok (.istore 4, 2) := by decide +kernel
theorem dX10_sum_63 : decode cX10_sum 63 = .ok (.iload_n 3, 1) := by decide +kernel
theorem dX10_sum_64 : decode cX10_sum 64 = .ok (.ifCond .eq 10, 3) := by decide +kernel
theorem dX10_sum_67 : decode cX10_sum 67 = .ok (.iload_n 2, 1) := by decide +kernel
theorem dX10_sum_68 : decode cX10_sum 68 = .ok (.iload 4, 2) := by decide +kernel
theorem dX10_sum_70 : decode cX10_sum 70 = .ok (.iadd, 1) := by decide +kernel
theorem dX10_sum_71 : decode cX10_sum 71 = .ok (.goto 7, 3) := by decide +kernel
theorem dX10_sum_74 : decode cX10_sum 74 = .ok (.iload_n 2, 1) := by decide +kernel
theorem dX10_sum_75 : decode cX10_sum 75 = .ok (.iload 4, 2) := by decide +kernel
theorem dX10_sum_77 : decode cX10_sum 77 = .ok (.isub, 1) := by decide +kernel
theorem dX10_sum_78 : decode cX10_sum 78 = .ok (.istore_n 2, 1) := by decide +kernel
theorem dX10_sum_79 : decode cX10_sum 79 = .ok (.goto (-73), 3) := by decide +kernel
theorem dX10_sum_82 : decode cX10_sum 82 = .ok (.iload_n 2, 1) := by decide +kernel
theorem dX10_sum_83 : decode cX10_sum 83 = .ok (.ireturn, 1) := by decide +kernel
theorem dX10_held_0 : decode cX10_held 0 = .ok (.aload_n 0, 1) := by decide +kernel
theorem dX10_held_1 : decode cX10_held 1 = .ok (.iload_n 1, 1) := by decide +kernel
theorem dX10_held_2 : decode cX10_held 2 = .ok (.invokevirtual 165, 3) := by decide +kernel
theorem dX10_held_5 : decode cX10_held 5 = .ok (.istore_n 2, 1) := by decide +kernel
theorem dX10_held_6 : decode cX10_held 6 = .ok (.aload_n 0, 1) := by decide +kernel
theorem dX10_held_7 : decode cX10_held 7 = .ok (.bipush 60, 2) := by decide +kernel
theorem dX10_held_9 : decode cX10_held 9 = .ok (.invokevirtual 130, 3) := by decide +kernel
theorem dX10_held_12 : decode cX10_held 12 = .ok (.ifCond .eq 18, 3) := by decide +kernel
theorem dX10_held_15 : decode cX10_held 15 = .ok (.iload_n 2, 1) := by decide +kernel
theorem dX10_held_16 : decode cX10_held 16 = .ok (.aload_n 0, 1) := by decide +kernel
theorem dX10_held_17 : decode cX10_held 17 = .ok (.iload_n 1, 1) := by decide +kernel
theorem dX10_held_18 : decode cX10_held 18 = .ok (.invokevirtual 165, 3) := by decide +kernel
theorem dX10_held_21 : decode cX10_held 21 = .ok (.if_icmp .ge 7, 3) := by decide +kernel
theorem dX10_held_24 : decode cX10_held 24 = .ok (.iconst 1, 1) := by decide +kernel
theorem dX10_held_25 : decode cX10_held 25 = .ok (.goto 4, 3) := by decide +kernel
theorem dX10_held_28 : decode cX10_held 28 = .ok (.iconst 0, 1) := by decide +kernel
theorem dX10_held_29 : decode cX10_held 29 = .ok (.ireturn, 1) := by decide +kernel
theorem dX10_held_30 : decode cX10_held 30 = .ok (.aload_n 0, 1) := by decide +kernel
theorem dX10_held_31 : decode cX10_held 31 = .ok (.bipush 62, 2) := by decide +kernel
theorem dX10_held_33 : decode cX10_held 33 = .ok (.invokevirtual 130, 3) := by decide +kernel
theorem dX10_held_36 : decode cX10_held 36 = .ok (.ifCond .eq 18, 3) := by decide +kernel
theorem dX10_held_39 : decode cX10_held 39 = .ok (.iload_n 2, 1) := by decide +kernel
theorem dX10_held_40 : decode cX10_held 40 = .ok (.aload_n 0, 1) := by decide +kernel
theorem dX10_held_41 : decode cX10_held 41 = .ok (.iload_n 1, 1) := by decide +kernel
theorem dX10_held_42 : decode cX10_held 42 = .ok (.invokevirtual 165, 3) := by decide +kernel
theorem dX10_held_45 : decode cX10_held 45 = .ok (.if_icmp .le 7, 3) := by decide +kernel
theorem dX10_held_48 : decode cX10_held 48 = .ok (.iconst 1, 1) := by decide +kernel
theorem dX10_held_49 : decode cX10_held 49 = .ok (.goto 4, 3) := by decide +kernel
theorem dX10_held_52 : decode cX10_held 52 = .ok (.iconst 0, 1) := by decide +kernel
theorem dX10_held_53 : decode cX10_held 53 = .ok (.ireturn, 1) := by decide +kernel
theorem dX10_held_54 : decode cX10_held 54 = .ok (.aload_n 0, 1) := by decide +kernel
theorem dX10_held_55 : decode cX10_held 55 = .ok (.bipush 61, 2) := by decide +kernel
theorem dX10_held_57 : decode cX10_held 57 = .ok (.invokevirtual 130, 3) := by decide +kernel
theorem dX10_held_60 : decode cX10_held 60 = .ok (.ifCond .eq 18, 3) := by decide +kernel
theorem dX10_held_63 : decode cX10_held 63 = .ok (.iload_n 2, 1) := by decide +kernel
theorem dX10_held_64 : decode cX10_held 64 = .ok (.aload_n 0, 1) := by decide +kernel
theorem dX10_held_65 : decode cX10_held 65 = .ok (.iload_n 1, 1) := by decide +kernel
theorem dX10_held_66 : decode cX10_held 66 = .ok (.invokevirtual 165, 3) := by decide +kernel
theorem dX10_held_69 : decode cX10_held 69 = .ok (.if_icmp .ne 7, 3) := by decide +kernel
theorem dX10_held_72 : decode cX10_held 72 = .ok (.iconst 1, 1) := by decide +kernel
theorem dX10_held_73 : decode cX10_held 73 = .ok (.goto 4, 3) := by decide +kernel
theorem dX10_held_76 : decode cX10_held 76 = .ok (.iconst 0, 1) := by decide +kernel
theorem dX10_held_77 : decode cX10_held 77 = .ok (.ireturn, 1) := by decide +kernel
theorem dX10_held_78 : decode cX10_held 78 = .ok (.iload_n 2, 1) := by decide +kernel
theorem dX10_held_79 : decode cX10_held 79 = .ok (.ireturn, 1) := by decide +kernel
theorem dX10_rule_0 : decode cX10_rule 0 = .ok (.aload_n 0, 1) := by decide +kernel
theorem dX10_rule_1 : decode cX10_rule 1 = .ok (.iconst 0, 1) := by decide +kernel
theorem dX10_rule_2 : decode cX10_rule 2 = .ok (.putfield 87, 3) := by decide +kernel
theorem dX10_rule_5 : decode cX10_rule 5 = .ok (.aload_n 0, 1) := by decide +kernel
theorem dX10_rule_6 : decode cX10_rule 6 = .ok (.getfield 104, 3) := by decide +kernel
theorem dX10_rule_9 : decode cX10_rule 9 = .ok (.istore_n 1, 1) := by decide +kernel
theorem dX10_rule_10 : decode cX10_rule 10 = .ok (.aload_n 0, 1) := by decide +kernel
theorem dX10_rule_11 : decode cX10_rule 11 = .ok (.aload_n 0, 1) := by decide +kernel
theorem dX10_rule_12 : decode cX10_rule 12 = .ok (.getfield 34, 3) := by decide +kernel
theorem dX10_rule_15 : decode cX10_rule 15 = .ok (.iload_n 1, 1) := by decide +kernel
theorem dX10_rule_16 : decode cX10_rule 16 = .ok (.bipush 40, 2) := by decide +kernel
theorem dX10_rule_18 : decode cX10_rule 18 = .ok (.invokevirtual 152, 3) := by decide +kernel
theorem dX10_rule_21 : decode cX10_rule 21 = .ok (.aload_n 0, 1) := by decide +kernel
theorem dX10_rule_22 : decode cX10_rule 22 = .ok (.iconst 0, 1) := by decide +kernel
theorem dX10_rule_23 : decode cX10_rule 23 = .ok (.putfield 104, 3) := by decide +kernel
theorem dX10_rule_26 : decode cX10_rule 26 = .ok (.aload_n 0, 1) := by decide +kernel
theorem dX10_rule_27 : decode cX10_rule 27 = .ok (.iconst 0, 1) := by decide +kernel
theorem dX10_rule_28 : decode cX10_rule 28 = .ok (.putfield 177, 3) := by decide +kernel
theorem dX10_rule_31 : decode cX10_rule 31 = .ok (.iload_n 1, 1) := by decide +kernel
theorem dX10_rule_32 : decode cX10_rule 32 = .ok (.ifCond .le 39, 3) := by decide +kernel
theorem dX10_rule_35 : decode cX10_rule 35 = .ok (.aload_n 0, 1) := by decide +kernel
theorem dX10_rule_36 : decode cX10_rule 36 = .ok (.iconst 0, 1) := by decide +kernel
theorem dX10_rule_37 : decode cX10_rule 37 = .ok (.invokevirtual 174, 3) := by decide +kernel
theorem dX10_rule_40 : decode cX10_rule 40 = .ok (.pop, 1) := by decide +kernel
theorem dX10_rule_41 : decode cX10_rule 41 = .ok (.aload_n 0, 1) := by decide +kernel
theorem dX10_rule_42 : decode cX10_rule 42 = .ok (.getfield 116, 3) := by decide +kernel
theorem dX10_rule_45 : decode cX10_rule 45 = .ok (.iload_n 1, 1) := by decide +kernel
theorem dX10_rule_46 : decode cX10_rule 46 = .ok (.if_icmp .ge 11, 3) := by decide +kernel
theorem dX10_rule_49 : decode cX10_rule 49 = .ok (.aload_n 0, 1) := by decide +kernel
theorem dX10_rule_50 : decode cX10_rule 50 = .ok (.aload_n 0, 1) := by decide +kernel
theorem dX10_rule_51 : decode cX10_rule 51 = .ok (.getfield 116, 3) := by decide +kernel
theorem dX10_rule_54 : decode cX10_rule 54 = .ok (.invokevirtual 134, 3) := by decide +kernel
theorem dX10_rule_57 : decode cX10_rule 57 = .ok (.aload_n 0, 1) := by decide +kernel
theorem dX10_rule_58 : decode cX10_rule 58 = .ok (.invokevirtual 122, 3) := by decide +kernel
theorem dX10_rule_61 : decode cX10_rule 61 = .ok (.ifCond .ne 10, 3) := by decide +kernel
theorem dX10_rule_64 : decode cX10_rule 64 = .ok (.iconst (-1), 1) := by decide +kernel
theorem dX10_rule_65 : decode cX10_rule 65 = .ok (.aload_n 0, 1) := by decide +kernel
theorem dX10_rule_66 : decode cX10_rule 66 = .ok (.getfield 119, 3) := by decide +kernel
theorem dX10_rule_69 : decode cX10_rule 69 = .ok (.isub, 1) := by decide +kernel
theorem dX10_rule_70 : decode cX10_rule 70 = .ok (.ireturn, 1) := by decide +kernel
theorem dX10_rule_71 : decode cX10_rule 71 = .ok (.iconst 0, 1) := by decide +kernel
theorem dX10_rule_72 : decode cX10_rule 72 = .ok (.istore_n 2, 1) := by decide +kernel
theorem dX10_rule_73 : decode cX10_rule 73 = .ok (.iload_n 2, 1) := by decide +kernel
theorem dX10_rule_74 : decode cX10_rule 74 = .ok (.iload_n 1, 1) := by decide +kernel
theorem dX10_rule_75 : decode cX10_rule 75 = .ok (.if_icmp .ge 21, 3) := by decide +kernel
theorem dX10_rule_78 : decode cX10_rule 78 = .ok (.aload_n 0, 1) := by decide +kernel
theorem dX10_rule_79 : decode cX10_rule 79 = .ok (.getfield 47, 3) := by decide +kernel
theorem dX10_rule_82 : decode cX10_rule 82 = .ok (.iload_n 2, 1) := by decide +kernel
theorem dX10_rule_83 : decode cX10_rule 83 = .ok (.aload_n 0, 1) := by decide +kernel
theorem dX10_rule_84 : decode cX10_rule 84 = .ok (.getfield 34, 3) := by decide +kernel
theorem dX10_rule_87 : decode cX10_rule 87 = .ok (.iload_n 2, 1) := by decide +kernel
theorem dX10_rule_88 : decode cX10_rule 88 = .ok (.baload, 1) := by decide +kernel
theorem dX10_rule_89 : decode cX10_rule 89 = .ok (.bastore, 1) := by decide +kernel
theorem dX10_rule_90 : decode cX10_rule 90 = .ok (.iinc 2 1, 3) := by decide +kernel
theorem dX10_rule_93 : decode cX10_rule 93 = .ok (.goto (-20), 3) := by decide +kernel
theorem dX10_rule_96 : decode cX10_rule 96 = .ok (.aload_n 0, 1) := by decide +kernel
theorem dX10_rule_97 : decode cX10_rule 97 = .ok (.iload_n 1, 1) := by decide +kernel
theorem dX10_rule_98 : decode cX10_rule 98 = .ok (.putfield 203, 3) := by decide +kernel
theorem dX10_rule_101 : decode cX10_rule 101 = .ok (.iconst 0, 1) := by decide +kernel
theorem dX10_rule_102 : decode cX10_rule 102 = .ok (.ireturn, 1) := by decide +kernel
theorem dX10_isFruit_0 : decode cX10_isFruit 0 = .ok (.iload_n 1, 1) := by decide +kernel
theorem dX10_isFruit_1 : decode cX10_isFruit 1 = .ok (.iconst 0, 1) := by decide +kernel
theorem dX10_isFruit_2 : decode cX10_isFruit 2 = .ok (.aload_n 0, 1) := by decide +kernel
theorem dX10_isFruit_3 : decode cX10_isFruit 3 = .ok (.getfield 94, 3) := by decide +kernel
theorem dX10_isFruit_6 : decode cX10_isFruit 6 = .ok (.iconst 1, 1) := by decide +kernel
theorem dX10_isFruit_7 : decode cX10_isFruit 7 = .ok (.isub, 1) := by decide +kernel
theorem dX10_isFruit_8 : decode cX10_isFruit 8 = .ok (.invokestatic 97, 3) := by decide +kernel
theorem dX10_isFruit_11 : decode cX10_isFruit 11 = .ok (.ireturn, 1) := by decide +kernel
theorem dX10_which_0 : decode cX10_which 0 = .ok (.iconst 0, 1) := by decide +kernel
theorem dX10_which_1 : decode cX10_which 1 = .ok (.istore_n 3, 1) := by decide +kernel
theorem dX10_which_2 : decode cX10_which 2 = .ok (.iconst 0, 1) := by decide +kernel
theorem dX10_which_3 : decode cX10_which 3 = .ok (.istore 4, 2) := by decide +kernel
theorem dX10_which_5 : decode cX10_which 5 = .ok (.iload 4, 2) := by decide +kernel
theorem dX10_which_7 : decode cX10_which 7 = .ok (.aload_n 0, 1) := by decide +kernel
theorem dX10_which_8 : decode cX10_which 8 = .ok (.getfield 94, 3) := by decide +kernel
theorem dX10_which_11 : decode cX10_which 11 = .ok (.if_icmp .ge 28, 3) := by decide +kernel
theorem dX10_which_14 : decode cX10_which 14 = .ok (.iload_n 3, 1) := by decide +kernel
theorem dX10_which_15 : decode cX10_which 15 = .ok (.aload_n 1, 1) := by decide +kernel
theorem dX10_which_16 : decode cX10_which 16 = .ok (.iload 4, 2) := by decide +kernel
theorem dX10_which_18 : decode cX10_which 18 = .ok (.iaload, 1) := by decide +kernel
theorem dX10_which_19 : decode cX10_which 19 = .ok (.iload_n 2, 1) := by decide +kernel
theorem dX10_which_20 : decode cX10_which 20 = .ok (.if_icmp .ne 10, 3) := by decide +kernel
theorem dX10_which_23 : decode cX10_which 23 = .ok (.iconst 1, 1) := by decide +kernel
theorem dX10_which_24 : decode cX10_which 24 = .ok (.iload 4, 2) := by decide +kernel
theorem dX10_which_26 : decode cX10_which 26 = .ok (.ishl, 1) := by decide +kernel
theorem dX10_which_27 : decode cX10_which 27 = .ok (.goto 4, 3) := by decide +kernel
theorem dX10_which_30 : decode cX10_which 30 = .ok (.iconst 0, 1) := by decide +kernel
theorem dX10_which_31 : decode cX10_which 31 = .ok (.ior, 1) := by decide +kernel
theorem dX10_which_32 : decode cX10_which 32 = .ok (.istore_n 3, 1) := by decide +kernel
theorem dX10_which_33 : decode cX10_which 33 = .ok (.iinc 4 1, 3) := by decide +kernel
theorem dX10_which_36 : decode cX10_which 36 = .ok (.goto (-31), 3) := by decide +kernel
theorem dX10_which_39 : decode cX10_which 39 = .ok (.iload_n 3, 1) := by decide +kernel
theorem dX10_which_40 : decode cX10_which 40 = .ok (.ireturn, 1) := by decide +kernel
theorem dX10_has_0 : decode cX10_has 0 = .ok (.iload_n 0, 1) := by decide +kernel
theorem dX10_has_1 : decode cX10_has 1 = .ok (.iload_n 1, 1) := by decide +kernel
theorem dX10_has_2 : decode cX10_has 2 = .ok (.ishr, 1) := by decide +kernel
theorem dX10_has_3 : decode cX10_has 3 = .ok (.iconst 1, 1) := by decide +kernel
theorem dX10_has_4 : decode cX10_has 4 = .ok (.iand, 1) := by decide +kernel
theorem dX10_has_5 : decode cX10_has 5 = .ok (.iconst 1, 1) := by decide +kernel
theorem dX10_has_6 : decode cX10_has 6 = .ok (.if_icmp .ne 7, 3) := by decide +kernel
theorem dX10_has_9 : decode cX10_has 9 = .ok (.iconst 1, 1) := by decide +kernel
theorem dX10_has_10 : decode cX10_has 10 = .ok (.goto 4, 3) := by decide +kernel
theorem dX10_has_13 : decode cX10_has 13 = .ok (.iconst 0, 1) := by decide +kernel
theorem dX10_has_14 : decode cX10_has 14 = .ok (.ireturn, 1) := by decide +kernel
theorem dX10_isBelow_0 : decode cX10_isBelow 0 = .ok (.aload_n 0, 1) := by decide +kernel
theorem dX10_isBelow_1 : decode cX10_isBelow 1 = .ok (.getfield 13, 3) := by decide +kernel
theorem dX10_isBelow_4 : decode cX10_isBelow 4 = .ok (.iload_n 2, 1) := by decide +kernel
theorem dX10_isBelow_5 : decode cX10_isBelow 5 = .ok (.iaload, 1) := by decide +kernel
theorem dX10_isBelow_6 : decode cX10_isBelow 6 = .ok (.aload_n 0, 1) := by decide +kernel
theorem dX10_isBelow_7 : decode cX10_isBelow 7 = .ok (.getfield 13, 3) := by decide +kernel
theorem dX10_isBelow_10 : decode cX10_isBelow 10 = .ok (.iload_n 1, 1) := by decide +kernel
theorem dX10_isBelow_11 : decode cX10_isBelow 11 = .ok (.iaload, 1) := by decide +kernel
theorem dX10_isBelow_12 : decode cX10_isBelow 12 = .ok (.isub, 1) := by decide +kernel
theorem dX10_isBelow_13 : decode cX10_isBelow 13 = .ok (.invokestatic 206, 3) := by decide +kernel
theorem dX10_isBelow_16 : decode cX10_isBelow 16 = .ok (.iconst 1, 1) := by decide +kernel
theorem dX10_isBelow_17 : decode cX10_isBelow 17 = .ok (.if_icmp .gt 22, 3) := by decide +kernel
theorem dX10_isBelow_20 : decode cX10_isBelow 20 = .ok (.aload_n 0, 1) := by decide +kernel
theorem dX10_isBelow_21 : decode cX10_isBelow 21 = .ok (.getfield 16, 3) := by decide +kernel
theorem dX10_isBelow_24 : decode cX10_isBelow 24 = .ok (.iload_n 1, 1) := by decide +kernel
theorem dX10_isBelow_25 : decode cX10_isBelow 25 = .ok (.iaload, 1) := by decide +kernel
theorem dX10_isBelow_26 : decode cX10_isBelow 26 = .ok (.aload_n 0, 1) := by decide +kernel
theorem dX10_isBelow_27 : decode cX10_isBelow 27 = .ok (.getfield 16, 3) := by decide +kernel
theorem dX10_isBelow_30 : decode cX10_isBelow 30 = .ok (.iload_n 2, 1) := by decide +kernel
theorem dX10_isBelow_31 : decode cX10_isBelow 31 = .ok (.iaload, 1) := by decide +kernel
theorem dX10_isBelow_32 : decode cX10_isBelow 32 = .ok (.if_icmp .ge 7, 3) := by decide +kernel
theorem dX10_isBelow_35 : decode cX10_isBelow 35 = .ok (.iconst 1, 1) := by decide +kernel
theorem dX10_isBelow_36 : decode cX10_isBelow 36 = .ok (.goto 4, 3) := by decide +kernel
theorem dX10_isBelow_39 : decode cX10_isBelow 39 = .ok (.iconst 0, 1) := by decide +kernel
theorem dX10_isBelow_40 : decode cX10_isBelow 40 = .ok (.ireturn, 1) := by decide +kernel
theorem dX10_below_0 : decode cX10_below 0 = .ok (.iconst 0, 1) := by decide +kernel
theorem dX10_below_1 : decode cX10_below 1 = .ok (.istore_n 3, 1) := by decide +kernel
theorem dX10_below_2 : decode cX10_below 2 = .ok (.iconst 0, 1) := by decide +kernel
theorem dX10_below_3 : decode cX10_below 3 = .ok (.istore 4, 2) := by decide +kernel
theorem dX10_below_5 : decode cX10_below 5 = .ok (.iload 4, 2) := by decide +kernel
theorem dX10_below_7 : decode cX10_below 7 = .ok (.aload_n 0, 1) := by decide +kernel
theorem dX10_below_8 : decode cX10_below 8 = .ok (.getfield 94, 3) := by decide +kernel
theorem dX10_below_11 : decode cX10_below 11 = .ok (.if_icmp .ge 39, 3) := by decide +kernel
theorem dX10_below_14 : decode cX10_below 14 = .ok (.iload_n 3, 1) := by decide +kernel
theorem dX10_below_15 : decode cX10_below 15 = .ok (.iload_n 2, 1) := by decide +kernel
theorem dX10_below_16 : decode cX10_below 16 = .ok (.iload 4, 2) := by decide +kernel
theorem dX10_below_18 : decode cX10_below 18 = .ok (.invokestatic 227, 3) := by decide +kernel
theorem dX10_below_21 : decode cX10_below 21 = .ok (.ifCond .eq 20, 3) := by decide +kernel
theorem dX10_below_24 : decode cX10_below 24 = .ok (.aload_n 0, 1) := by decide +kernel
theorem dX10_below_25 : decode cX10_below 25 = .ok (.iload 4, 2) := by decide +kernel
theorem dX10_below_27 : decode cX10_below 27 = .ok (.iload_n 1, 1) := by decide +kernel
theorem dX10_below_28 : decode cX10_below 28 = .ok (.invokevirtual 231, 3) := by decide +kernel
theorem dX10_below_31 : decode cX10_below 31 = .ok (.ifCond .eq 10, 3) := by decide +kernel
theorem dX10_below_34 : decode cX10_below 34 = .ok (.iconst 1, 1) := by decide +kernel
theorem dX10_below_35 : decode cX10_below 35 = .ok (.iload 4, 2) := by decide +kernel
theorem dX10_below_37 : decode cX10_below 37 = .ok (.ishl, 1) := by decide +kernel
theorem dX10_below_38 : decode cX10_below 38 = .ok (.goto 4, 3) := by decide +kernel
theorem dX10_below_41 : decode cX10_below 41 = .ok (.iconst 0, 1) := by decide +kernel
theorem dX10_below_42 : decode cX10_below 42 = .ok (.ior, 1) := by decide +kernel
theorem dX10_below_43 : decode cX10_below 43 = .ok (.istore_n 3, 1) := by decide +kernel
theorem dX10_below_44 : decode cX10_below 44 = .ok (.iinc 4 1, 3) := by decide +kernel
theorem dX10_below_47 : decode cX10_below 47 = .ok (.goto (-42), 3) := by decide +kernel
theorem dX10_below_50 : decode cX10_below 50 = .ok (.iload_n 3, 1) := by decide +kernel
theorem dX10_below_51 : decode cX10_below 51 = .ok (.ireturn, 1) := by decide +kernel
theorem dX10_lost_0 : decode cX10_lost 0 = .ok (.aload_n 0, 1) := by decide +kernel
theorem dX10_lost_1 : decode cX10_lost 1 = .ok (.iconst 1, 1) := by decide +kernel
theorem dX10_lost_2 : decode cX10_lost 2 = .ok (.putfield 87, 3) := by decide +kernel
theorem dX10_lost_5 : decode cX10_lost 5 = .ok (.iconst 0, 1) := by decide +kernel
theorem dX10_lost_6 : decode cX10_lost 6 = .ok (.ireturn, 1) := by decide +kernel
theorem dX10_fruit_0 : decode cX10_fruit 0 = .ok (.aload_n 0, 1) := by decide +kernel
theorem dX10_fruit_1 : decode cX10_fruit 1 = .ok (.iconst 0, 1) := by decide +kernel
theorem dX10_fruit_2 : decode cX10_fruit 2 = .ok (.putfield 87, 3) := by decide +kernel
theorem dX10_fruit_5 : decode cX10_fruit 5 = .ok (.aload_n 0, 1) := by decide +kernel
theorem dX10_fruit_6 : decode cX10_fruit 6 = .ok (.iload_n 1, 1) := by decide +kernel
theorem dX10_fruit_7 : decode cX10_fruit 7 = .ok (.invokevirtual 237, 3) := by decide +kernel
theorem dX10_fruit_10 : decode cX10_fruit 10 = .ok (.ifCond .eq 13, 3) := by decide +kernel
theorem dX10_fruit_13 : decode cX10_fruit 13 = .ok (.iload_n 2, 1) := by decide +kernel
theorem dX10_fruit_14 : decode cX10_fruit 14 = .ok (.iconst 0, 1) := by decide +kernel
theorem dX10_fruit_15 : decode cX10_fruit 15 = .ok (.bipush 6, 2) := by decide +kernel
theorem dX10_fruit_17 : decode cX10_fruit 17 = .ok (.invokestatic 97, 3) := by decide +kernel
theorem dX10_fruit_20 : decode cX10_fruit 20 = .ok (.ifCond .ne 8, 3) := by decide +kernel
theorem dX10_fruit_23 : decode cX10_fruit 23 = .ok (.aload_n 0, 1) := by decide +kernel
theorem dX10_fruit_24 : decode cX10_fruit 24 = .ok (.invokevirtual 241, 3) := by decide +kernel
theorem dX10_fruit_27 : decode cX10_fruit 27 = .ok (.ireturn, 1) := by decide +kernel
theorem dX10_fruit_28 : decode cX10_fruit 28 = .ok (.iload_n 2, 1) := by decide +kernel
theorem dX10_fruit_29 : decode cX10_fruit 29 = .ok (.tableswitch 86 0 5 #[39, 46, 53, 60, 67, 74], 39) := by decide +kernel
theorem dX10_fruit_68 : decode cX10_fruit 68 = .ok (.aload_n 0, 1) := by decide +kernel
theorem dX10_fruit_69 : decode cX10_fruit 69 = .ok (.getfield 13, 3) := by decide +kernel
theorem dX10_fruit_72 : decode cX10_fruit 72 = .ok (.iload_n 1, 1) := by decide +kernel
theorem dX10_fruit_73 : decode cX10_fruit 73 = .ok (.iaload, 1) := by decide +kernel
theorem dX10_fruit_74 : decode cX10_fruit 74 = .ok (.ireturn, 1) := by decide +kernel
theorem dX10_fruit_75 : decode cX10_fruit 75 = .ok (.aload_n 0, 1) := by decide +kernel
theorem dX10_fruit_76 : decode cX10_fruit 76 = .ok (.getfield 16, 3) := by decide +kernel
theorem dX10_fruit_79 : decode cX10_fruit 79 = .ok (.iload_n 1, 1) := by decide +kernel
theorem dX10_fruit_80 : decode cX10_fruit 80 = .ok (.iaload, 1) := by decide +kernel
theorem dX10_fruit_81 : decode cX10_fruit 81 = .ok (.ireturn, 1) := by decide +kernel
theorem dX10_fruit_82 : decode cX10_fruit 82 = .ok (.aload_n 0, 1) := by decide +kernel
theorem dX10_fruit_83 : decode cX10_fruit 83 = .ok (.getfield 19, 3) := by decide +kernel
theorem dX10_fruit_86 : decode cX10_fruit 86 = .ok (.iload_n 1, 1) := by decide +kernel
theorem dX10_fruit_87 : decode cX10_fruit 87 = .ok (.iaload, 1) := by decide +kernel
theorem dX10_fruit_88 : decode cX10_fruit 88 = .ok (.ireturn, 1) := by decide +kernel
theorem dX10_fruit_89 : decode cX10_fruit 89 = .ok (.aload_n 0, 1) := by decide +kernel
theorem dX10_fruit_90 : decode cX10_fruit 90 = .ok (.getfield 22, 3) := by decide +kernel
theorem dX10_fruit_93 : decode cX10_fruit 93 = .ok (.iload_n 1, 1) := by decide +kernel
theorem dX10_fruit_94 : decode cX10_fruit 94 = .ok (.iaload, 1) := by decide +kernel
theorem dX10_fruit_95 : decode cX10_fruit 95 = .ok (.ireturn, 1) := by decide +kernel
theorem dX10_fruit_96 : decode cX10_fruit 96 = .ok (.aload_n 0, 1) := by decide +kernel
theorem dX10_fruit_97 : decode cX10_fruit 97 = .ok (.getfield 9, 3) := by decide +kernel
theorem dX10_fruit_100 : decode cX10_fruit 100 = .ok (.iload_n 1, 1) := by decide +kernel
theorem dX10_fruit_101 : decode cX10_fruit 101 = .ok (.iaload, 1) := by decide +kernel
theorem dX10_fruit_102 : decode cX10_fruit 102 = .ok (.ireturn, 1) := by decide +kernel
theorem dX10_fruit_103 : decode cX10_fruit 103 = .ok (.aload_n 0, 1) := by decide +kernel
theorem dX10_fruit_104 : decode cX10_fruit 104 = .ok (.getfield 9, 3) := by decide +kernel
theorem dX10_fruit_107 : decode cX10_fruit 107 = .ok (.bipush 16, 2) := by decide +kernel
theorem dX10_fruit_109 : decode cX10_fruit 109 = .ok (.iaload, 1) := by decide +kernel
theorem dX10_fruit_110 : decode cX10_fruit 110 = .ok (.iload_n 1, 1) := by decide +kernel
theorem dX10_fruit_111 : decode cX10_fruit 111 = .ok (.ishr, 1) := by decide +kernel
theorem dX10_fruit_112 : decode cX10_fruit 112 = .ok (.iconst 1, 1) := by decide +kernel
theorem dX10_fruit_113 : decode cX10_fruit 113 = .ok (.iand, 1) := by decide +kernel
theorem dX10_fruit_114 : decode cX10_fruit 114 = .ok (.ireturn, 1) := by decide +kernel
theorem dX10_fruit_115 : decode cX10_fruit 115 = .ok (.aload_n 0, 1) := by decide +kernel
theorem dX10_fruit_116 : decode cX10_fruit 116 = .ok (.getfield 9, 3) := by decide +kernel
theorem dX10_fruit_119 : decode cX10_fruit 119 = .ok (.iload_n 1, 1) := by decide +kernel
theorem dX10_fruit_120 : decode cX10_fruit 120 = .ok (.iaload, 1) := by decide +kernel
theorem dX10_fruit_121 : decode cX10_fruit 121 = .ok (.ifCond .ne 20, 3) := by decide +kernel
theorem dX10_fruit_124 : decode cX10_fruit 124 = .ok (.aload_n 0, 1) := by decide +kernel
