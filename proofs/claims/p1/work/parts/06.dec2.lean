theorem dX12_feed_13 : decode cX12_feed 13 = .ok (.iconst (-1), 1) := by decide +kernel
theorem dX12_feed_14 : decode cX12_feed 14 = .ok (.ireturn, 1) := by decide +kernel
theorem dX12_feed_15 : decode cX12_feed 15 = .ok (.aload_n 0, 1) := by decide +kernel
theorem dX12_feed_16 : decode cX12_feed 16 = .ok (.iload_n 1, 1) := by decide +kernel
theorem dX12_feed_17 : decode cX12_feed 17 = .ok (.invokevirtual 165, 3) := by decide +kernel
theorem dX12_feed_20 : decode cX12_feed 20 = .ok (.aload_n 0, 1) := by decide +kernel
theorem dX12_feed_21 : decode cX12_feed 21 = .ok (.iload_n 2, 1) := by decide +kernel
theorem dX12_feed_22 : decode cX12_feed 22 = .ok (.invokevirtual 165, 3) := by decide +kernel
theorem dX12_feed_25 : decode cX12_feed 25 = .ok (.aload_n 0, 1) := by decide +kernel
theorem dX12_feed_26 : decode cX12_feed 26 = .ok (.iload_n 3, 1) := by decide +kernel
theorem dX12_feed_27 : decode cX12_feed 27 = .ok (.invokevirtual 165, 3) := by decide +kernel
theorem dX12_feed_30 : decode cX12_feed 30 = .ok (.aload_n 0, 1) := by decide +kernel
theorem dX12_feed_31 : decode cX12_feed 31 = .ok (.iload 4, 2) := by decide +kernel
theorem dX12_feed_33 : decode cX12_feed 33 = .ok (.invokevirtual 165, 3) := by decide +kernel
theorem dX12_feed_36 : decode cX12_feed 36 = .ok (.aload_n 0, 1) := by decide +kernel
theorem dX12_feed_37 : decode cX12_feed 37 = .ok (.iload 5, 2) := by decide +kernel
theorem dX12_feed_39 : decode cX12_feed 39 = .ok (.invokevirtual 165, 3) := by decide +kernel
theorem dX12_feed_42 : decode cX12_feed 42 = .ok (.aload_n 0, 1) := by decide +kernel
theorem dX12_feed_43 : decode cX12_feed 43 = .ok (.getfield 162, 3) := by decide +kernel
theorem dX12_feed_46 : decode cX12_feed 46 = .ok (.ireturn, 1) := by decide +kernel
theorem dX12_readsText_0 : decode cX12_readsText 0 = .ok (.iload_n 2, 1) := by decide +kernel
theorem dX12_readsText_1 : decode cX12_readsText 1 = .ok (.i2l, 1) := by decide +kernel
theorem dX12_readsText_2 : decode cX12_readsText 2 = .ok (.lconst 1, 1) := by decide +kernel
theorem dX12_readsText_3 : decode cX12_readsText 3 = .ok (.ldc2_w 276, 3) := by decide +kernel
theorem dX12_readsText_6 : decode cX12_readsText 6 = .ok (.invokestatic 155, 3) := by decide +kernel
theorem dX12_readsText_9 : decode cX12_readsText 9 = .ok (.ifCond .eq 11, 3) := by decide +kernel
theorem dX12_readsText_12 : decode cX12_readsText 12 = .ok (.iload_n 2, 1) := by decide +kernel
theorem dX12_readsText_13 : decode cX12_readsText 13 = .ok (.aload_n 0, 1) := by decide +kernel
theorem dX12_readsText_14 : decode cX12_readsText 14 = .ok (.getfield 162, 3) := by decide +kernel
theorem dX12_readsText_17 : decode cX12_readsText 17 = .ok (.if_icmp .le 5, 3) := by decide +kernel
theorem dX12_readsText_20 : decode cX12_readsText 20 = .ok (.iconst (-1), 1) := by decide +kernel
theorem dX12_readsText_21 : decode cX12_readsText 21 = .ok (.ireturn, 1) := by decide +kernel
theorem dX12_readsText_22 : decode cX12_readsText 22 = .ok (.aload_n 0, 1) := by decide +kernel
theorem dX12_readsText_23 : decode cX12_readsText 23 = .ok (.iconst 0, 1) := by decide +kernel
theorem dX12_readsText_24 : decode cX12_readsText 24 = .ok (.putfield 162, 3) := by decide +kernel
theorem dX12_readsText_27 : decode cX12_readsText 27 = .ok (.aload_n 0, 1) := by decide +kernel
theorem dX12_readsText_28 : decode cX12_readsText 28 = .ok (.iconst 0, 1) := by decide +kernel
theorem dX12_readsText_29 : decode cX12_readsText 29 = .ok (.putfield 169, 3) := by decide +kernel
theorem dX12_readsText_32 : decode cX12_readsText 32 = .ok (.aload_n 0, 1) := by decide +kernel
theorem dX12_readsText_33 : decode cX12_readsText 33 = .ok (.iload_n 2, 1) := by decide +kernel
theorem dX12_readsText_34 : decode cX12_readsText 34 = .ok (.putfield 172, 3) := by decide +kernel
theorem dX12_readsText_37 : decode cX12_readsText 37 = .ok (.aload_n 0, 1) := by decide +kernel
theorem dX12_readsText_38 : decode cX12_readsText 38 = .ok (.iconst 0, 1) := by decide +kernel
theorem dX12_readsText_39 : decode cX12_readsText 39 = .ok (.putfield 175, 3) := by decide +kernel
theorem dX12_readsText_42 : decode cX12_readsText 42 = .ok (.aload_n 0, 1) := by decide +kernel
theorem dX12_readsText_43 : decode cX12_readsText 43 = .ok (.iconst 0, 1) := by decide +kernel
theorem dX12_readsText_44 : decode cX12_readsText 44 = .ok (.putfield 270, 3) := by decide +kernel
theorem dX12_readsText_47 : decode cX12_readsText 47 = .ok (.aload_n 0, 1) := by decide +kernel
theorem dX12_readsText_48 : decode cX12_readsText 48 = .ok (.iconst 0, 1) := by decide +kernel
theorem dX12_readsText_49 : decode cX12_readsText 49 = .ok (.putfield 182, 3) := by decide +kernel
theorem dX12_readsText_52 : decode cX12_readsText 52 = .ok (.iconst 1, 1) := by decide +kernel
theorem dX12_readsText_53 : decode cX12_readsText 53 = .ok (.istore_n 3, 1) := by decide +kernel
theorem dX12_readsText_54 : decode cX12_readsText 54 = .ok (.iload_n 3, 1) := by decide +kernel
theorem dX12_readsText_55 : decode cX12_readsText 55 = .ok (.ifCond .eq 74, 3) := by decide +kernel
theorem dX12_readsText_58 : decode cX12_readsText 58 = .ok (.aload_n 0, 1) := by decide +kernel
theorem dX12_readsText_59 : decode cX12_readsText 59 = .ok (.invokevirtual 178, 3) := by decide +kernel
theorem dX12_readsText_62 : decode cX12_readsText 62 = .ok (.ifCond .eq 67, 3) := by decide +kernel
theorem dX12_readsText_65 : decode cX12_readsText 65 = .ok (.aload_n 0, 1) := by decide +kernel
theorem dX12_readsText_66 : decode cX12_readsText 66 = .ok (.iload_n 1, 1) := by decide +kernel
theorem dX12_readsText_67 : decode cX12_readsText 67 = .ok (.invokevirtual 278, 3) := by decide +kernel
theorem dX12_readsText_70 : decode cX12_readsText 70 = .ok (.aload_n 0, 1) := by decide +kernel
theorem dX12_readsText_71 : decode cX12_readsText 71 = .ok (.invokevirtual 178, 3) := by decide +kernel
theorem dX12_readsText_74 : decode cX12_readsText 74 = .ok (.ifCond .eq 18, 3) := by decide +kernel
theorem dX12_readsText_77 : decode cX12_readsText 77 = .ok (.aload_n 0, 1) := by decide +kernel
theorem dX12_readsText_78 : decode cX12_readsText 78 = .ok (.getfield 169, 3) := by decide +kernel
theorem dX12_readsText_81 : decode cX12_readsText 81 = .ok (.aload_n 0, 1) := by decide +kernel
theorem dX12_readsText_82 : decode cX12_readsText 82 = .ok (.getfield 172, 3) := by decide +kernel
theorem dX12_readsText_85 : decode cX12_readsText 85 = .ok (.if_icmp .ge 7, 3) := by decide +kernel
theorem dX12_readsText_88 : decode cX12_readsText 88 = .ok (.iconst 1, 1) := by decide +kernel
theorem dX12_readsText_89 : decode cX12_readsText 89 = .ok (.goto 4, 3) := by decide +kernel
theorem dX12_readsText_92 : decode cX12_readsText 92 = .ok (.iconst 0, 1) := by decide +kernel
theorem dX12_readsText_93 : decode cX12_readsText 93 = .ok (.istore_n 3, 1) := by decide +kernel
theorem dX12_readsText_94 : decode cX12_readsText 94 = .ok (.iload_n 3, 1) := by decide +kernel
theorem dX12_readsText_95 : decode cX12_readsText 95 = .ok (.ifCond .eq (-41), 3) := by decide +kernel
theorem dX12_readsText_98 : decode cX12_readsText 98 = .ok (.aload_n 0, 1) := by decide +kernel
theorem dX12_readsText_99 : decode cX12_readsText 99 = .ok (.invokevirtual 195, 3) := by decide +kernel
theorem dX12_readsText_102 : decode cX12_readsText 102 = .ok (.bipush 59, 2) := by decide +kernel
theorem dX12_readsText_104 : decode cX12_readsText 104 = .ok (.if_icmp .eq 12, 3) := by decide +kernel
theorem dX12_readsText_107 : decode cX12_readsText 107 = .ok (.aload_n 0, 1) := by decide +kernel
theorem dX12_readsText_108 : decode cX12_readsText 108 = .ok (.iconst 1, 1) := by decide +kernel
theorem dX12_readsText_109 : decode cX12_readsText 109 = .ok (.aload_n 0, 1) := by decide +kernel
theorem dX12_readsText_110 : decode cX12_readsText 110 = .ok (.getfield 169, 3) := by decide +kernel
theorem dX12_readsText_113 : decode cX12_readsText 113 = .ok (.invokevirtual 191, 3) := by decide +kernel
theorem dX12_readsText_116 : decode cX12_readsText 116 = .ok (.aload_n 0, 1) := by decide +kernel
theorem dX12_readsText_117 : decode cX12_readsText 117 = .ok (.dup, 1) := by decide +kernel
theorem dX12_readsText_118 : decode cX12_readsText 118 = .ok (.getfield 169, 3) := by decide +kernel
theorem dX12_readsText_121 : decode cX12_readsText 121 = .ok (.iconst 1, 1) := by decide +kernel
theorem dX12_readsText_122 : decode cX12_readsText 122 = .ok (.iadd, 1) := by decide +kernel
theorem dX12_readsText_123 : decode cX12_readsText 123 = .ok (.putfield 169, 3) := by decide +kernel
theorem dX12_readsText_126 : decode cX12_readsText 126 = .ok (.goto (-72), 3) := by decide +kernel
theorem dX12_readsText_129 : decode cX12_readsText 129 = .ok (.aload_n 0, 1) := by decide +kernel
theorem dX12_readsText_130 : decode cX12_readsText 130 = .ok (.getfield 175, 3) := by decide +kernel
theorem dX12_readsText_133 : decode cX12_readsText 133 = .ok (.ifCond .ge 8, 3) := by decide +kernel
theorem dX12_readsText_136 : decode cX12_readsText 136 = .ok (.aload_n 0, 1) := by decide +kernel
theorem dX12_readsText_137 : decode cX12_readsText 137 = .ok (.getfield 175, 3) := by decide +kernel
theorem dX12_readsText_140 : decode cX12_readsText 140 = .ok (.ireturn, 1) := by decide +kernel
theorem dX12_readsText_141 : decode cX12_readsText 141 = .ok (.iconst 0, 1) := by decide +kernel
theorem dX12_readsText_142 : decode cX12_readsText 142 = .ok (.istore 4, 2) := by decide +kernel
theorem dX12_readsText_144 : decode cX12_readsText 144 = .ok (.iload 4, 2) := by decide +kernel
theorem dX12_readsText_146 : decode cX12_readsText 146 = .ok (.aload_n 0, 1) := by decide +kernel
theorem dX12_readsText_147 : decode cX12_readsText 147 = .ok (.getfield 270, 3) := by decide +kernel
theorem dX12_readsText_150 : decode cX12_readsText 150 = .ok (.if_icmp .ge 103, 3) := by decide +kernel
theorem dX12_readsText_153 : decode cX12_readsText 153 = .ok (.aload_n 0, 1) := by decide +kernel
theorem dX12_readsText_154 : decode cX12_readsText 154 = .ok (.getfield 24, 3) := by decide +kernel
theorem dX12_readsText_157 : decode cX12_readsText 157 = .ok (.bipush 14, 2) := by decide +kernel
theorem dX12_readsText_159 : decode cX12_readsText 159 = .ok (.iload_n 1, 1) := by decide +kernel
theorem dX12_readsText_160 : decode cX12_readsText 160 = .ok (.imul, 1) := by decide +kernel
theorem dX12_readsText_161 : decode cX12_readsText 161 = .ok (.iload 4, 2) := by decide +kernel
theorem dX12_readsText_163 : decode cX12_readsText 163 = .ok (.iadd, 1) := by decide +kernel
theorem dX12_readsText_164 : decode cX12_readsText 164 = .ok (.aload_n 0, 1) := by decide +kernel
theorem dX12_readsText_165 : decode cX12_readsText 165 = .ok (.getfield 42, 3) := by decide +kernel
theorem dX12_readsText_168 : decode cX12_readsText 168 = .ok (.iload 4, 2) := by decide +kernel
theorem dX12_readsText_170 : decode cX12_readsText 170 = .ok (.iaload, 1) := by decide +kernel
theorem dX12_readsText_171 : decode cX12_readsText 171 = .ok (.iastore, 1) := by decide +kernel
theorem dX12_readsText_172 : decode cX12_readsText 172 = .ok (.aload_n 0, 1) := by decide +kernel
theorem dX12_readsText_173 : decode cX12_readsText 173 = .ok (.getfield 27, 3) := by decide +kernel
theorem dX12_readsText_176 : decode cX12_readsText 176 = .ok (.bipush 14, 2) := by decide +kernel
theorem dX12_readsText_178 : decode cX12_readsText 178 = .ok (.iload_n 1, 1) := by decide +kernel
theorem dX12_readsText_179 : decode cX12_readsText 179 = .ok (.imul, 1) := by decide +kernel
theorem dX12_readsText_180 : decode cX12_readsText 180 = .ok (.iload 4, 2) := by decide +kernel
theorem dX12_readsText_182 : decode cX12_readsText 182 = .ok (.iadd, 1) := by decide +kernel
theorem dX12_readsText_183 : decode cX12_readsText 183 = .ok (.sipush 200, 3) := by decide +kernel
theorem dX12_readsText_186 : decode cX12_readsText 186 = .ok (.iload_n 1, 1) := by decide +kernel
theorem dX12_readsText_187 : decode cX12_readsText 187 = .ok (.imul, 1) := by decide +kernel
theorem dX12_readsText_188 : decode cX12_readsText 188 = .ok (.aload_n 0, 1) := by decide +kernel
theorem dX12_readsText_189 : decode cX12_readsText 189 = .ok (.getfield 45, 3) := by decide +kernel
theorem dX12_readsText_192 : decode cX12_readsText 192 = .ok (.iload 4, 2) := by decide +kernel
theorem dX12_readsText_194 : decode cX12_readsText 194 = .ok (.iaload, 1) := by decide +kernel
theorem dX12_readsText_195 : decode cX12_readsText 195 = .ok (.iadd, 1) := by decide +kernel
theorem dX12_readsText_196 : decode cX12_readsText 196 = .ok (.iastore, 1) := by decide +kernel
theorem dX12_readsText_197 : decode cX12_readsText 197 = .ok (.aload_n 0, 1) := by decide +kernel
theorem dX12_readsText_198 : decode cX12_readsText 198 = .ok (.getfield 30, 3) := by decide +kernel
theorem dX12_readsText_201 : decode cX12_readsText 201 = .ok (.bipush 14, 2) := by decide +kernel
theorem dX12_readsText_203 : decode cX12_readsText 203 = .ok (.iload_n 1, 1) := by decide +kernel
theorem dX12_readsText_204 : decode cX12_readsText 204 = .ok (.imul, 1) := by decide +kernel
theorem dX12_readsText_205 : decode cX12_readsText 205 = .ok (.iload 4, 2) := by decide +kernel
theorem dX12_readsText_207 : decode cX12_readsText 207 = .ok (.iadd, 1) := by decide +kernel
theorem dX12_readsText_208 : decode cX12_readsText 208 = .ok (.sipush 200, 3) := by decide +kernel
theorem dX12_readsText_211 : decode cX12_readsText 211 = .ok (.iload_n 1, 1) := by decide +kernel
theorem dX12_readsText_212 : decode cX12_readsText 212 = .ok (.imul, 1) := by decide +kernel
theorem dX12_readsText_213 : decode cX12_readsText 213 = .ok (.aload_n 0, 1) := by decide +kernel
theorem dX12_readsText_214 : decode cX12_readsText 214 = .ok (.getfield 48, 3) := by decide +kernel
theorem dX12_readsText_217 : decode cX12_readsText 217 = .ok (.iload 4, 2) := by decide +kernel
theorem dX12_readsText_219 : decode cX12_readsText 219 = .ok (.iaload, 1) := by decide +kernel
theorem dX12_readsText_220 : decode cX12_readsText 220 = .ok (.iadd, 1) := by decide +kernel
theorem dX12_readsText_221 : decode cX12_readsText 221 = .ok (.iastore, 1) := by decide +kernel
theorem dX12_readsText_222 : decode cX12_readsText 222 = .ok (.aload_n 0, 1) := by decide +kernel
theorem dX12_readsText_223 : decode cX12_readsText 223 = .ok (.getfield 33, 3) := by decide +kernel
theorem dX12_readsText_226 : decode cX12_readsText 226 = .ok (.bipush 14, 2) := by decide +kernel
theorem dX12_readsText_228 : decode cX12_readsText 228 = .ok (.iload_n 1, 1) := by decide +kernel
theorem dX12_readsText_229 : decode cX12_readsText 229 = .ok (.imul, 1) := by decide +kernel
theorem dX12_readsText_230 : decode cX12_readsText 230 = .ok (.iload 4, 2) := by decide +kernel
theorem dX12_readsText_232 : decode cX12_readsText 232 = .ok (.iadd, 1) := by decide +kernel
theorem dX12_readsText_233 : decode cX12_readsText 233 = .ok (.sipush 200, 3) := by decide +kernel
theorem dX12_readsText_236 : decode cX12_readsText 236 = .ok (.iload_n 1, 1) := by decide +kernel
theorem dX12_readsText_237 : decode cX12_readsText 237 = .ok (.imul, 1) := by decide +kernel
theorem dX12_readsText_238 : decode cX12_readsText 238 = .ok (.aload_n 0, 1) := by decide +kernel
theorem dX12_readsText_239 : decode cX12_readsText 239 = .ok (.getfield 51, 3) := by decide +kernel
theorem dX12_readsText_242 : decode cX12_readsText 242 = .ok (.iload 4, 2) := by decide +kernel
theorem dX12_readsText_244 : decode cX12_readsText 244 = .ok (.iaload, 1) := by decide +kernel
theorem dX12_readsText_245 : decode cX12_readsText 245 = .ok (.iadd, 1) := by decide +kernel
theorem dX12_readsText_246 : decode cX12_readsText 246 = .ok (.iastore, 1) := by decide +kernel
theorem dX12_readsText_247 : decode cX12_readsText 247 = .ok (.iinc 4 1, 3) := by decide +kernel
theorem dX12_readsText_250 : decode cX12_readsText 250 = .ok (.goto (-106), 3) := by decide +kernel
theorem dX12_readsText_253 : decode cX12_readsText 253 = .ok (.iconst 0, 1) := by decide +kernel
theorem dX12_readsText_254 : decode cX12_readsText 254 = .ok (.istore 4, 2) := by decide +kernel
theorem dX12_readsText_256 : decode cX12_readsText 256 = .ok (.iload 4, 2) := by decide +kernel
theorem dX12_readsText_258 : decode cX12_readsText 258 = .ok (.aload_n 0, 1) := by decide +kernel
theorem dX12_readsText_259 : decode cX12_readsText 259 = .ok (.getfield 182, 3) := by decide +kernel
theorem dX12_readsText_262 : decode cX12_readsText 262 = .ok (.if_icmp .ge 49, 3) := by decide +kernel
theorem dX12_readsText_265 : decode cX12_readsText 265 = .ok (.aload_n 0, 1) := by decide +kernel
theorem dX12_readsText_266 : decode cX12_readsText 266 = .ok (.getfield 36, 3) := by decide +kernel
theorem dX12_readsText_269 : decode cX12_readsText 269 = .ok (.sipush 200, 3) := by decide +kernel
theorem dX12_readsText_272 : decode cX12_readsText 272 = .ok (.iload_n 1, 1) := by decide +kernel
theorem dX12_readsText_273 : decode cX12_readsText 273 = .ok (.imul, 1) := by decide +kernel
theorem dX12_readsText_274 : decode cX12_readsText 274 = .ok (.iload 4, 2) := by decide +kernel
theorem dX12_readsText_276 : decode cX12_readsText 276 = .ok (.iadd, 1) := by decide +kernel
theorem dX12_readsText_277 : decode cX12_readsText 277 = .ok (.aload_n 0, 1) := by decide +kernel
theorem dX12_readsText_278 : decode cX12_readsText 278 = .ok (.getfield 54, 3) := by decide +kernel
theorem dX12_readsText_281 : decode cX12_readsText 281 = .ok (.iload 4, 2) := by decide +kernel
theorem dX12_readsText_283 : decode cX12_readsText 283 = .ok (.iaload, 1) := by decide +kernel
theorem dX12_readsText_284 : decode cX12_readsText 284 = .ok (.iastore, 1) := by decide +kernel
theorem dX12_readsText_285 : decode cX12_readsText 285 = .ok (.aload_n 0, 1) := by decide +kernel
theorem dX12_readsText_286 : decode cX12_readsText 286 = .ok (.getfield 39, 3) := by decide +kernel
theorem dX12_readsText_289 : decode cX12_readsText 289 = .ok (.sipush 200, 3) := by decide +kernel
theorem dX12_readsText_292 : decode cX12_readsText 292 = .ok (.iload_n 1, 1) := by decide +kernel
theorem dX12_readsText_293 : decode cX12_readsText 293 = .ok (.imul, 1) := by decide +kernel
theorem dX12_readsText_294 : decode cX12_readsText 294 = .ok (.iload 4, 2) := by decide +kernel
theorem dX12_readsText_296 : decode cX12_readsText 296 = .ok (.iadd, 1) := by decide +kernel
theorem dX12_readsText_297 : decode cX12_readsText 297 = .ok (.aload_n 0, 1) := by decide +kernel
theorem dX12_readsText_298 : decode cX12_readsText 298 = .ok (.getfield 57, 3) := by decide +kernel
theorem dX12_readsText_301 : decode cX12_readsText 301 = .ok (.iload 4, 2) := by decide +kernel
theorem dX12_readsText_303 : decode cX12_readsText 303 = .ok (.iaload, 1) := by decide +kernel
theorem dX12_readsText_304 : decode cX12_readsText 304 = .ok (.iastore, 1) := by decide +kernel
theorem dX12_readsText_305 : decode cX12_readsText 305 = .ok (.iinc 4 1, 3) := by decide +kernel
theorem dX12_readsText_308 : decode cX12_readsText 308 = .ok (.goto (-52), 3) := by decide +kernel
theorem dX12_readsText_311 : decode cX12_readsText 311 = .ok (.aload_n 0, 1) := by decide +kernel
theorem dX12_readsText_312 : decode cX12_readsText 312 = .ok (.getfield 20, 3) := by decide +kernel
theorem dX12_readsText_315 : decode cX12_readsText 315 = .ok (.iload_n 1, 1) := by decide +kernel
theorem dX12_readsText_316 : decode cX12_readsText 316 = .ok (.aload_n 0, 1) := by decide +kernel
theorem dX12_readsText_317 : decode cX12_readsText 317 = .ok (.getfield 270, 3) := by decide +kernel
theorem dX12_readsText_320 : decode cX12_readsText 320 = .ok (.iastore, 1) := by decide +kernel
theorem dX12_readsText_321 : decode cX12_readsText 321 = .ok (.aload_n 0, 1) := by decide +kernel
theorem dX12_readsText_322 : decode cX12_readsText 322 = .ok (.getfield 270, 3) := by decide +kernel
theorem dX12_readsText_325 : decode cX12_readsText 325 = .ok (.ireturn, 1) := by decide +kernel
theorem dX12_rule_0 : decode cX12_rule 0 = .ok (.aload_n 0, 1) := by decide +kernel
theorem dX12_rule_1 : decode cX12_rule 1 = .ok (.iconst 0, 1) := by decide +kernel
theorem dX12_rule_2 : decode cX12_rule 2 = .ok (.iload_n 1, 1) := by decide +kernel
theorem dX12_rule_3 : decode cX12_rule 3 = .ok (.invokevirtual 281, 3) := by decide +kernel
theorem dX12_rule_6 : decode cX12_rule 6 = .ok (.ireturn, 1) := by decide +kernel
theorem dX12_sand_0 : decode cX12_sand 0 = .ok (.aload_n 0, 1) := by decide +kernel
theorem dX12_sand_1 : decode cX12_sand 1 = .ok (.iconst 1, 1) := by decide +kernel
theorem dX12_sand_2 : decode cX12_sand 2 = .ok (.iload_n 1, 1) := by decide +kernel
theorem dX12_sand_3 : decode cX12_sand 3 = .ok (.invokevirtual 281, 3) := by decide +kernel
theorem dX12_sand_6 : decode cX12_sand 6 = .ok (.ireturn, 1) := by decide +kernel
theorem dX12_stain_0 : decode cX12_stain 0 = .ok (.aload_n 0, 1) := by decide +kernel
theorem dX12_stain_1 : decode cX12_stain 1 = .ok (.iconst 2, 1) := by decide +kernel
theorem dX12_stain_2 : decode cX12_stain 2 = .ok (.iload_n 1, 1) := by decide +kernel
theorem dX12_stain_3 : decode cX12_stain 3 = .ok (.invokevirtual 281, 3) := by decide +kernel
theorem dX12_stain_6 : decode cX12_stain 6 = .ok (.ireturn, 1) := by decide +kernel
theorem dX12_clears_0 : decode cX12_clears 0 = .ok (.aload_n 0, 1) := by decide +kernel
theorem dX12_clears_1 : decode cX12_clears 1 = .ok (.iconst 0, 1) := by decide +kernel
theorem dX12_clears_2 : decode cX12_clears 2 = .ok (.putfield 285, 3) := by decide +kernel
theorem dX12_clears_5 : decode cX12_clears 5 = .ok (.aload_n 0, 1) := by decide +kernel
theorem dX12_clears_6 : decode cX12_clears 6 = .ok (.iconst 0, 1) := by decide +kernel
theorem dX12_clears_7 : decode cX12_clears 7 = .ok (.putfield 288, 3) := by decide +kernel
theorem dX12_clears_10 : decode cX12_clears 10 = .ok (.aload_n 0, 1) := by decide +kernel
theorem dX12_clears_11 : decode cX12_clears 11 = .ok (.iconst 0, 1) := by decide +kernel
theorem dX12_clears_12 : decode cX12_clears 12 = .ok (.putfield 291, 3) := by decide +kernel
theorem dX12_clears_15 : decode cX12_clears 15 = .ok (.aload_n 0, 1) := by decide +kernel
theorem dX12_clears_16 : decode cX12_clears 16 = .ok (.iconst 0, 1) := by decide +kernel
theorem dX12_clears_17 : decode cX12_clears 17 = .ok (.putfield 294, 3) := by decide +kernel
theorem dX12_clears_20 : decode cX12_clears 20 = .ok (.aload_n 0, 1) := by decide +kernel
theorem dX12_clears_21 : decode cX12_clears 21 = .ok (.iconst 0, 1) := by decide +kernel
theorem dX12_clears_22 : decode cX12_clears 22 = .ok (.putfield 297, 3) := by decide +kernel
theorem dX12_clears_25 : decode cX12_clears 25 = .ok (.aload_n 0, 1) := by decide +kernel
theorem dX12_clears_26 : decode cX12_clears 26 = .ok (.iconst 0, 1) := by decide +kernel
theorem dX12_clears_27 : decode cX12_clears 27 = .ok (.putfield 300, 3) := by decide +kernel
theorem dX12_clears_30 : decode cX12_clears 30 = .ok (.aload_n 0, 1) := by decide +kernel
theorem dX12_clears_31 : decode cX12_clears 31 = .ok (.iconst 0, 1) := by decide +kernel
theorem dX12_clears_32 : decode cX12_clears 32 = .ok (.putfield 303, 3) := by decide +kernel
theorem dX12_clears_35 : decode cX12_clears 35 = .ok (.aload_n 0, 1) := by decide +kernel
theorem dX12_clears_36 : decode cX12_clears 36 = .ok (.iconst 0, 1) := by decide +kernel
theorem dX12_clears_37 : decode cX12_clears 37 = .ok (.putfield 306, 3) := by decide +kernel
theorem dX12_clears_40 : decode cX12_clears 40 = .ok (.aload_n 0, 1) := by decide +kernel
theorem dX12_clears_41 : decode cX12_clears 41 = .ok (.iconst 0, 1) := by decide +kernel
theorem dX12_clears_42 : decode cX12_clears 42 = .ok (.putfield 309, 3) := by decide +kernel
theorem dX12_clears_45 : decode cX12_clears 45 = .ok (.aload_n 0, 1) := by decide +kernel
theorem dX12_clears_46 : decode cX12_clears 46 = .ok (.iconst 0, 1) := by decide +kernel
theorem dX12_clears_47 : decode cX12_clears 47 = .ok (.putfield 312, 3) := by decide +kernel
theorem dX12_clears_50 : decode cX12_clears 50 = .ok (.aload_n 0, 1) := by decide +kernel
theorem dX12_clears_51 : decode cX12_clears 51 = .ok (.iconst 0, 1) := by decide +kernel
theorem dX12_clears_52 : decode cX12_clears 52 = .ok (.putfield 315, 3) := by decide +kernel
theorem dX12_clears_55 : decode cX12_clears 55 = .ok (.aload_n 0, 1) := by decide +kernel
theorem dX12_clears_56 : decode cX12_clears 56 = .ok (.iconst 0, 1) := by decide +kernel
theorem dX12_clears_57 : decode cX12_clears 57 = .ok (.putfield 318, 3) := by decide +kernel
theorem dX12_clears_60 : decode cX12_clears 60 = .ok (.aload_n 0, 1) := by decide +kernel
theorem dX12_clears_61 : decode cX12_clears 61 = .ok (.iconst 0, 1) := by decide +kernel
theorem dX12_clears_62 : decode cX12_clears 62 = .ok (.putfield 321, 3) := by decide +kernel
theorem dX12_clears_65 : decode cX12_clears 65 = .ok (.return_, 1) := by decide +kernel
theorem dX12_tells_0 : decode cX12_tells 0 = .ok (.bipush 14, 2) := by decide +kernel
theorem dX12_tells_2 : decode cX12_tells 2 = .ok (.iload_n 1, 1) := by decide +kernel
theorem dX12_tells_3 : decode cX12_tells 3 = .ok (.imul, 1) := by decide +kernel
theorem dX12_tells_4 : decode cX12_tells 4 = .ok (.istore 5, 2) := by decide +kernel
theorem dX12_tells_6 : decode cX12_tells 6 = .ok (.iload 5, 2) := by decide +kernel
theorem dX12_tells_8 : decode cX12_tells 8 = .ok (.bipush 14, 2) := by decide +kernel
theorem dX12_tells_10 : decode cX12_tells 10 = .ok (.iload_n 1, 1) := by decide +kernel
theorem dX12_tells_11 : decode cX12_tells 11 = .ok (.imul, 1) := by decide +kernel
theorem dX12_tells_12 : decode cX12_tells 12 = .ok (.aload_n 0, 1) := by decide +kernel
theorem dX12_tells_13 : decode cX12_tells 13 = .ok (.getfield 20, 3) := by decide +kernel
theorem dX12_tells_16 : decode cX12_tells 16 = .ok (.iload_n 1, 1) := by decide +kernel
theorem dX12_tells_17 : decode cX12_tells 17 = .ok (.iaload, 1) := by decide +kernel
theorem dX12_tells_18 : decode cX12_tells 18 = .ok (.iadd, 1) := by decide +kernel
theorem dX12_tells_19 : decode cX12_tells 19 = .ok (.if_icmp .ge 127, 3) := by decide +kernel
theorem dX12_tells_22 : decode cX12_tells 22 = .ok (.aload_n 0, 1) := by decide +kernel
theorem dX12_tells_23 : decode cX12_tells 23 = .ok (.getfield 24, 3) := by decide +kernel
theorem dX12_tells_26 : decode cX12_tells 26 = .ok (.iload 5, 2) := by decide +kernel
theorem dX12_tells_28 : decode cX12_tells 28 = .ok (.iaload, 1) := by decide +kernel
theorem dX12_tells_29 : decode cX12_tells 29 = .ok (.iload_n 2, 1) := by decide +kernel
theorem dX12_tells_30 : decode cX12_tells 30 = .ok (.if_icmp .eq 6, 3) := by decide +kernel
theorem dX12_tells_33 : decode cX12_tells 33 = .ok (.goto 107, 3) := by decide +kernel
theorem dX12_tells_36 : decode cX12_tells 36 = .ok (.aload_n 0, 1) := by decide +kernel
theorem dX12_tells_37 : decode cX12_tells 37 = .ok (.aload_n 0, 1) := by decide +kernel
theorem dX12_tells_38 : decode cX12_tells 38 = .ok (.getfield 30, 3) := by decide +kernel
theorem dX12_tells_41 : decode cX12_tells 41 = .ok (.iload 5, 2) := by decide +kernel
theorem dX12_tells_43 : decode cX12_tells 43 = .ok (.iaload, 1) := by decide +kernel
theorem dX12_tells_44 : decode cX12_tells 44 = .ok (.aload_n 0, 1) := by decide +kernel
theorem dX12_tells_45 : decode cX12_tells 45 = .ok (.getfield 33, 3) := by decide +kernel
theorem dX12_tells_48 : decode cX12_tells 48 = .ok (.iload 5, 2) := by decide +kernel
theorem dX12_tells_50 : decode cX12_tells 50 = .ok (.iaload, 1) := by decide +kernel
theorem dX12_tells_51 : decode cX12_tells 51 = .ok (.invokevirtual 335, 3) := by decide +kernel
theorem dX12_tells_54 : decode cX12_tells 54 = .ok (.aload_n 0, 1) := by decide +kernel
theorem dX12_tells_55 : decode cX12_tells 55 = .ok (.getfield 66, 3) := by decide +kernel
theorem dX12_tells_58 : decode cX12_tells 58 = .ok (.iconst 0, 1) := by decide +kernel
theorem dX12_tells_59 : decode cX12_tells 59 = .ok (.baload, 1) := by decide +kernel
theorem dX12_tells_60 : decode cX12_tells 60 = .ok (.ifCond .ne 80, 3) := by decide +kernel
theorem dX12_tells_63 : decode cX12_tells 63 = .ok (.aload_n 0, 1) := by decide +kernel
theorem dX12_tells_64 : decode cX12_tells 64 = .ok (.getfield 63, 3) := by decide +kernel
theorem dX12_tells_67 : decode cX12_tells 67 = .ok (.iconst 0, 1) := by decide +kernel
theorem dX12_tells_68 : decode cX12_tells 68 = .ok (.iaload, 1) := by decide +kernel
theorem dX12_tells_69 : decode cX12_tells 69 = .ok (.iconst 1, 1) := by decide +kernel
theorem dX12_tells_70 : decode cX12_tells 70 = .ok (.if_icmp .eq 6, 3) := by decide +kernel
theorem dX12_tells_73 : decode cX12_tells 73 = .ok (.goto 67, 3) := by decide +kernel
theorem dX12_tells_76 : decode cX12_tells 76 = .ok (.aload_n 0, 1) := by decide +kernel
theorem dX12_tells_77 : decode cX12_tells 77 = .ok (.aload_n 0, 1) := by decide +kernel
theorem dX12_tells_78 : decode cX12_tells 78 = .ok (.getfield 27, 3) := by decide +kernel
theorem dX12_tells_81 : decode cX12_tells 81 = .ok (.iload 5, 2) := by decide +kernel
theorem dX12_tells_83 : decode cX12_tells 83 = .ok (.iaload, 1) := by decide +kernel
theorem dX12_tells_84 : decode cX12_tells 84 = .ok (.aload_n 0, 1) := by decide +kernel
theorem dX12_tells_85 : decode cX12_tells 85 = .ok (.getfield 30, 3) := by decide +kernel
theorem dX12_tells_88 : decode cX12_tells 88 = .ok (.iload 5, 2) := by decide +kernel
theorem dX12_tells_90 : decode cX12_tells 90 = .ok (.iaload, 1) := by decide +kernel
theorem dX12_tells_91 : decode cX12_tells 91 = .ok (.invokevirtual 335, 3) := by decide +kernel
theorem dX12_tells_94 : decode cX12_tells 94 = .ok (.aload_n 0, 1) := by decide +kernel
theorem dX12_tells_95 : decode cX12_tells 95 = .ok (.getfield 66, 3) := by decide +kernel
theorem dX12_tells_98 : decode cX12_tells 98 = .ok (.iconst 0, 1) := by decide +kernel
theorem dX12_tells_99 : decode cX12_tells 99 = .ok (.baload, 1) := by decide +kernel
theorem dX12_tells_100 : decode cX12_tells 100 = .ok (.ifCond .eq 7, 3) := by decide +kernel
theorem dX12_tells_103 : decode cX12_tells 103 = .ok (.iconst 0, 1) := by decide +kernel
theorem dX12_tells_104 : decode cX12_tells 104 = .ok (.goto 9, 3) := by decide +kernel
theorem dX12_tells_107 : decode cX12_tells 107 = .ok (.aload_n 0, 1) := by decide +kernel
theorem dX12_tells_108 : decode cX12_tells 108 = .ok (.getfield 63, 3) := by decide +kernel
theorem dX12_tells_111 : decode cX12_tells 111 = .ok (.iconst 0, 1) := by decide +kernel
theorem dX12_tells_112 : decode cX12_tells 112 = .ok (.iaload, 1) := by decide +kernel
theorem dX12_tells_113 : decode cX12_tells 113 = .ok (.istore 6, 2) := by decide +kernel
theorem dX12_tells_115 : decode cX12_tells 115 = .ok (.iload 6, 2) := by decide +kernel
theorem dX12_tells_117 : decode cX12_tells 117 = .ok (.iload_n 3, 1) := by decide +kernel
theorem dX12_tells_118 : decode cX12_tells 118 = .ok (.if_icmp .ge 7, 3) := by decide +kernel
theorem dX12_tells_121 : decode cX12_tells 121 = .ok (.iload_n 3, 1) := by decide +kernel
theorem dX12_tells_122 : decode cX12_tells 122 = .ok (.goto 17, 3) := by decide +kernel
theorem dX12_tells_125 : decode cX12_tells 125 = .ok (.iload 6, 2) := by decide +kernel
theorem dX12_tells_127 : decode cX12_tells 127 = .ok (.iload 4, 2) := by decide +kernel
theorem dX12_tells_129 : decode cX12_tells 129 = .ok (.if_icmp .le 8, 3) := by decide +kernel
theorem dX12_tells_132 : decode cX12_tells 132 = .ok (.iload 4, 2) := by decide +kernel
theorem dX12_tells_134 : decode cX12_tells 134 = .ok (.goto 5, 3) := by decide +kernel
theorem dX12_tells_137 : decode cX12_tells 137 = .ok (.iload 6, 2) := by decide +kernel
theorem dX12_tells_139 : decode cX12_tells 139 = .ok (.ireturn, 1) := by decide +kernel
theorem dX12_tells_140 : decode cX12_tells 140 = .ok (.iinc 5 1, 3) := by decide +kernel
theorem dX12_tells_143 : decode cX12_tells 143 = .ok (.goto (-137), 3) := by decide +kernel
theorem dX12_tells_146 : decode cX12_tells 146 = .ok (.iconst 0, 1) := by decide +kernel
theorem dX12_tells_147 : decode cX12_tells 147 = .ok (.ireturn, 1) := by decide +kernel
theorem dX12_cellOf_0 : decode cX12_cellOf 0 = .ok (.bipush 16, 2) := by decide +kernel
theorem dX12_cellOf_2 : decode cX12_cellOf 2 = .ok (.iload_n 0, 1) := by decide +kernel
theorem dX12_cellOf_3 : decode cX12_cellOf 3 = .ok (.imul, 1) := by decide +kernel
theorem dX12_cellOf_4 : decode cX12_cellOf 4 = .ok (.iconst 2, 1) := by decide +kernel
theorem dX12_cellOf_5 : decode cX12_cellOf 5 = .ok (.iload_n 1, 1) := by decide +kernel
theorem dX12_cellOf_6 : decode cX12_cellOf 6 = .ok (.imul, 1) := by decide +kernel
theorem dX12_cellOf_7 : decode cX12_cellOf 7 = .ok (.iadd, 1) := by decide +kernel
theorem dX12_cellOf_8 : decode cX12_cellOf 8 = .ok (.iload_n 2, 1) := by decide +kernel
theorem dX12_cellOf_9 : decode cX12_cellOf 9 = .ok (.iadd, 1) := by decide +kernel
theorem dX12_cellOf_10 : decode cX12_cellOf 10 = .ok (.ireturn, 1) := by decide +kernel
theorem dX12_isStation_0 : decode cX12_isStation 0 = .ok (.iload_n 1, 1) := by decide +kernel
theorem dX12_isStation_1 : decode cX12_isStation 1 = .ok (.i2l, 1) := by decide +kernel
theorem dX12_isStation_2 : decode cX12_isStation 2 = .ok (.lconst 0, 1) := by decide +kernel
theorem dX12_isStation_3 : decode cX12_isStation 3 = .ok (.aload_n 0, 1) := by decide +kernel
theorem dX12_isStation_4 : decode cX12_isStation 4 = .ok (.getfield 338, 3) := by decide +kernel
theorem dX12_isStation_7 : decode cX12_isStation 7 = .ok (.iconst 1, 1) := by decide +kernel
theorem dX12_isStation_8 : decode cX12_isStation 8 = .ok (.isub, 1) := by decide +kernel
theorem dX12_isStation_9 : decode cX12_isStation 9 = .ok (.i2l, 1) := by decide +kernel
theorem dX12_isStation_10 : decode cX12_isStation 10 = .ok (.invokestatic 155, 3) := by decide +kernel
theorem dX12_isStation_13 : decode cX12_isStation 13 = .ok (.ireturn, 1) := by decide +kernel
theorem dX12_isStrake_0 : decode cX12_isStrake 0 = .ok (.iload_n 1, 1) := by decide +kernel
theorem dX12_isStrake_1 : decode cX12_isStrake 1 = .ok (.i2l, 1) := by decide +kernel
theorem dX12_isStrake_2 : decode cX12_isStrake 2 = .ok (.lconst 0, 1) := by decide +kernel
theorem dX12_isStrake_3 : decode cX12_isStrake 3 = .ok (.aload_n 0, 1) := by decide +kernel
theorem dX12_isStrake_4 : decode cX12_isStrake 4 = .ok (.getfield 341, 3) := by decide +kernel
theorem dX12_isStrake_7 : decode cX12_isStrake 7 = .ok (.iconst 1, 1) := by decide +kernel
theorem dX12_isStrake_8 : decode cX12_isStrake 8 = .ok (.isub, 1) := by decide +kernel
theorem dX12_isStrake_9 : decode cX12_isStrake 9 = .ok (.i2l, 1) := by decide +kernel
theorem dX12_isStrake_10 : decode cX12_isStrake 10 = .ok (.invokestatic 155, 3) := by decide +kernel
theorem dX12_isStrake_13 : decode cX12_isStrake 13 = .ok (.ireturn, 1) := by decide +kernel
theorem dX12_isRivet_0 : decode cX12_isRivet 0 = .ok (.aload_n 0, 1) := by decide +kernel
theorem dX12_isRivet_1 : decode cX12_isRivet 1 = .ok (.iload_n 1, 1) := by decide +kernel
theorem dX12_isRivet_2 : decode cX12_isRivet 2 = .ok (.invokevirtual 344, 3) := by decide +kernel
theorem dX12_isRivet_5 : decode cX12_isRivet 5 = .ok (.ifCond .eq 25, 3) := by decide +kernel
theorem dX12_isRivet_8 : decode cX12_isRivet 8 = .ok (.aload_n 0, 1) := by decide +kernel
theorem dX12_isRivet_9 : decode cX12_isRivet 9 = .ok (.iload_n 2, 1) := by decide +kernel
theorem dX12_isRivet_10 : decode cX12_isRivet 10 = .ok (.invokevirtual 347, 3) := by decide +kernel
theorem dX12_isRivet_13 : decode cX12_isRivet 13 = .ok (.ifCond .eq 17, 3) := by decide +kernel
theorem dX12_isRivet_16 : decode cX12_isRivet 16 = .ok (.iload_n 3, 1) := by decide +kernel
theorem dX12_isRivet_17 : decode cX12_isRivet 17 = .ok (.i2l, 1) := by decide +kernel
theorem dX12_isRivet_18 : decode cX12_isRivet 18 = .ok (.lconst 0, 1) := by decide +kernel
theorem dX12_isRivet_19 : decode cX12_isRivet 19 = .ok (.lconst 1, 1) := by decide +kernel
theorem dX12_isRivet_20 : decode cX12_isRivet 20 = .ok (.invokestatic 155, 3) := by decide +kernel
theorem dX12_isRivet_23 : decode cX12_isRivet 23 = .ok (.ifCond .eq 7, 3) := by decide +kernel
theorem dX12_isRivet_26 : decode cX12_isRivet 26 = .ok (.iconst 1, 1) := by decide +kernel
theorem dX12_isRivet_27 : decode cX12_isRivet 27 = .ok (.goto 4, 3) := by decide +kernel
theorem dX12_isRivet_30 : decode cX12_isRivet 30 = .ok (.iconst 0, 1) := by decide +kernel
theorem dX12_isRivet_31 : decode cX12_isRivet 31 = .ok (.ireturn, 1) := by decide +kernel
theorem dX12_stands_0 : decode cX12_stands 0 = .ok (.aload_n 0, 1) := by decide +kernel
theorem dX12_stands_1 : decode cX12_stands 1 = .ok (.invokevirtual 360, 3) := by decide +kernel
theorem dX12_stands_4 : decode cX12_stands 4 = .ok (.aload_n 0, 1) := by decide +kernel
theorem dX12_stands_5 : decode cX12_stands 5 = .ok (.iload_n 1, 1) := by decide +kernel
theorem dX12_stands_6 : decode cX12_stands 6 = .ok (.putfield 285, 3) := by decide +kernel
theorem dX12_stands_9 : decode cX12_stands 9 = .ok (.aload_n 0, 1) := by decide +kernel
theorem dX12_stands_10 : decode cX12_stands 10 = .ok (.iload_n 2, 1) := by decide +kernel
theorem dX12_stands_11 : decode cX12_stands 11 = .ok (.putfield 288, 3) := by decide +kernel
theorem dX12_stands_14 : decode cX12_stands 14 = .ok (.aload_n 0, 1) := by decide +kernel
theorem dX12_stands_15 : decode cX12_stands 15 = .ok (.iload_n 3, 1) := by decide +kernel
theorem dX12_stands_16 : decode cX12_stands 16 = .ok (.putfield 291, 3) := by decide +kernel
theorem dX12_stands_19 : decode cX12_stands 19 = .ok (.aload_n 0, 1) := by decide +kernel
theorem dX12_stands_20 : decode cX12_stands 20 = .ok (.aload_n 0, 1) := by decide +kernel
theorem dX12_stands_21 : decode cX12_stands 21 = .ok (.getfield 338, 3) := by decide +kernel
theorem dX12_stands_24 : decode cX12_stands 24 = .ok (.putfield 294, 3) := by decide +kernel
theorem dX12_stands_27 : decode cX12_stands 27 = .ok (.aload_n 0, 1) := by decide +kernel
theorem dX12_stands_28 : decode cX12_stands 28 = .ok (.iload_n 1, 1) := by decide +kernel
theorem dX12_stands_29 : decode cX12_stands 29 = .ok (.aload_n 0, 1) := by decide +kernel
theorem dX12_stands_30 : decode cX12_stands 30 = .ok (.getfield 338, 3) := by decide +kernel
theorem dX12_stands_33 : decode cX12_stands 33 = .ok (.iconst 1, 1) := by decide +kernel
theorem dX12_stands_34 : decode cX12_stands 34 = .ok (.isub, 1) := by decide +kernel
theorem dX12_stands_35 : decode cX12_stands 35 = .ok (.iload_n 1, 1) := by decide +kernel
theorem dX12_stands_36 : decode cX12_stands 36 = .ok (.isub, 1) := by decide +kernel
theorem dX12_stands_37 : decode cX12_stands 37 = .ok (.if_icmp .ge 7, 3) := by decide +kernel
theorem dX12_stands_40 : decode cX12_stands 40 = .ok (.iload_n 1, 1) := by decide +kernel
theorem dX12_stands_41 : decode cX12_stands 41 = .ok (.goto 11, 3) := by decide +kernel
theorem dX12_stands_44 : decode cX12_stands 44 = .ok (.aload_n 0, 1) := by decide +kernel
theorem dX12_stands_45 : decode cX12_stands 45 = .ok (.getfield 338, 3) := by decide +kernel
theorem dX12_stands_48 : decode cX12_stands 48 = .ok (.iconst 1, 1) := by decide +kernel
theorem dX12_stands_49 : decode cX12_stands 49 = .ok (.isub, 1) := by decide +kernel
theorem dX12_stands_50 : decode cX12_stands 50 = .ok (.iload_n 1, 1) := by decide +kernel
theorem dX12_stands_51 : decode cX12_stands 51 = .ok (.isub, 1) := by decide +kernel
theorem dX12_stands_52 : decode cX12_stands 52 = .ok (.putfield 297, 3) := by decide +kernel
theorem dX12_stands_55 : decode cX12_stands 55 = .ok (.aload_n 0, 1) := by decide +kernel
theorem dX12_stands_56 : decode cX12_stands 56 = .ok (.aload_n 0, 1) := by decide +kernel
theorem dX12_stands_57 : decode cX12_stands 57 = .ok (.getfield 341, 3) := by decide +kernel
theorem dX12_stands_60 : decode cX12_stands 60 = .ok (.putfield 300, 3) := by decide +kernel
theorem dX12_stands_63 : decode cX12_stands 63 = .ok (.return_, 1) := by decide +kernel
theorem dX12_build_0 : decode cX12_build 0 = .ok (.iload_n 1, 1) := by decide +kernel
theorem dX12_build_1 : decode cX12_build 1 = .ok (.i2l, 1) := by decide +kernel
theorem dX12_build_2 : decode cX12_build 2 = .ok (.ldc2_w 363, 3) := by decide +kernel
theorem dX12_build_5 : decode cX12_build 5 = .ok (.ldc2_w 365, 3) := by decide +kernel
theorem dX12_build_8 : decode cX12_build 8 = .ok (.invokestatic 155, 3) := by decide +kernel
theorem dX12_build_11 : decode cX12_build 11 = .ok (.ifCond .eq 15, 3) := by decide +kernel
theorem dX12_build_14 : decode cX12_build 14 = .ok (.iload_n 2, 1) := by decide +kernel
theorem dX12_build_15 : decode cX12_build 15 = .ok (.i2l, 1) := by decide +kernel
theorem dX12_build_16 : decode cX12_build 16 = .ok (.lconst 1, 1) := by decide +kernel
theorem dX12_build_17 : decode cX12_build 17 = .ok (.ldc2_w 367, 3) := by decide +kernel
theorem dX12_build_20 : decode cX12_build 20 = .ok (.invokestatic 155, 3) := by decide +kernel
theorem dX12_build_23 : decode cX12_build 23 = .ok (.ifCond .ne 5, 3) := by decide +kernel
theorem dX12_build_26 : decode cX12_build 26 = .ok (.iconst (-1), 1) := by decide +kernel
theorem dX12_build_27 : decode cX12_build 27 = .ok (.ireturn, 1) := by decide +kernel
theorem dX12_build_28 : decode cX12_build 28 = .ok (.aload_n 0, 1) := by decide +kernel
theorem dX12_build_29 : decode cX12_build 29 = .ok (.iload_n 1, 1) := by decide +kernel
theorem dX12_build_30 : decode cX12_build 30 = .ok (.putfield 338, 3) := by decide +kernel
theorem dX12_build_33 : decode cX12_build 33 = .ok (.aload_n 0, 1) := by decide +kernel
theorem dX12_build_34 : decode cX12_build 34 = .ok (.iload_n 2, 1) := by decide +kernel
theorem dX12_build_35 : decode cX12_build 35 = .ok (.putfield 341, 3) := by decide +kernel
theorem dX12_build_38 : decode cX12_build 38 = .ok (.aload_n 0, 1) := by decide +kernel
theorem dX12_build_39 : decode cX12_build 39 = .ok (.iconst 0, 1) := by decide +kernel
theorem dX12_build_40 : decode cX12_build 40 = .ok (.putfield 353, 3) := by decide +kernel
theorem dX12_build_43 : decode cX12_build 43 = .ok (.aload_n 0, 1) := by decide +kernel
theorem dX12_build_44 : decode cX12_build 44 = .ok (.iconst 0, 1) := by decide +kernel
theorem dX12_build_45 : decode cX12_build 45 = .ok (.putfield 369, 3) := by decide +kernel
theorem dX12_build_48 : decode cX12_build 48 = .ok (.aload_n 0, 1) := by decide +kernel
theorem dX12_build_49 : decode cX12_build 49 = .ok (.iconst 0, 1) := by decide +kernel
theorem dX12_build_50 : decode cX12_build 50 = .ok (.putfield 372, 3) := by decide +kernel
theorem dX12_build_53 : decode cX12_build 53 = .ok (.iconst 0, 1) := by decide +kernel
theorem dX12_build_54 : decode cX12_build 54 = .ok (.istore_n 3, 1) := by decide +kernel
theorem dX12_build_55 : decode cX12_build 55 = .ok (.iload_n 3, 1) := by decide +kernel
theorem dX12_build_56 : decode cX12_build 56 = .ok (.bipush 48, 2) := by decide +kernel
theorem dX12_build_58 : decode cX12_build 58 = .ok (.if_icmp .ge 16, 3) := by decide +kernel
theorem dX12_build_61 : decode cX12_build 61 = .ok (.aload_n 0, 1) := by decide +kernel
theorem dX12_build_62 : decode cX12_build 62 = .ok (.getfield 135, 3) := by decide +kernel
theorem dX12_build_65 : decode cX12_build 65 = .ok (.iload_n 3, 1) := by decide +kernel
theorem dX12_build_66 : decode cX12_build 66 = .ok (.iconst (-1), 1) := by decide +kernel
theorem dX12_build_67 : decode cX12_build 67 = .ok (.iastore, 1) := by decide +kernel
theorem dX12_build_68 : decode cX12_build 68 = .ok (.iinc 3 1, 3) := by decide +kernel
theorem dX12_build_71 : decode cX12_build 71 = .ok (.goto (-16), 3) := by decide +kernel
theorem dX12_build_74 : decode cX12_build 74 = .ok (.iconst 0, 1) := by decide +kernel
theorem dX12_build_75 : decode cX12_build 75 = .ok (.istore_n 3, 1) := by decide +kernel
theorem dX12_build_76 : decode cX12_build 76 = .ok (.iload_n 3, 1) := by decide +kernel
theorem dX12_build_77 : decode cX12_build 77 = .ok (.iload_n 1, 1) := by decide +kernel
theorem dX12_build_78 : decode cX12_build 78 = .ok (.if_icmp .ge 114, 3) := by decide +kernel
theorem dX12_build_81 : decode cX12_build 81 = .ok (.iconst 0, 1) := by decide +kernel
theorem dX12_build_82 : decode cX12_build 82 = .ok (.istore 4, 2) := by decide +kernel
theorem dX12_build_84 : decode cX12_build 84 = .ok (.iload 4, 2) := by decide +kernel
theorem dX12_build_86 : decode cX12_build 86 = .ok (.iload_n 2, 1) := by decide +kernel
theorem dX12_build_87 : decode cX12_build 87 = .ok (.if_icmp .ge 99, 3) := by decide +kernel
theorem dX12_build_90 : decode cX12_build 90 = .ok (.iconst 0, 1) := by decide +kernel
theorem dX12_build_91 : decode cX12_build 91 = .ok (.istore 5, 2) := by decide +kernel
theorem dX12_build_93 : decode cX12_build 93 = .ok (.iload 5, 2) := by decide +kernel
theorem dX12_build_95 : decode cX12_build 95 = .ok (.iconst 2, 1) := by decide +kernel
theorem dX12_build_96 : decode cX12_build 96 = .ok (.if_icmp .ge 84, 3) := by decide +kernel
theorem dX12_build_99 : decode cX12_build 99 = .ok (.iload_n 3, 1) := by decide +kernel
theorem dX12_build_100 : decode cX12_build 100 = .ok (.iload 4, 2) := by decide +kernel
theorem dX12_build_102 : decode cX12_build 102 = .ok (.iload 5, 2) := by decide +kernel
theorem dX12_build_104 : decode cX12_build 104 = .ok (.invokestatic 350, 3) := by decide +kernel
theorem dX12_build_107 : decode cX12_build 107 = .ok (.istore 6, 2) := by decide +kernel
theorem dX12_build_109 : decode cX12_build 109 = .ok (.aload_n 0, 1) := by decide +kernel
theorem dX12_build_110 : decode cX12_build 110 = .ok (.iload_n 3, 1) := by decide +kernel
theorem dX12_build_111 : decode cX12_build 111 = .ok (.iload 4, 2) := by decide +kernel
theorem dX12_build_113 : decode cX12_build 113 = .ok (.iload 5, 2) := by decide +kernel
theorem dX12_build_115 : decode cX12_build 115 = .ok (.invokevirtual 375, 3) := by decide +kernel
theorem dX12_build_118 : decode cX12_build 118 = .ok (.aload_n 0, 1) := by decide +kernel
theorem dX12_build_119 : decode cX12_build 119 = .ok (.getfield 70, 3) := by decide +kernel
theorem dX12_build_122 : decode cX12_build 122 = .ok (.iload 6, 2) := by decide +kernel
theorem dX12_build_124 : decode cX12_build 124 = .ok (.aload_n 0, 1) := by decide +kernel
theorem dX12_build_125 : decode cX12_build 125 = .ok (.iconst 0, 1) := by decide +kernel
theorem dX12_build_126 : decode cX12_build 126 = .ok (.bipush 121, 2) := by decide +kernel
theorem dX12_build_128 : decode cX12_build 128 = .ok (.sipush (-3000), 3) := by decide +kernel
theorem dX12_build_131 : decode cX12_build 131 = .ok (.sipush 3000, 3) := by decide +kernel
theorem dX12_build_134 : decode cX12_build 134 = .ok (.invokevirtual 379, 3) := by decide +kernel
theorem dX12_build_137 : decode cX12_build 137 = .ok (.iastore, 1) := by decide +kernel
theorem dX12_build_138 : decode cX12_build 138 = .ok (.aload_n 0, 1) := by decide +kernel
theorem dX12_build_139 : decode cX12_build 139 = .ok (.getfield 73, 3) := by decide +kernel
theorem dX12_build_142 : decode cX12_build 142 = .ok (.iload 6, 2) := by decide +kernel
theorem dX12_build_144 : decode cX12_build 144 = .ok (.aload_n 0, 1) := by decide +kernel
theorem dX12_build_145 : decode cX12_build 145 = .ok (.iconst 0, 1) := by decide +kernel
theorem dX12_build_146 : decode cX12_build 146 = .ok (.bipush 122, 2) := by decide +kernel
theorem dX12_build_148 : decode cX12_build 148 = .ok (.sipush (-3000), 3) := by decide +kernel
theorem dX12_build_151 : decode cX12_build 151 = .ok (.sipush 3000, 3) := by decide +kernel
theorem dX12_build_154 : decode cX12_build 154 = .ok (.invokevirtual 379, 3) := by decide +kernel
theorem dX12_build_157 : decode cX12_build 157 = .ok (.iastore, 1) := by decide +kernel
theorem dX12_build_158 : decode cX12_build 158 = .ok (.aload_n 0, 1) := by decide +kernel
theorem dX12_build_159 : decode cX12_build 159 = .ok (.getfield 76, 3) := by decide +kernel
theorem dX12_build_162 : decode cX12_build 162 = .ok (.iload 6, 2) := by decide +kernel
theorem dX12_build_164 : decode cX12_build 164 = .ok (.iconst 0, 1) := by decide +kernel
theorem dX12_build_165 : decode cX12_build 165 = .ok (.bastore, 1) := by decide +kernel
theorem dX12_build_166 : decode cX12_build 166 = .ok (.aload_n 0, 1) := by decide +kernel
theorem dX12_build_167 : decode cX12_build 167 = .ok (.getfield 79, 3) := by decide +kernel
theorem dX12_build_170 : decode cX12_build 170 = .ok (.iload 6, 2) := by decide +kernel
theorem dX12_build_172 : decode cX12_build 172 = .ok (.iconst 0, 1) := by decide +kernel
theorem dX12_build_173 : decode cX12_build 173 = .ok (.iastore, 1) := by decide +kernel
theorem dX12_build_174 : decode cX12_build 174 = .ok (.iinc 5 1, 3) := by decide +kernel
theorem dX12_build_177 : decode cX12_build 177 = .ok (.goto (-84), 3) := by decide +kernel
theorem dX12_build_180 : decode cX12_build 180 = .ok (.iinc 4 1, 3) := by decide +kernel
theorem dX12_build_183 : decode cX12_build 183 = .ok (.goto (-99), 3) := by decide +kernel
theorem dX12_build_186 : decode cX12_build 186 = .ok (.iinc 3 1, 3) := by decide +kernel
theorem dX12_build_189 : decode cX12_build 189 = .ok (.goto (-113), 3) := by decide +kernel
theorem dX12_build_192 : decode cX12_build 192 = .ok (.aload_n 0, 1) := by decide +kernel
theorem dX12_build_193 : decode cX12_build 193 = .ok (.invokevirtual 383, 3) := by decide +kernel
theorem dX12_build_196 : decode cX12_build 196 = .ok (.iconst 2, 1) := by decide +kernel
theorem dX12_build_197 : decode cX12_build 197 = .ok (.iload_n 1, 1) := by decide +kernel
theorem dX12_build_198 : decode cX12_build 198 = .ok (.imul, 1) := by decide +kernel
theorem dX12_build_199 : decode cX12_build 199 = .ok (.iload_n 2, 1) := by decide +kernel
theorem dX12_build_200 : decode cX12_build 200 = .ok (.imul, 1) := by decide +kernel
theorem dX12_build_201 : decode cX12_build 201 = .ok (.ireturn, 1) := by decide +kernel
theorem dX12_mound_0 : decode cX12_mound 0 = .ok (.iload_n 1, 1) := by decide +kernel
theorem dX12_mound_1 : decode cX12_mound 1 = .ok (.i2l, 1) := by decide +kernel
theorem dX12_mound_2 : decode cX12_mound 2 = .ok (.lconst 0, 1) := by decide +kernel
theorem dX12_mound_3 : decode cX12_mound 3 = .ok (.ldc2_w 386, 3) := by decide +kernel
theorem dX12_mound_6 : decode cX12_mound 6 = .ok (.invokestatic 155, 3) := by decide +kernel
theorem dX12_mound_9 : decode cX12_mound 9 = .ok (.ifCond .eq 15, 3) := by decide +kernel
theorem dX12_mound_12 : decode cX12_mound 12 = .ok (.iload_n 2, 1) := by decide +kernel
theorem dX12_mound_13 : decode cX12_mound 13 = .ok (.i2l, 1) := by decide +kernel
theorem dX12_mound_14 : decode cX12_mound 14 = .ok (.lconst 0, 1) := by decide +kernel
theorem dX12_mound_15 : decode cX12_mound 15 = .ok (.ldc2_w 153, 3) := by decide +kernel
theorem dX12_mound_18 : decode cX12_mound 18 = .ok (.invokestatic 155, 3) := by decide +kernel
theorem dX12_mound_21 : decode cX12_mound 21 = .ok (.ifCond .ne 5, 3) := by decide +kernel
theorem dX12_mound_24 : decode cX12_mound 24 = .ok (.iconst 0, 1) := by decide +kernel
theorem dX12_mound_25 : decode cX12_mound 25 = .ok (.ireturn, 1) := by decide +kernel
theorem dX12_mound_26 : decode cX12_mound 26 = .ok (.aload_n 0, 1) := by decide +kernel
theorem dX12_mound_27 : decode cX12_mound 27 = .ok (.getfield 82, 3) := by decide +kernel
theorem dX12_mound_30 : decode cX12_mound 30 = .ok (.iload_n 1, 1) := by decide +kernel
theorem dX12_mound_31 : decode cX12_mound 31 = .ok (.iload_n 2, 1) := by decide +kernel
theorem dX12_mound_32 : decode cX12_mound 32 = .ok (.iastore, 1) := by decide +kernel
theorem dX12_mound_33 : decode cX12_mound 33 = .ok (.iconst 1, 1) := by decide +kernel
theorem dX12_mound_34 : decode cX12_mound 34 = .ok (.ireturn, 1) := by decide +kernel
theorem dX12_left_0 : decode cX12_left 0 = .ok (.iconst 0, 1) := by decide +kernel
theorem dX12_left_1 : decode cX12_left 1 = .ok (.istore_n 1, 1) := by decide +kernel
theorem dX12_left_2 : decode cX12_left 2 = .ok (.iconst 0, 1) := by decide +kernel
theorem dX12_left_3 : decode cX12_left 3 = .ok (.istore_n 2, 1) := by decide +kernel
theorem dX12_left_4 : decode cX12_left 4 = .ok (.iload_n 2, 1) := by decide +kernel
theorem dX12_left_5 : decode cX12_left 5 = .ok (.aload_n 0, 1) := by decide +kernel
theorem dX12_left_6 : decode cX12_left 6 = .ok (.getfield 338, 3) := by decide +kernel
theorem dX12_left_9 : decode cX12_left 9 = .ok (.if_icmp .ge 67, 3) := by decide +kernel
theorem dX12_left_12 : decode cX12_left 12 = .ok (.iconst 0, 1) := by decide +kernel
theorem dX12_left_13 : decode cX12_left 13 = .ok (.istore_n 3, 1) := by decide +kernel
theorem dX12_left_14 : decode cX12_left 14 = .ok (.iload_n 3, 1) := by decide +kernel
theorem dX12_left_15 : decode cX12_left 15 = .ok (.aload_n 0, 1) := by decide +kernel
theorem dX12_left_16 : decode cX12_left 16 = .ok (.getfield 341, 3) := by decide +kernel
theorem dX12_left_19 : decode cX12_left 19 = .ok (.if_icmp .ge 51, 3) := by decide +kernel
theorem dX12_left_22 : decode cX12_left 22 = .ok (.iload_n 1, 1) := by decide +kernel
theorem dX12_left_23 : decode cX12_left 23 = .ok (.aload_n 0, 1) := by decide +kernel
theorem dX12_left_24 : decode cX12_left 24 = .ok (.getfield 76, 3) := by decide +kernel
theorem dX12_left_27 : decode cX12_left 27 = .ok (.iload_n 2, 1) := by decide +kernel
theorem dX12_left_28 : decode cX12_left 28 = .ok (.iload_n 3, 1) := by decide +kernel
theorem dX12_left_29 : decode cX12_left 29 = .ok (.iconst 0, 1) := by decide +kernel
theorem dX12_left_30 : decode cX12_left 30 = .ok (.invokestatic 350, 3) := by decide +kernel
theorem dX12_left_33 : decode cX12_left 33 = .ok (.baload, 1) := by decide +kernel
theorem dX12_left_34 : decode cX12_left 34 = .ok (.ifCond .eq 7, 3) := by decide +kernel
theorem dX12_left_37 : decode cX12_left 37 = .ok (.iconst 0, 1) := by decide +kernel
theorem dX12_left_38 : decode cX12_left 38 = .ok (.goto 4, 3) := by decide +kernel
theorem dX12_left_41 : decode cX12_left 41 = .ok (.iconst 1, 1) := by decide +kernel
theorem dX12_left_42 : decode cX12_left 42 = .ok (.aload_n 0, 1) := by decide +kernel
theorem dX12_left_43 : decode cX12_left 43 = .ok (.getfield 76, 3) := by decide +kernel
theorem dX12_left_46 : decode cX12_left 46 = .ok (.iload_n 2, 1) := by decide +kernel
theorem dX12_left_47 : decode cX12_left 47 = .ok (.iload_n 3, 1) := by decide +kernel
theorem dX12_left_48 : decode cX12_left 48 = .ok (.iconst 1, 1) := by decide +kernel
theorem dX12_left_49 : decode cX12_left 49 = .ok (.invokestatic 350, 3) := by decide +kernel
theorem dX12_left_52 : decode cX12_left 52 = .ok (.baload, 1) := by decide +kernel
theorem dX12_left_53 : decode cX12_left 53 = .ok (.ifCond .eq 7, 3) := by decide +kernel
theorem dX12_left_56 : decode cX12_left 56 = .ok (.iconst 0, 1) := by decide +kernel
theorem dX12_left_57 : decode cX12_left 57 = .ok (.goto 4, 3) := by decide +kernel
theorem dX12_left_60 : decode cX12_left 60 = .ok (.iconst 1, 1) := by decide +kernel
theorem dX12_left_61 : decode cX12_left 61 = .ok (.iadd, 1) := by decide +kernel
theorem dX12_left_62 : decode cX12_left 62 = .ok (.iadd, 1) := by decide +kernel
theorem dX12_left_63 : decode cX12_left 63 = .ok (.istore_n 1, 1) := by decide +kernel
theorem dX12_left_64 : decode cX12_left 64 = .ok (.iinc 3 1, 3) := by decide +kernel
theorem dX12_left_67 : decode cX12_left 67 = .ok (.goto (-53), 3) := by decide +kernel
theorem dX12_left_70 : decode cX12_left 70 = .ok (.iinc 2 1, 3) := by decide +kernel
theorem dX12_left_73 : decode cX12_left 73 = .ok (.goto (-69), 3) := by decide +kernel
theorem dX12_left_76 : decode cX12_left 76 = .ok (.iload_n 1, 1) := by decide +kernel
theorem dX12_left_77 : decode cX12_left 77 = .ok (.ireturn, 1) := by decide +kernel
theorem dX12_bury_0 : decode cX12_bury 0 = .ok (.aload_n 0, 1) := by decide +kernel
theorem dX12_bury_1 : decode cX12_bury 1 = .ok (.getfield 338, 3) := by decide +kernel
theorem dX12_bury_4 : decode cX12_bury 4 = .ok (.ifCond .eq 15, 3) := by decide +kernel
theorem dX12_bury_7 : decode cX12_bury 7 = .ok (.iload_n 1, 1) := by decide +kernel
theorem dX12_bury_8 : decode cX12_bury 8 = .ok (.i2l, 1) := by decide +kernel
theorem dX12_bury_9 : decode cX12_bury 9 = .ok (.lconst 1, 1) := by decide +kernel
theorem dX12_bury_10 : decode cX12_bury 10 = .ok (.ldc2_w 394, 3) := by decide +kernel
theorem dX12_bury_13 : decode cX12_bury 13 = .ok (.invokestatic 155, 3) := by decide +kernel
theorem dX12_bury_16 : decode cX12_bury 16 = .ok (.ifCond .ne 5, 3) := by decide +kernel
theorem dX12_bury_19 : decode cX12_bury 19 = .ok (.iconst (-1), 1) := by decide +kernel
theorem dX12_bury_20 : decode cX12_bury 20 = .ok (.ireturn, 1) := by decide +kernel
theorem dX12_bury_21 : decode cX12_bury 21 = .ok (.iconst 0, 1) := by decide +kernel
theorem dX12_bury_22 : decode cX12_bury 22 = .ok (.istore_n 2, 1) := by decide +kernel
theorem dX12_bury_23 : decode cX12_bury 23 = .ok (.iload_n 2, 1) := by decide +kernel
theorem dX12_bury_24 : decode cX12_bury 24 = .ok (.iload_n 1, 1) := by decide +kernel
theorem dX12_bury_25 : decode cX12_bury 25 = .ok (.if_icmp .ge 83, 3) := by decide +kernel
theorem dX12_bury_28 : decode cX12_bury 28 = .ok (.iconst 0, 1) := by decide +kernel
theorem dX12_bury_29 : decode cX12_bury 29 = .ok (.istore_n 3, 1) := by decide +kernel
theorem dX12_bury_30 : decode cX12_bury 30 = .ok (.iload_n 3, 1) := by decide +kernel
theorem dX12_bury_31 : decode cX12_bury 31 = .ok (.aload_n 0, 1) := by decide +kernel
theorem dX12_bury_32 : decode cX12_bury 32 = .ok (.getfield 338, 3) := by decide +kernel
theorem dX12_bury_35 : decode cX12_bury 35 = .ok (.if_icmp .ge 67, 3) := by decide +kernel
theorem dX12_bury_38 : decode cX12_bury 38 = .ok (.iconst 0, 1) := by decide +kernel
theorem dX12_bury_39 : decode cX12_bury 39 = .ok (.istore 4, 2) := by decide +kernel
theorem dX12_bury_41 : decode cX12_bury 41 = .ok (.iload 4, 2) := by decide +kernel
theorem dX12_bury_43 : decode cX12_bury 43 = .ok (.aload_n 0, 1) := by decide +kernel
theorem dX12_bury_44 : decode cX12_bury 44 = .ok (.getfield 341, 3) := by decide +kernel
theorem dX12_bury_47 : decode cX12_bury 47 = .ok (.if_icmp .ge 49, 3) := by decide +kernel
theorem dX12_bury_50 : decode cX12_bury 50 = .ok (.iconst 0, 1) := by decide +kernel
theorem dX12_bury_51 : decode cX12_bury 51 = .ok (.istore 5, 2) := by decide +kernel
theorem dX12_bury_53 : decode cX12_bury 53 = .ok (.iload 5, 2) := by decide +kernel
theorem dX12_bury_55 : decode cX12_bury 55 = .ok (.iconst 2, 1) := by decide +kernel
theorem dX12_bury_56 : decode cX12_bury 56 = .ok (.if_icmp .ge 34, 3) := by decide +kernel
theorem dX12_bury_59 : decode cX12_bury 59 = .ok (.aload_n 0, 1) := by decide +kernel
theorem dX12_bury_60 : decode cX12_bury 60 = .ok (.getfield 76, 3) := by decide +kernel
theorem dX12_bury_63 : decode cX12_bury 63 = .ok (.iload_n 3, 1) := by decide +kernel
theorem dX12_bury_64 : decode cX12_bury 64 = .ok (.iload 4, 2) := by decide +kernel
theorem dX12_bury_66 : decode cX12_bury 66 = .ok (.iload 5, 2) := by decide +kernel
theorem dX12_bury_68 : decode cX12_bury 68 = .ok (.invokestatic 350, 3) := by decide +kernel
theorem dX12_bury_71 : decode cX12_bury 71 = .ok (.baload, 1) := by decide +kernel
theorem dX12_bury_72 : decode cX12_bury 72 = .ok (.ifCond .ne 12, 3) := by decide +kernel
theorem dX12_bury_75 : decode cX12_bury 75 = .ok (.aload_n 0, 1) := by decide +kernel
theorem dX12_bury_76 : decode cX12_bury 76 = .ok (.iload_n 3, 1) := by decide +kernel
theorem dX12_bury_77 : decode cX12_bury 77 = .ok (.iload 4, 2) := by decide +kernel
theorem dX12_bury_79 : decode cX12_bury 79 = .ok (.iload 5, 2) := by decide +kernel
theorem dX12_bury_81 : decode cX12_bury 81 = .ok (.invokevirtual 396, 3) := by decide +kernel
theorem dX12_bury_84 : decode cX12_bury 84 = .ok (.iinc 5 1, 3) := by decide +kernel
theorem dX12_bury_87 : decode cX12_bury 87 = .ok (.goto (-34), 3) := by decide +kernel
theorem dX12_bury_90 : decode cX12_bury 90 = .ok (.iinc 4 1, 3) := by decide +kernel
theorem dX12_bury_93 : decode cX12_bury 93 = .ok (.goto (-52), 3) := by decide +kernel
theorem dX12_bury_96 : decode cX12_bury 96 = .ok (.iinc 3 1, 3) := by decide +kernel
theorem dX12_bury_99 : decode cX12_bury 99 = .ok (.goto (-69), 3) := by decide +kernel
theorem dX12_bury_102 : decode cX12_bury 102 = .ok (.iinc 2 1, 3) := by decide +kernel
theorem dX12_bury_105 : decode cX12_bury 105 = .ok (.goto (-82), 3) := by decide +kernel
theorem dX12_bury_108 : decode cX12_bury 108 = .ok (.aload_n 0, 1) := by decide +kernel
theorem dX12_bury_109 : decode cX12_bury 109 = .ok (.invokevirtual 383, 3) := by decide +kernel
theorem dX12_bury_112 : decode cX12_bury 112 = .ok (.aload_n 0, 1) := by decide +kernel
theorem dX12_bury_113 : decode cX12_bury 113 = .ok (.invokevirtual 399, 3) := by decide +kernel
theorem dX12_bury_116 : decode cX12_bury 116 = .ok (.ireturn, 1) := by decide +kernel
theorem dX12_lies_0 : decode cX12_lies 0 = .ok (.aload_n 0, 1) := by decide +kernel
theorem dX12_lies_1 : decode cX12_lies 1 = .ok (.iload_n 1, 1) := by decide +kernel
theorem dX12_lies_2 : decode cX12_lies 2 = .ok (.iload_n 2, 1) := by decide +kernel
theorem dX12_lies_3 : decode cX12_lies 3 = .ok (.iload_n 3, 1) := by decide +kernel
theorem dX12_lies_4 : decode cX12_lies 4 = .ok (.invokevirtual 402, 3) := by decide +kernel
theorem dX12_lies_7 : decode cX12_lies 7 = .ok (.ifCond .eq 33, 3) := by decide +kernel
theorem dX12_lies_10 : decode cX12_lies 10 = .ok (.iload 4, 2) := by decide +kernel
theorem dX12_lies_12 : decode cX12_lies 12 = .ok (.i2l, 1) := by decide +kernel
theorem dX12_lies_13 : decode cX12_lies 13 = .ok (.ldc2_w 406, 3) := by decide +kernel
theorem dX12_lies_16 : decode cX12_lies 16 = .ok (.ldc2_w 408, 3) := by decide +kernel
theorem dX12_lies_19 : decode cX12_lies 19 = .ok (.invokestatic 155, 3) := by decide +kernel
theorem dX12_lies_22 : decode cX12_lies 22 = .ok (.ifCond .eq 18, 3) := by decide +kernel
theorem dX12_lies_25 : decode cX12_lies 25 = .ok (.iload 5, 2) := by decide +kernel
theorem dX12_lies_27 : decode cX12_lies 27 = .ok (.i2l, 1) := by decide +kernel
theorem dX12_lies_28 : decode cX12_lies 28 = .ok (.ldc2_w 406, 3) := by decide +kernel
theorem dX12_lies_31 : decode cX12_lies 31 = .ok (.ldc2_w 408, 3) := by decide +kernel
theorem dX12_lies_34 : decode cX12_lies 34 = .ok (.invokestatic 155, 3) := by decide +kernel
theorem dX12_lies_37 : decode cX12_lies 37 = .ok (.ifCond .ne 5, 3) := by decide +kernel
theorem dX12_lies_40 : decode cX12_lies 40 = .ok (.iconst 0, 1) := by decide +kernel
theorem dX12_lies_41 : decode cX12_lies 41 = .ok (.ireturn, 1) := by decide +kernel
theorem dX12_lies_42 : decode cX12_lies 42 = .ok (.aload_n 0, 1) := by decide +kernel
theorem dX12_lies_43 : decode cX12_lies 43 = .ok (.getfield 70, 3) := by decide +kernel
theorem dX12_lies_46 : decode cX12_lies 46 = .ok (.iload_n 1, 1) := by decide +kernel
theorem dX12_lies_47 : decode cX12_lies 47 = .ok (.iload_n 2, 1) := by decide +kernel
theorem dX12_lies_48 : decode cX12_lies 48 = .ok (.iload_n 3, 1) := by decide +kernel
theorem dX12_lies_49 : decode cX12_lies 49 = .ok (.invokestatic 350, 3) := by decide +kernel
theorem dX12_lies_52 : decode cX12_lies 52 = .ok (.iload 4, 2) := by decide +kernel
theorem dX12_lies_54 : decode cX12_lies 54 = .ok (.iastore, 1) := by decide +kernel
theorem dX12_lies_55 : decode cX12_lies 55 = .ok (.aload_n 0, 1) := by decide +kernel
theorem dX12_lies_56 : decode cX12_lies 56 = .ok (.getfield 73, 3) := by decide +kernel
theorem dX12_lies_59 : decode cX12_lies 59 = .ok (.iload_n 1, 1) := by decide +kernel
theorem dX12_lies_60 : decode cX12_lies 60 = .ok (.iload_n 2, 1) := by decide +kernel
theorem dX12_lies_61 : decode cX12_lies 61 = .ok (.iload_n 3, 1) := by decide +kernel
theorem dX12_lies_62 : decode cX12_lies 62 = .ok (.invokestatic 350, 3) := by decide +kernel
theorem dX12_lies_65 : decode cX12_lies 65 = .ok (.iload 5, 2) := by decide +kernel
theorem dX12_lies_67 : decode cX12_lies 67 = .ok (.iastore, 1) := by decide +kernel
theorem dX12_lies_68 : decode cX12_lies 68 = .ok (.aload_n 0, 1) := by decide +kernel
theorem dX12_lies_69 : decode cX12_lies 69 = .ok (.getfield 76, 3) := by decide +kernel
theorem dX12_lies_72 : decode cX12_lies 72 = .ok (.iload_n 1, 1) := by decide +kernel
theorem dX12_lies_73 : decode cX12_lies 73 = .ok (.iload_n 2, 1) := by decide +kernel
theorem dX12_lies_74 : decode cX12_lies 74 = .ok (.iload_n 3, 1) := by decide +kernel
theorem dX12_lies_75 : decode cX12_lies 75 = .ok (.invokestatic 350, 3) := by decide +kernel
theorem dX12_lies_78 : decode cX12_lies 78 = .ok (.iconst 0, 1) := by decide +kernel
theorem dX12_lies_79 : decode cX12_lies 79 = .ok (.bastore, 1) := by decide +kernel
theorem dX12_lies_80 : decode cX12_lies 80 = .ok (.aload_n 0, 1) := by decide +kernel
theorem dX12_lies_81 : decode cX12_lies 81 = .ok (.invokevirtual 383, 3) := by decide +kernel
theorem dX12_lies_84 : decode cX12_lies 84 = .ok (.iconst 1, 1) := by decide +kernel
theorem dX12_lies_85 : decode cX12_lies 85 = .ok (.ireturn, 1) := by decide +kernel
theorem dX12_gone_0 : decode cX12_gone 0 = .ok (.aload_n 0, 1) := by decide +kernel
theorem dX12_gone_1 : decode cX12_gone 1 = .ok (.iload_n 1, 1) := by decide +kernel
theorem dX12_gone_2 : decode cX12_gone 2 = .ok (.iload_n 2, 1) := by decide +kernel
theorem dX12_gone_3 : decode cX12_gone 3 = .ok (.iload_n 3, 1) := by decide +kernel
theorem dX12_gone_4 : decode cX12_gone 4 = .ok (.invokevirtual 402, 3) := by decide +kernel
theorem dX12_gone_7 : decode cX12_gone 7 = .ok (.ifCond .eq 17, 3) := by decide +kernel
theorem dX12_gone_10 : decode cX12_gone 10 = .ok (.aload_n 0, 1) := by decide +kernel
theorem dX12_gone_11 : decode cX12_gone 11 = .ok (.getfield 76, 3) := by decide +kernel
theorem dX12_gone_14 : decode cX12_gone 14 = .ok (.iload_n 1, 1) := by decide +kernel
theorem dX12_gone_15 : decode cX12_gone 15 = .ok (.iload_n 2, 1) := by decide +kernel
theorem dX12_gone_16 : decode cX12_gone 16 = .ok (.iload_n 3, 1) := by decide +kernel
theorem dX12_gone_17 : decode cX12_gone 17 = .ok (.invokestatic 350, 3) := by decide +kernel
theorem dX12_gone_20 : decode cX12_gone 20 = .ok (.baload, 1) := by decide +kernel
theorem dX12_gone_21 : decode cX12_gone 21 = .ok (.ifCond .eq 5, 3) := by decide +kernel
theorem dX12_gone_24 : decode cX12_gone 24 = .ok (.iconst 0, 1) := by decide +kernel
theorem dX12_gone_25 : decode cX12_gone 25 = .ok (.ireturn, 1) := by decide +kernel
theorem dX12_gone_26 : decode cX12_gone 26 = .ok (.aload_n 0, 1) := by decide +kernel
theorem dX12_gone_27 : decode cX12_gone 27 = .ok (.getfield 76, 3) := by decide +kernel
theorem dX12_gone_30 : decode cX12_gone 30 = .ok (.iload_n 1, 1) := by decide +kernel
theorem dX12_gone_31 : decode cX12_gone 31 = .ok (.iload_n 2, 1) := by decide +kernel
theorem dX12_gone_32 : decode cX12_gone 32 = .ok (.iload_n 3, 1) := by decide +kernel
theorem dX12_gone_33 : decode cX12_gone 33 = .ok (.invokestatic 350, 3) := by decide +kernel
theorem dX12_gone_36 : decode cX12_gone 36 = .ok (.iconst 1, 1) := by decide +kernel
theorem dX12_gone_37 : decode cX12_gone 37 = .ok (.bastore, 1) := by decide +kernel
theorem dX12_gone_38 : decode cX12_gone 38 = .ok (.aload_n 0, 1) := by decide +kernel
theorem dX12_gone_39 : decode cX12_gone 39 = .ok (.invokevirtual 383, 3) := by decide +kernel
theorem dX12_gone_42 : decode cX12_gone 42 = .ok (.iconst 1, 1) := by decide +kernel
theorem dX12_gone_43 : decode cX12_gone 43 = .ok (.ireturn, 1) := by decide +kernel
theorem dX12_rivet_0 : decode cX12_rivet 0 = .ok (.aload_n 0, 1) := by decide +kernel
theorem dX12_rivet_1 : decode cX12_rivet 1 = .ok (.iload_n 1, 1) := by decide +kernel
theorem dX12_rivet_2 : decode cX12_rivet 2 = .ok (.iload_n 2, 1) := by decide +kernel
theorem dX12_rivet_3 : decode cX12_rivet 3 = .ok (.iload_n 3, 1) := by decide +kernel
theorem dX12_rivet_4 : decode cX12_rivet 4 = .ok (.invokevirtual 402, 3) := by decide +kernel
theorem dX12_rivet_7 : decode cX12_rivet 7 = .ok (.ifCond .ne 7, 3) := by decide +kernel
theorem dX12_rivet_10 : decode cX12_rivet 10 = .ok (.sipush (-10000), 3) := by decide +kernel
theorem dX12_rivet_13 : decode cX12_rivet 13 = .ok (.ireturn, 1) := by decide +kernel
theorem dX12_rivet_14 : decode cX12_rivet 14 = .ok (.iload_n 1, 1) := by decide +kernel
theorem dX12_rivet_15 : decode cX12_rivet 15 = .ok (.iload_n 2, 1) := by decide +kernel
theorem dX12_rivet_16 : decode cX12_rivet 16 = .ok (.iload_n 3, 1) := by decide +kernel
theorem dX12_rivet_17 : decode cX12_rivet 17 = .ok (.invokestatic 350, 3) := by decide +kernel
theorem dX12_rivet_20 : decode cX12_rivet 20 = .ok (.istore 5, 2) := by decide +kernel
theorem dX12_rivet_22 : decode cX12_rivet 22 = .ok (.iload 4, 2) := by decide +kernel
theorem dX12_rivet_24 : decode cX12_rivet 24 = .ok (.tableswitch 92 0 4 #[36, 44, 52, 68, 76], 36) := by decide +kernel
theorem dX12_rivet_60 : decode cX12_rivet 60 = .ok (.aload_n 0, 1) := by decide +kernel
theorem dX12_rivet_61 : decode cX12_rivet 61 = .ok (.getfield 70, 3) := by decide +kernel
theorem dX12_rivet_64 : decode cX12_rivet 64 = .ok (.iload 5, 2) := by decide +kernel
theorem dX12_rivet_66 : decode cX12_rivet 66 = .ok (.iaload, 1) := by decide +kernel
theorem dX12_rivet_67 : decode cX12_rivet 67 = .ok (.ireturn, 1) := by decide +kernel
theorem dX12_rivet_68 : decode cX12_rivet 68 = .ok (.aload_n 0, 1) := by decide +kernel
theorem dX12_rivet_69 : decode cX12_rivet 69 = .ok (.getfield 73, 3) := by decide +kernel
theorem dX12_rivet_72 : decode cX12_rivet 72 = .ok (.iload 5, 2) := by decide +kernel
theorem dX12_rivet_74 : decode cX12_rivet 74 = .ok (.iaload, 1) := by decide +kernel
theorem dX12_rivet_75 : decode cX12_rivet 75 = .ok (.ireturn, 1) := by decide +kernel
theorem dX12_rivet_76 : decode cX12_rivet 76 = .ok (.aload_n 0, 1) := by decide +kernel
theorem dX12_rivet_77 : decode cX12_rivet 77 = .ok (.getfield 76, 3) := by decide +kernel
theorem dX12_rivet_80 : decode cX12_rivet 80 = .ok (.iload 5, 2) := by decide +kernel
theorem dX12_rivet_82 : decode cX12_rivet 82 = .ok (.baload, 1) := by decide +kernel
theorem dX12_rivet_83 : decode cX12_rivet 83 = .ok (.ifCond .eq 7, 3) := by decide +kernel
theorem dX12_rivet_86 : decode cX12_rivet 86 = .ok (.iconst 1, 1) := by decide +kernel
theorem dX12_rivet_87 : decode cX12_rivet 87 = .ok (.goto 4, 3) := by decide +kernel
theorem dX12_rivet_90 : decode cX12_rivet 90 = .ok (.iconst 0, 1) := by decide +kernel
theorem dX12_rivet_91 : decode cX12_rivet 91 = .ok (.ireturn, 1) := by decide +kernel
theorem dX12_rivet_92 : decode cX12_rivet 92 = .ok (.aload_n 0, 1) := by decide +kernel
theorem dX12_rivet_93 : decode cX12_rivet 93 = .ok (.getfield 79, 3) := by decide +kernel
theorem dX12_rivet_96 : decode cX12_rivet 96 = .ok (.iload 5, 2) := by decide +kernel
theorem dX12_rivet_98 : decode cX12_rivet 98 = .ok (.iaload, 1) := by decide +kernel
theorem dX12_rivet_99 : decode cX12_rivet 99 = .ok (.ireturn, 1) := by decide +kernel
theorem dX12_rivet_100 : decode cX12_rivet 100 = .ok (.aload_n 0, 1) := by decide +kernel
theorem dX12_rivet_101 : decode cX12_rivet 101 = .ok (.iload_n 1, 1) := by decide +kernel
theorem dX12_rivet_102 : decode cX12_rivet 102 = .ok (.iload_n 2, 1) := by decide +kernel
theorem dX12_rivet_103 : decode cX12_rivet 103 = .ok (.iload_n 3, 1) := by decide +kernel
theorem dX12_rivet_104 : decode cX12_rivet 104 = .ok (.invokevirtual 410, 3) := by decide +kernel
theorem dX12_rivet_107 : decode cX12_rivet 107 = .ok (.ifCond .eq 7, 3) := by decide +kernel
theorem dX12_rivet_110 : decode cX12_rivet 110 = .ok (.iconst 1, 1) := by decide +kernel
theorem dX12_rivet_111 : decode cX12_rivet 111 = .ok (.goto 4, 3) := by decide +kernel
theorem dX12_rivet_114 : decode cX12_rivet 114 = .ok (.iconst 0, 1) := by decide +kernel
theorem dX12_rivet_115 : decode cX12_rivet 115 = .ok (.ireturn, 1) := by decide +kernel
theorem dX12_rivet_116 : decode cX12_rivet 116 = .ok (.sipush (-10000), 3) := by decide +kernel
theorem dX12_rivet_119 : decode cX12_rivet 119 = .ok (.ireturn, 1) := by decide +kernel
theorem dX12_cut_0 : decode cX12_cut 0 = .ok (.iload_n 1, 1) := by decide +kernel
theorem dX12_cut_1 : decode cX12_cut 1 = .ok (.i2l, 1) := by decide +kernel
theorem dX12_cut_2 : decode cX12_cut 2 = .ok (.lconst 0, 1) := by decide +kernel
theorem dX12_cut_3 : decode cX12_cut 3 = .ok (.iconst 1, 1) := by decide +kernel
theorem dX12_cut_4 : decode cX12_cut 4 = .ok (.aload_n 0, 1) := by decide +kernel
theorem dX12_cut_5 : decode cX12_cut 5 = .ok (.getfield 338, 3) := by decide +kernel
theorem dX12_cut_8 : decode cX12_cut 8 = .ok (.ishl, 1) := by decide +kernel
theorem dX12_cut_9 : decode cX12_cut 9 = .ok (.iconst 1, 1) := by decide +kernel
theorem dX12_cut_10 : decode cX12_cut 10 = .ok (.isub, 1) := by decide +kernel
theorem dX12_cut_11 : decode cX12_cut 11 = .ok (.i2l, 1) := by decide +kernel
theorem dX12_cut_12 : decode cX12_cut 12 = .ok (.invokestatic 155, 3) := by decide +kernel
theorem dX12_cut_15 : decode cX12_cut 15 = .ok (.ifCond .ne 5, 3) := by decide +kernel
theorem dX12_cut_18 : decode cX12_cut 18 = .ok (.iconst 0, 1) := by decide +kernel
theorem dX12_cut_19 : decode cX12_cut 19 = .ok (.ireturn, 1) := by decide +kernel
theorem dX12_cut_20 : decode cX12_cut 20 = .ok (.aload_n 0, 1) := by decide +kernel
theorem dX12_cut_21 : decode cX12_cut 21 = .ok (.iload_n 1, 1) := by decide +kernel
theorem dX12_cut_22 : decode cX12_cut 22 = .ok (.putfield 353, 3) := by decide +kernel
theorem dX12_cut_25 : decode cX12_cut 25 = .ok (.aload_n 0, 1) := by decide +kernel
theorem dX12_cut_26 : decode cX12_cut 26 = .ok (.invokevirtual 383, 3) := by decide +kernel
theorem dX12_cut_29 : decode cX12_cut 29 = .ok (.iconst 1, 1) := by decide +kernel
theorem dX12_cut_30 : decode cX12_cut 30 = .ok (.ireturn, 1) := by decide +kernel
theorem dX12_isDrawing_0 : decode cX12_isDrawing 0 = .ok (.iload_n 1, 1) := by decide +kernel
theorem dX12_isDrawing_1 : decode cX12_isDrawing 1 = .ok (.i2l, 1) := by decide +kernel
theorem dX12_isDrawing_2 : decode cX12_isDrawing 2 = .ok (.lconst 0, 1) := by decide +kernel
theorem dX12_isDrawing_3 : decode cX12_isDrawing 3 = .ok (.aload_n 0, 1) := by decide +kernel
theorem dX12_isDrawing_4 : decode cX12_isDrawing 4 = .ok (.getfield 369, 3) := by decide +kernel
theorem dX12_isDrawing_7 : decode cX12_isDrawing 7 = .ok (.iconst 1, 1) := by decide +kernel
theorem dX12_isDrawing_8 : decode cX12_isDrawing 8 = .ok (.isub, 1) := by decide +kernel
theorem dX12_isDrawing_9 : decode cX12_isDrawing 9 = .ok (.i2l, 1) := by decide +kernel
theorem dX12_isDrawing_10 : decode cX12_isDrawing 10 = .ok (.invokestatic 155, 3) := by decide +kernel
theorem dX12_isDrawing_13 : decode cX12_isDrawing 13 = .ok (.ireturn, 1) := by decide +kernel
theorem dX12_drawing_0 : decode cX12_drawing 0 = .ok (.aload_n 0, 1) := by decide +kernel
theorem dX12_drawing_1 : decode cX12_drawing 1 = .ok (.getfield 338, 3) := by decide +kernel
theorem dX12_drawing_4 : decode cX12_drawing 4 = .ok (.ifCond .eq 23, 3) := by decide +kernel
theorem dX12_drawing_7 : decode cX12_drawing 7 = .ok (.aload_n 0, 1) := by decide +kernel
theorem dX12_drawing_8 : decode cX12_drawing 8 = .ok (.getfield 369, 3) := by decide +kernel
theorem dX12_drawing_11 : decode cX12_drawing 11 = .ok (.iconst 4, 1) := by decide +kernel
theorem dX12_drawing_12 : decode cX12_drawing 12 = .ok (.if_icmp .eq 15, 3) := by decide +kernel
theorem dX12_drawing_15 : decode cX12_drawing 15 = .ok (.iload_n 1, 1) := by decide +kernel
theorem dX12_drawing_16 : decode cX12_drawing 16 = .ok (.i2l, 1) := by decide +kernel
theorem dX12_drawing_17 : decode cX12_drawing 17 = .ok (.lconst 0, 1) := by decide +kernel
theorem dX12_drawing_18 : decode cX12_drawing 18 = .ok (.ldc2_w 413, 3) := by decide +kernel
theorem dX12_drawing_21 : decode cX12_drawing 21 = .ok (.invokestatic 155, 3) := by decide +kernel
theorem dX12_drawing_24 : decode cX12_drawing 24 = .ok (.ifCond .ne 5, 3) := by decide +kernel
theorem dX12_drawing_27 : decode cX12_drawing 27 = .ok (.iconst (-1), 1) := by decide +kernel
theorem dX12_drawing_28 : decode cX12_drawing 28 = .ok (.ireturn, 1) := by decide +kernel
theorem dX12_drawing_29 : decode cX12_drawing 29 = .ok (.iconst 0, 1) := by decide +kernel
theorem dX12_drawing_30 : decode cX12_drawing 30 = .ok (.istore_n 2, 1) := by decide +kernel
theorem dX12_drawing_31 : decode cX12_drawing 31 = .ok (.iload_n 2, 1) := by decide +kernel
theorem dX12_drawing_32 : decode cX12_drawing 32 = .ok (.sipush 384, 3) := by decide +kernel
theorem dX12_drawing_35 : decode cX12_drawing 35 = .ok (.if_icmp .ge 25, 3) := by decide +kernel
theorem dX12_drawing_38 : decode cX12_drawing 38 = .ok (.aload_n 0, 1) := by decide +kernel
theorem dX12_drawing_39 : decode cX12_drawing 39 = .ok (.getfield 85, 3) := by decide +kernel
theorem dX12_drawing_42 : decode cX12_drawing 42 = .ok (.sipush 384, 3) := by decide +kernel
theorem dX12_drawing_45 : decode cX12_drawing 45 = .ok (.aload_n 0, 1) := by decide +kernel
theorem dX12_drawing_46 : decode cX12_drawing 46 = .ok (.getfield 369, 3) := by decide +kernel
theorem dX12_drawing_49 : decode cX12_drawing 49 = .ok (.imul, 1) := by decide +kernel
theorem dX12_drawing_50 : decode cX12_drawing 50 = .ok (.iload_n 2, 1) := by decide +kernel
theorem dX12_drawing_51 : decode cX12_drawing 51 = .ok (.iadd, 1) := by decide +kernel
theorem dX12_drawing_52 : decode cX12_drawing 52 = .ok (.iconst 0, 1) := by decide +kernel
theorem dX12_drawing_53 : decode cX12_drawing 53 = .ok (.bastore, 1) := by decide +kernel
theorem dX12_drawing_54 : decode cX12_drawing 54 = .ok (.iinc 2 1, 3) := by decide +kernel
theorem dX12_drawing_57 : decode cX12_drawing 57 = .ok (.goto (-26), 3) := by decide +kernel
theorem dX12_drawing_60 : decode cX12_drawing 60 = .ok (.aload_n 0, 1) := by decide +kernel
theorem dX12_drawing_61 : decode cX12_drawing 61 = .ok (.dup, 1) := by decide +kernel
theorem dX12_drawing_62 : decode cX12_drawing 62 = .ok (.getfield 369, 3) := by decide +kernel
theorem dX12_drawing_65 : decode cX12_drawing 65 = .ok (.iconst 1, 1) := by decide +kernel
theorem dX12_drawing_66 : decode cX12_drawing 66 = .ok (.iadd, 1) := by decide +kernel
theorem dX12_drawing_67 : decode cX12_drawing 67 = .ok (.putfield 369, 3) := by decide +kernel
theorem dX12_drawing_70 : decode cX12_drawing 70 = .ok (.aload_n 0, 1) := by decide +kernel
theorem dX12_drawing_71 : decode cX12_drawing 71 = .ok (.getfield 369, 3) := by decide +kernel
theorem dX12_drawing_74 : decode cX12_drawing 74 = .ok (.iconst 1, 1) := by decide +kernel
theorem dX12_drawing_75 : decode cX12_drawing 75 = .ok (.isub, 1) := by decide +kernel
theorem dX12_drawing_76 : decode cX12_drawing 76 = .ok (.ireturn, 1) := by decide +kernel
theorem dX12_mark_0 : decode cX12_mark 0 = .ok (.aload_n 0, 1) := by decide +kernel
theorem dX12_mark_1 : decode cX12_mark 1 = .ok (.iload_n 1, 1) := by decide +kernel
theorem dX12_mark_2 : decode cX12_mark 2 = .ok (.invokevirtual 415, 3) := by decide +kernel
theorem dX12_mark_5 : decode cX12_mark 5 = .ok (.ifCond .eq 44, 3) := by decide +kernel
theorem dX12_mark_8 : decode cX12_mark 8 = .ok (.aload_n 0, 1) := by decide +kernel
theorem dX12_mark_9 : decode cX12_mark 9 = .ok (.iload_n 2, 1) := by decide +kernel
theorem dX12_mark_10 : decode cX12_mark 10 = .ok (.iload_n 3, 1) := by decide +kernel
theorem dX12_mark_11 : decode cX12_mark 11 = .ok (.iload 4, 2) := by decide +kernel
theorem dX12_mark_13 : decode cX12_mark 13 = .ok (.invokevirtual 402, 3) := by decide +kernel
theorem dX12_mark_16 : decode cX12_mark 16 = .ok (.ifCond .eq 33, 3) := by decide +kernel
theorem dX12_mark_19 : decode cX12_mark 19 = .ok (.iload 5, 2) := by decide +kernel
theorem dX12_mark_21 : decode cX12_mark 21 = .ok (.i2l, 1) := by decide +kernel
theorem dX12_mark_22 : decode cX12_mark 22 = .ok (.ldc2_w 418, 3) := by decide +kernel
theorem dX12_mark_25 : decode cX12_mark 25 = .ok (.ldc2_w 420, 3) := by decide +kernel
theorem dX12_mark_28 : decode cX12_mark 28 = .ok (.invokestatic 155, 3) := by decide +kernel
theorem dX12_mark_31 : decode cX12_mark 31 = .ok (.ifCond .eq 18, 3) := by decide +kernel
theorem dX12_mark_34 : decode cX12_mark 34 = .ok (.iload 6, 2) := by decide +kernel
theorem dX12_mark_36 : decode cX12_mark 36 = .ok (.i2l, 1) := by decide +kernel
theorem dX12_mark_37 : decode cX12_mark 37 = .ok (.ldc2_w 418, 3) := by decide +kernel
theorem dX12_mark_40 : decode cX12_mark 40 = .ok (.ldc2_w 420, 3) := by decide +kernel
theorem dX12_mark_43 : decode cX12_mark 43 = .ok (.invokestatic 155, 3) := by decide +kernel
theorem dX12_mark_46 : decode cX12_mark 46 = .ok (.ifCond .ne 5, 3) := by decide +kernel
theorem dX12_mark_49 : decode cX12_mark 49 = .ok (.iconst 0, 1) := by decide +kernel
theorem dX12_mark_50 : decode cX12_mark 50 = .ok (.ireturn, 1) := by decide +kernel
theorem dX12_mark_51 : decode cX12_mark 51 = .ok (.aload_n 0, 1) := by decide +kernel
theorem dX12_mark_52 : decode cX12_mark 52 = .ok (.iload_n 1, 1) := by decide +kernel
theorem dX12_mark_53 : decode cX12_mark 53 = .ok (.iload_n 2, 1) := by decide +kernel
theorem dX12_mark_54 : decode cX12_mark 54 = .ok (.iload_n 3, 1) := by decide +kernel
theorem dX12_mark_55 : decode cX12_mark 55 = .ok (.iload 4, 2) := by decide +kernel
theorem dX12_mark_57 : decode cX12_mark 57 = .ok (.invokestatic 350, 3) := by decide +kernel
theorem dX12_mark_60 : decode cX12_mark 60 = .ok (.iload 5, 2) := by decide +kernel
theorem dX12_mark_62 : decode cX12_mark 62 = .ok (.iload 6, 2) := by decide +kernel
theorem dX12_mark_64 : decode cX12_mark 64 = .ok (.invokevirtual 422, 3) := by decide +kernel
theorem dX12_mark_67 : decode cX12_mark 67 = .ok (.iconst 1, 1) := by decide +kernel
theorem dX12_mark_68 : decode cX12_mark 68 = .ok (.ireturn, 1) := by decide +kernel
theorem dX12_draw_0 : decode cX12_draw 0 = .ok (.aload_n 0, 1) := by decide +kernel
theorem dX12_draw_1 : decode cX12_draw 1 = .ok (.iload_n 1, 1) := by decide +kernel
theorem dX12_draw_2 : decode cX12_draw 2 = .ok (.invokevirtual 415, 3) := by decide +kernel
theorem dX12_draw_5 : decode cX12_draw 5 = .ok (.ifCond .eq 44, 3) := by decide +kernel
theorem dX12_draw_8 : decode cX12_draw 8 = .ok (.iload_n 2, 1) := by decide +kernel
theorem dX12_draw_9 : decode cX12_draw 9 = .ok (.i2l, 1) := by decide +kernel
theorem dX12_draw_10 : decode cX12_draw 10 = .ok (.ldc2_w 426, 3) := by decide +kernel
theorem dX12_draw_13 : decode cX12_draw 13 = .ok (.ldc2_w 428, 3) := by decide +kernel
theorem dX12_draw_16 : decode cX12_draw 16 = .ok (.invokestatic 155, 3) := by decide +kernel
theorem dX12_draw_19 : decode cX12_draw 19 = .ok (.ifCond .eq 30, 3) := by decide +kernel
theorem dX12_draw_22 : decode cX12_draw 22 = .ok (.iload_n 3, 1) := by decide +kernel
theorem dX12_draw_23 : decode cX12_draw 23 = .ok (.i2l, 1) := by decide +kernel
theorem dX12_draw_24 : decode cX12_draw 24 = .ok (.ldc2_w 426, 3) := by decide +kernel
theorem dX12_draw_27 : decode cX12_draw 27 = .ok (.ldc2_w 428, 3) := by decide +kernel
theorem dX12_draw_30 : decode cX12_draw 30 = .ok (.invokestatic 155, 3) := by decide +kernel
theorem dX12_draw_33 : decode cX12_draw 33 = .ok (.ifCond .eq 16, 3) := by decide +kernel
theorem dX12_draw_36 : decode cX12_draw 36 = .ok (.iload 4, 2) := by decide +kernel
theorem dX12_draw_38 : decode cX12_draw 38 = .ok (.i2l, 1) := by decide +kernel
theorem dX12_draw_39 : decode cX12_draw 39 = .ok (.lconst 0, 1) := by decide +kernel
theorem dX12_draw_40 : decode cX12_draw 40 = .ok (.ldc2_w 153, 3) := by decide +kernel
theorem dX12_draw_43 : decode cX12_draw 43 = .ok (.invokestatic 155, 3) := by decide +kernel
theorem dX12_draw_46 : decode cX12_draw 46 = .ok (.ifCond .ne 5, 3) := by decide +kernel
theorem dX12_draw_49 : decode cX12_draw 49 = .ok (.iconst (-1), 1) := by decide +kernel
theorem dX12_draw_50 : decode cX12_draw 50 = .ok (.ireturn, 1) := by decide +kernel
theorem dX12_draw_51 : decode cX12_draw 51 = .ok (.iconst 0, 1) := by decide +kernel
theorem dX12_draw_52 : decode cX12_draw 52 = .ok (.istore 5, 2) := by decide +kernel
theorem dX12_draw_54 : decode cX12_draw 54 = .ok (.iload 5, 2) := by decide +kernel
theorem dX12_draw_56 : decode cX12_draw 56 = .ok (.aload_n 0, 1) := by decide +kernel
theorem dX12_draw_57 : decode cX12_draw 57 = .ok (.getfield 338, 3) := by decide +kernel
theorem dX12_draw_60 : decode cX12_draw 60 = .ok (.if_icmp .ge 118, 3) := by decide +kernel
theorem dX12_draw_63 : decode cX12_draw 63 = .ok (.iconst 0, 1) := by decide +kernel
theorem dX12_draw_64 : decode cX12_draw 64 = .ok (.istore 6, 2) := by decide +kernel
theorem dX12_draw_66 : decode cX12_draw 66 = .ok (.iload 6, 2) := by decide +kernel
theorem dX12_draw_68 : decode cX12_draw 68 = .ok (.aload_n 0, 1) := by decide +kernel
theorem dX12_draw_69 : decode cX12_draw 69 = .ok (.getfield 341, 3) := by decide +kernel
theorem dX12_draw_72 : decode cX12_draw 72 = .ok (.if_icmp .ge 100, 3) := by decide +kernel
theorem dX12_draw_75 : decode cX12_draw 75 = .ok (.iconst 0, 1) := by decide +kernel
theorem dX12_draw_76 : decode cX12_draw 76 = .ok (.istore 7, 2) := by decide +kernel
theorem dX12_draw_78 : decode cX12_draw 78 = .ok (.iload 7, 2) := by decide +kernel
theorem dX12_draw_80 : decode cX12_draw 80 = .ok (.iconst 2, 1) := by decide +kernel
theorem dX12_draw_81 : decode cX12_draw 81 = .ok (.if_icmp .ge 85, 3) := by decide +kernel
theorem dX12_draw_84 : decode cX12_draw 84 = .ok (.aload_n 0, 1) := by decide +kernel
theorem dX12_draw_85 : decode cX12_draw 85 = .ok (.iload 5, 2) := by decide +kernel
theorem dX12_draw_87 : decode cX12_draw 87 = .ok (.iload 6, 2) := by decide +kernel
theorem dX12_draw_89 : decode cX12_draw 89 = .ok (.iload 7, 2) := by decide +kernel
theorem dX12_draw_91 : decode cX12_draw 91 = .ok (.invokevirtual 410, 3) := by decide +kernel
theorem dX12_draw_94 : decode cX12_draw 94 = .ok (.ifCond .ne 6, 3) := by decide +kernel
theorem dX12_draw_97 : decode cX12_draw 97 = .ok (.goto 63, 3) := by decide +kernel
theorem dX12_draw_100 : decode cX12_draw 100 = .ok (.aload_n 0, 1) := by decide +kernel
theorem dX12_draw_101 : decode cX12_draw 101 = .ok (.invokevirtual 388, 3) := by decide +kernel
theorem dX12_draw_104 : decode cX12_draw 104 = .ok (.iload 5, 2) := by decide +kernel
theorem dX12_draw_106 : decode cX12_draw 106 = .ok (.iload 6, 2) := by decide +kernel
theorem dX12_draw_108 : decode cX12_draw 108 = .ok (.iload 7, 2) := by decide +kernel
theorem dX12_draw_110 : decode cX12_draw 110 = .ok (.invokestatic 350, 3) := by decide +kernel
theorem dX12_draw_113 : decode cX12_draw 113 = .ok (.istore 8, 2) := by decide +kernel
theorem dX12_draw_115 : decode cX12_draw 115 = .ok (.aload_n 0, 1) := by decide +kernel
theorem dX12_draw_116 : decode cX12_draw 116 = .ok (.iload_n 1, 1) := by decide +kernel
theorem dX12_draw_117 : decode cX12_draw 117 = .ok (.iload 8, 2) := by decide +kernel
theorem dX12_draw_119 : decode cX12_draw 119 = .ok (.aload_n 0, 1) := by decide +kernel
theorem dX12_draw_120 : decode cX12_draw 120 = .ok (.getfield 70, 3) := by decide +kernel
theorem dX12_draw_123 : decode cX12_draw 123 = .ok (.iload 8, 2) := by decide +kernel
theorem dX12_draw_125 : decode cX12_draw 125 = .ok (.iaload, 1) := by decide +kernel
theorem dX12_draw_126 : decode cX12_draw 126 = .ok (.iload_n 2, 1) := by decide +kernel
theorem dX12_draw_127 : decode cX12_draw 127 = .ok (.iadd, 1) := by decide +kernel
theorem dX12_draw_128 : decode cX12_draw 128 = .ok (.aload_n 0, 1) := by decide +kernel
theorem dX12_draw_129 : decode cX12_draw 129 = .ok (.getfield 17, 3) := by decide +kernel
theorem dX12_draw_132 : decode cX12_draw 132 = .ok (.sipush 1000, 3) := by decide +kernel
theorem dX12_draw_135 : decode cX12_draw 135 = .ok (.irem, 1) := by decide +kernel
theorem dX12_draw_136 : decode cX12_draw 136 = .ok (.iload 4, 2) := by decide +kernel
theorem dX12_draw_138 : decode cX12_draw 138 = .ok (.if_icmp .ge 8, 3) := by decide +kernel
theorem dX12_draw_141 : decode cX12_draw 141 = .ok (.bipush 50, 2) := by decide +kernel
theorem dX12_draw_143 : decode cX12_draw 143 = .ok (.goto 4, 3) := by decide +kernel
theorem dX12_draw_146 : decode cX12_draw 146 = .ok (.iconst 0, 1) := by decide +kernel
theorem dX12_draw_147 : decode cX12_draw 147 = .ok (.iadd, 1) := by decide +kernel
theorem dX12_draw_148 : decode cX12_draw 148 = .ok (.aload_n 0, 1) := by decide +kernel
theorem dX12_draw_149 : decode cX12_draw 149 = .ok (.getfield 73, 3) := by decide +kernel
theorem dX12_draw_152 : decode cX12_draw 152 = .ok (.iload 8, 2) := by decide +kernel
theorem dX12_draw_154 : decode cX12_draw 154 = .ok (.iaload, 1) := by decide +kernel
theorem dX12_draw_155 : decode cX12_draw 155 = .ok (.iload_n 3, 1) := by decide +kernel
theorem dX12_draw_156 : decode cX12_draw 156 = .ok (.iadd, 1) := by decide +kernel
theorem dX12_draw_157 : decode cX12_draw 157 = .ok (.invokevirtual 422, 3) := by decide +kernel
theorem dX12_draw_160 : decode cX12_draw 160 = .ok (.iinc 7 1, 3) := by decide +kernel
theorem dX12_draw_163 : decode cX12_draw 163 = .ok (.goto (-85), 3) := by decide +kernel
theorem dX12_draw_166 : decode cX12_draw 166 = .ok (.iinc 6 1, 3) := by decide +kernel
theorem dX12_draw_169 : decode cX12_draw 169 = .ok (.goto (-103), 3) := by decide +kernel
theorem dX12_draw_172 : decode cX12_draw 172 = .ok (.iinc 5 1, 3) := by decide +kernel
theorem dX12_draw_175 : decode cX12_draw 175 = .ok (.goto (-121), 3) := by decide +kernel
theorem dX12_draw_178 : decode cX12_draw 178 = .ok (.aload_n 0, 1) := by decide +kernel
theorem dX12_draw_179 : decode cX12_draw 179 = .ok (.iload_n 1, 1) := by decide +kernel
theorem dX12_draw_180 : decode cX12_draw 180 = .ok (.invokevirtual 430, 3) := by decide +kernel
theorem dX12_draw_183 : decode cX12_draw 183 = .ok (.ireturn, 1) := by decide +kernel
theorem dX12_marked_0 : decode cX12_marked 0 = .ok (.aload_n 0, 1) := by decide +kernel
theorem dX12_marked_1 : decode cX12_marked 1 = .ok (.iload_n 1, 1) := by decide +kernel
theorem dX12_marked_2 : decode cX12_marked 2 = .ok (.invokevirtual 415, 3) := by decide +kernel
theorem dX12_marked_5 : decode cX12_marked 5 = .ok (.ifCond .eq 46, 3) := by decide +kernel
theorem dX12_marked_8 : decode cX12_marked 8 = .ok (.aload_n 0, 1) := by decide +kernel
theorem dX12_marked_9 : decode cX12_marked 9 = .ok (.iload_n 2, 1) := by decide +kernel
theorem dX12_marked_10 : decode cX12_marked 10 = .ok (.iload_n 3, 1) := by decide +kernel
theorem dX12_marked_11 : decode cX12_marked 11 = .ok (.iload 4, 2) := by decide +kernel
theorem dX12_marked_13 : decode cX12_marked 13 = .ok (.invokevirtual 402, 3) := by decide +kernel
theorem dX12_marked_16 : decode cX12_marked 16 = .ok (.ifCond .eq 35, 3) := by decide +kernel
theorem dX12_marked_19 : decode cX12_marked 19 = .ok (.iload 5, 2) := by decide +kernel
theorem dX12_marked_21 : decode cX12_marked 21 = .ok (.i2l, 1) := by decide +kernel
theorem dX12_marked_22 : decode cX12_marked 22 = .ok (.lconst 0, 1) := by decide +kernel
theorem dX12_marked_23 : decode cX12_marked 23 = .ok (.lconst 1, 1) := by decide +kernel
theorem dX12_marked_24 : decode cX12_marked 24 = .ok (.invokestatic 155, 3) := by decide +kernel
theorem dX12_marked_27 : decode cX12_marked 27 = .ok (.ifCond .eq 24, 3) := by decide +kernel
theorem dX12_marked_30 : decode cX12_marked 30 = .ok (.aload_n 0, 1) := by decide +kernel
theorem dX12_marked_31 : decode cX12_marked 31 = .ok (.getfield 85, 3) := by decide +kernel
theorem dX12_marked_34 : decode cX12_marked 34 = .ok (.sipush 384, 3) := by decide +kernel
theorem dX12_marked_37 : decode cX12_marked 37 = .ok (.iload_n 1, 1) := by decide +kernel
theorem dX12_marked_38 : decode cX12_marked 38 = .ok (.imul, 1) := by decide +kernel
theorem dX12_marked_39 : decode cX12_marked 39 = .ok (.iload_n 2, 1) := by decide +kernel
theorem dX12_marked_40 : decode cX12_marked 40 = .ok (.iload_n 3, 1) := by decide +kernel
theorem dX12_marked_41 : decode cX12_marked 41 = .ok (.iload 4, 2) := by decide +kernel
theorem dX12_marked_43 : decode cX12_marked 43 = .ok (.invokestatic 350, 3) := by decide +kernel
theorem dX12_marked_46 : decode cX12_marked 46 = .ok (.iadd, 1) := by decide +kernel
theorem dX12_marked_47 : decode cX12_marked 47 = .ok (.baload, 1) := by decide +kernel
theorem dX12_marked_48 : decode cX12_marked 48 = .ok (.ifCond .ne 7, 3) := by decide +kernel
theorem dX12_marked_51 : decode cX12_marked 51 = .ok (.sipush (-10000), 3) := by decide +kernel
theorem dX12_marked_54 : decode cX12_marked 54 = .ok (.ireturn, 1) := by decide +kernel
theorem dX12_marked_55 : decode cX12_marked 55 = .ok (.sipush 384, 3) := by decide +kernel
theorem dX12_marked_58 : decode cX12_marked 58 = .ok (.iload_n 1, 1) := by decide +kernel
theorem dX12_marked_59 : decode cX12_marked 59 = .ok (.imul, 1) := by decide +kernel
theorem dX12_marked_60 : decode cX12_marked 60 = .ok (.iload_n 2, 1) := by decide +kernel
theorem dX12_marked_61 : decode cX12_marked 61 = .ok (.iload_n 3, 1) := by decide +kernel
theorem dX12_marked_62 : decode cX12_marked 62 = .ok (.iload 4, 2) := by decide +kernel
theorem dX12_marked_64 : decode cX12_marked 64 = .ok (.invokestatic 350, 3) := by decide +kernel
theorem dX12_marked_67 : decode cX12_marked 67 = .ok (.iadd, 1) := by decide +kernel
theorem dX12_marked_68 : decode cX12_marked 68 = .ok (.istore 6, 2) := by decide +kernel
theorem dX12_marked_70 : decode cX12_marked 70 = .ok (.iload 5, 2) := by decide +kernel
theorem dX12_marked_72 : decode cX12_marked 72 = .ok (.ifCond .ne 13, 3) := by decide +kernel
theorem dX12_marked_75 : decode cX12_marked 75 = .ok (.aload_n 0, 1) := by decide +kernel
theorem dX12_marked_76 : decode cX12_marked 76 = .ok (.getfield 88, 3) := by decide +kernel
theorem dX12_marked_79 : decode cX12_marked 79 = .ok (.iload 6, 2) := by decide +kernel
theorem dX12_marked_81 : decode cX12_marked 81 = .ok (.iaload, 1) := by decide +kernel
theorem dX12_marked_82 : decode cX12_marked 82 = .ok (.goto 10, 3) := by decide +kernel
theorem dX12_marked_85 : decode cX12_marked 85 = .ok (.aload_n 0, 1) := by decide +kernel
theorem dX12_marked_86 : decode cX12_marked 86 = .ok (.getfield 91, 3) := by decide +kernel
theorem dX12_marked_89 : decode cX12_marked 89 = .ok (.iload 6, 2) := by decide +kernel
theorem dX12_marked_91 : decode cX12_marked 91 = .ok (.iaload, 1) := by decide +kernel
theorem dX12_marked_92 : decode cX12_marked 92 = .ok (.ireturn, 1) := by decide +kernel
theorem dX12_areTwo_0 : decode cX12_areTwo 0 = .ok (.aload_n 0, 1) := by decide +kernel
theorem dX12_areTwo_1 : decode cX12_areTwo 1 = .ok (.iload_n 1, 1) := by decide +kernel
theorem dX12_areTwo_2 : decode cX12_areTwo 2 = .ok (.invokevirtual 415, 3) := by decide +kernel
theorem dX12_areTwo_5 : decode cX12_areTwo 5 = .ok (.ifCond .eq 20, 3) := by decide +kernel
theorem dX12_areTwo_8 : decode cX12_areTwo 8 = .ok (.aload_n 0, 1) := by decide +kernel
theorem dX12_areTwo_9 : decode cX12_areTwo 9 = .ok (.iload_n 2, 1) := by decide +kernel
theorem dX12_areTwo_10 : decode cX12_areTwo 10 = .ok (.invokevirtual 415, 3) := by decide +kernel
theorem dX12_areTwo_13 : decode cX12_areTwo 13 = .ok (.ifCond .eq 12, 3) := by decide +kernel
theorem dX12_areTwo_16 : decode cX12_areTwo 16 = .ok (.iload_n 1, 1) := by decide +kernel
theorem dX12_areTwo_17 : decode cX12_areTwo 17 = .ok (.iload_n 2, 1) := by decide +kernel
theorem dX12_areTwo_18 : decode cX12_areTwo 18 = .ok (.if_icmp .eq 7, 3) := by decide +kernel
theorem dX12_areTwo_21 : decode cX12_areTwo 21 = .ok (.iconst 1, 1) := by decide +kernel
theorem dX12_areTwo_22 : decode cX12_areTwo 22 = .ok (.goto 4, 3) := by decide +kernel
theorem dX12_areTwo_25 : decode cX12_areTwo 25 = .ok (.iconst 0, 1) := by decide +kernel
theorem dX12_areTwo_26 : decode cX12_areTwo 26 = .ok (.ireturn, 1) := by decide +kernel
theorem dX12_joined_0 : decode cX12_joined 0 = .ok (.aload_n 0, 1) := by decide +kernel
theorem dX12_joined_1 : decode cX12_joined 1 = .ok (.iload_n 1, 1) := by decide +kernel
theorem dX12_joined_2 : decode cX12_joined 2 = .ok (.iload_n 2, 1) := by decide +kernel
theorem dX12_joined_3 : decode cX12_joined 3 = .ok (.invokevirtual 465, 3) := by decide +kernel
theorem dX12_joined_6 : decode cX12_joined 6 = .ok (.ifCond .eq 15, 3) := by decide +kernel
theorem dX12_joined_9 : decode cX12_joined 9 = .ok (.iload_n 3, 1) := by decide +kernel
theorem dX12_joined_10 : decode cX12_joined 10 = .ok (.i2l, 1) := by decide +kernel
theorem dX12_joined_11 : decode cX12_joined 11 = .ok (.lconst 0, 1) := by decide +kernel
theorem dX12_joined_12 : decode cX12_joined 12 = .ok (.ldc2_w 468, 3) := by decide +kernel
theorem dX12_joined_15 : decode cX12_joined 15 = .ok (.invokestatic 155, 3) := by decide +kernel
theorem dX12_joined_18 : decode cX12_joined 18 = .ok (.ifCond .ne 7, 3) := by decide +kernel
theorem dX12_joined_21 : decode cX12_joined 21 = .ok (.ldc_w 470, 3) := by decide +kernel
theorem dX12_joined_24 : decode cX12_joined 24 = .ok (.ireturn, 1) := by decide +kernel
theorem dX12_joined_25 : decode cX12_joined 25 = .ok (.aload_n 0, 1) := by decide +kernel
theorem dX12_joined_26 : decode cX12_joined 26 = .ok (.iload_n 1, 1) := by decide +kernel
theorem dX12_joined_27 : decode cX12_joined 27 = .ok (.iload_n 2, 1) := by decide +kernel
theorem dX12_joined_28 : decode cX12_joined 28 = .ok (.invokevirtual 471, 3) := by decide +kernel
theorem dX12_joined_31 : decode cX12_joined 31 = .ok (.iload_n 3, 1) := by decide +kernel
theorem dX12_joined_32 : decode cX12_joined 32 = .ok (.iconst 2, 1) := by decide +kernel
theorem dX12_joined_33 : decode cX12_joined 33 = .ok (.if_icmp .ne 8, 3) := by decide +kernel
theorem dX12_joined_36 : decode cX12_joined 36 = .ok (.aload_n 0, 1) := by decide +kernel
theorem dX12_joined_37 : decode cX12_joined 37 = .ok (.getfield 440, 3) := by decide +kernel
theorem dX12_joined_40 : decode cX12_joined 40 = .ok (.ireturn, 1) := by decide +kernel
theorem dX12_joined_41 : decode cX12_joined 41 = .ok (.aload_n 0, 1) := by decide +kernel
theorem dX12_joined_42 : decode cX12_joined 42 = .ok (.getfield 440, 3) := by decide +kernel
theorem dX12_joined_45 : decode cX12_joined 45 = .ok (.ifCond .ne 7, 3) := by decide +kernel
theorem dX12_joined_48 : decode cX12_joined 48 = .ok (.ldc_w 470, 3) := by decide +kernel
theorem dX12_joined_51 : decode cX12_joined 51 = .ok (.ireturn, 1) := by decide +kernel
theorem dX12_joined_52 : decode cX12_joined 52 = .ok (.iload_n 3, 1) := by decide +kernel
theorem dX12_joined_53 : decode cX12_joined 53 = .ok (.ifCond .ne 10, 3) := by decide +kernel
theorem dX12_joined_56 : decode cX12_joined 56 = .ok (.aload_n 0, 1) := by decide +kernel
theorem dX12_joined_57 : decode cX12_joined 57 = .ok (.getfield 450, 3) := by decide +kernel
theorem dX12_joined_60 : decode cX12_joined 60 = .ok (.goto 31, 3) := by decide +kernel
theorem dX12_joined_63 : decode cX12_joined 63 = .ok (.iload_n 3, 1) := by decide +kernel
theorem dX12_joined_64 : decode cX12_joined 64 = .ok (.iconst 1, 1) := by decide +kernel
theorem dX12_joined_65 : decode cX12_joined 65 = .ok (.if_icmp .ne 10, 3) := by decide +kernel
theorem dX12_joined_68 : decode cX12_joined 68 = .ok (.aload_n 0, 1) := by decide +kernel
theorem dX12_joined_69 : decode cX12_joined 69 = .ok (.getfield 459, 3) := by decide +kernel
theorem dX12_joined_72 : decode cX12_joined 72 = .ok (.goto 19, 3) := by decide +kernel
theorem dX12_joined_75 : decode cX12_joined 75 = .ok (.iload_n 3, 1) := by decide +kernel
theorem dX12_joined_76 : decode cX12_joined 76 = .ok (.iconst 3, 1) := by decide +kernel
theorem dX12_joined_77 : decode cX12_joined 77 = .ok (.if_icmp .ne 10, 3) := by decide +kernel
theorem dX12_joined_80 : decode cX12_joined 80 = .ok (.aload_n 0, 1) := by decide +kernel
theorem dX12_joined_81 : decode cX12_joined 81 = .ok (.getfield 456, 3) := by decide +kernel
theorem dX12_joined_84 : decode cX12_joined 84 = .ok (.goto 7, 3) := by decide +kernel
theorem dX12_joined_87 : decode cX12_joined 87 = .ok (.aload_n 0, 1) := by decide +kernel
theorem dX12_joined_88 : decode cX12_joined 88 = .ok (.getfield 462, 3) := by decide +kernel
theorem dX12_joined_91 : decode cX12_joined 91 = .ok (.ireturn, 1) := by decide +kernel
theorem dX12_off_0 : decode cX12_off 0 = .ok (.aload_n 0, 1) := by decide +kernel
theorem dX12_off_1 : decode cX12_off 1 = .ok (.iload_n 1, 1) := by decide +kernel
theorem dX12_off_2 : decode cX12_off 2 = .ok (.iload_n 2, 1) := by decide +kernel
theorem dX12_off_3 : decode cX12_off 3 = .ok (.invokevirtual 465, 3) := by decide +kernel
theorem dX12_off_6 : decode cX12_off 6 = .ok (.ifCond .eq 15, 3) := by decide +kernel
theorem dX12_off_9 : decode cX12_off 9 = .ok (.iload_n 3, 1) := by decide +kernel
theorem dX12_off_10 : decode cX12_off 10 = .ok (.i2l, 1) := by decide +kernel
theorem dX12_off_11 : decode cX12_off 11 = .ok (.lconst 0, 1) := by decide +kernel
theorem dX12_off_12 : decode cX12_off 12 = .ok (.ldc2_w 474, 3) := by decide +kernel
theorem dX12_off_15 : decode cX12_off 15 = .ok (.invokestatic 155, 3) := by decide +kernel
theorem dX12_off_18 : decode cX12_off 18 = .ok (.ifCond .ne 5, 3) := by decide +kernel
theorem dX12_off_21 : decode cX12_off 21 = .ok (.iconst (-1), 1) := by decide +kernel
theorem dX12_off_22 : decode cX12_off 22 = .ok (.ireturn, 1) := by decide +kernel
theorem dX12_off_23 : decode cX12_off 23 = .ok (.aload_n 0, 1) := by decide +kernel
theorem dX12_off_24 : decode cX12_off 24 = .ok (.iload_n 1, 1) := by decide +kernel
theorem dX12_off_25 : decode cX12_off 25 = .ok (.iload_n 2, 1) := by decide +kernel
theorem dX12_off_26 : decode cX12_off 26 = .ok (.invokevirtual 471, 3) := by decide +kernel
theorem dX12_off_29 : decode cX12_off 29 = .ok (.aload_n 0, 1) := by decide +kernel
theorem dX12_off_30 : decode cX12_off 30 = .ok (.getfield 440, 3) := by decide +kernel
theorem dX12_off_33 : decode cX12_off 33 = .ok (.ifCond .ne 5, 3) := by decide +kernel
theorem dX12_off_36 : decode cX12_off 36 = .ok (.iconst (-1), 1) := by decide +kernel
theorem dX12_off_37 : decode cX12_off 37 = .ok (.ireturn, 1) := by decide +kernel
theorem dX12_off_38 : decode cX12_off 38 = .ok (.iconst 0, 1) := by decide +kernel
theorem dX12_off_39 : decode cX12_off 39 = .ok (.istore 4, 2) := by decide +kernel
theorem dX12_off_41 : decode cX12_off 41 = .ok (.iconst 0, 1) := by decide +kernel
theorem dX12_off_42 : decode cX12_off 42 = .ok (.istore 5, 2) := by decide +kernel
theorem dX12_off_44 : decode cX12_off 44 = .ok (.iload 5, 2) := by decide +kernel
theorem dX12_off_46 : decode cX12_off 46 = .ok (.sipush 384, 3) := by decide +kernel
theorem dX12_off_49 : decode cX12_off 49 = .ok (.if_icmp .ge 65, 3) := by decide +kernel
theorem dX12_off_52 : decode cX12_off 52 = .ok (.aload_n 0, 1) := by decide +kernel
theorem dX12_off_53 : decode cX12_off 53 = .ok (.iload_n 1, 1) := by decide +kernel
theorem dX12_off_54 : decode cX12_off 54 = .ok (.iload_n 2, 1) := by decide +kernel
theorem dX12_off_55 : decode cX12_off 55 = .ok (.iload 5, 2) := by decide +kernel
theorem dX12_off_57 : decode cX12_off 57 = .ok (.invokevirtual 433, 3) := by decide +kernel
theorem dX12_off_60 : decode cX12_off 60 = .ok (.ifCond .eq 48, 3) := by decide +kernel
theorem dX12_off_63 : decode cX12_off 63 = .ok (.aload_n 0, 1) := by decide +kernel
theorem dX12_off_64 : decode cX12_off 64 = .ok (.iload_n 1, 1) := by decide +kernel
theorem dX12_off_65 : decode cX12_off 65 = .ok (.iload_n 2, 1) := by decide +kernel
theorem dX12_off_66 : decode cX12_off 66 = .ok (.iload 5, 2) := by decide +kernel
theorem dX12_off_68 : decode cX12_off 68 = .ok (.iconst 1, 1) := by decide +kernel
theorem dX12_off_69 : decode cX12_off 69 = .ok (.invokevirtual 436, 3) := by decide +kernel
theorem dX12_off_72 : decode cX12_off 72 = .ok (.aload_n 0, 1) := by decide +kernel
theorem dX12_off_73 : decode cX12_off 73 = .ok (.getfield 450, 3) := by decide +kernel
theorem dX12_off_76 : decode cX12_off 76 = .ok (.isub, 1) := by decide +kernel
theorem dX12_off_77 : decode cX12_off 77 = .ok (.invokestatic 443, 3) := by decide +kernel
theorem dX12_off_80 : decode cX12_off 80 = .ok (.iload_n 3, 1) := by decide +kernel
theorem dX12_off_81 : decode cX12_off 81 = .ok (.if_icmp .gt 24, 3) := by decide +kernel
theorem dX12_off_84 : decode cX12_off 84 = .ok (.aload_n 0, 1) := by decide +kernel
theorem dX12_off_85 : decode cX12_off 85 = .ok (.iload_n 1, 1) := by decide +kernel
theorem dX12_off_86 : decode cX12_off 86 = .ok (.iload_n 2, 1) := by decide +kernel
theorem dX12_off_87 : decode cX12_off 87 = .ok (.iload 5, 2) := by decide +kernel
theorem dX12_off_89 : decode cX12_off 89 = .ok (.iconst 0, 1) := by decide +kernel
theorem dX12_off_90 : decode cX12_off 90 = .ok (.invokevirtual 436, 3) := by decide +kernel
theorem dX12_off_93 : decode cX12_off 93 = .ok (.aload_n 0, 1) := by decide +kernel
theorem dX12_off_94 : decode cX12_off 94 = .ok (.getfield 459, 3) := by decide +kernel
theorem dX12_off_97 : decode cX12_off 97 = .ok (.isub, 1) := by decide +kernel
theorem dX12_off_98 : decode cX12_off 98 = .ok (.invokestatic 443, 3) := by decide +kernel
theorem dX12_off_101 : decode cX12_off 101 = .ok (.iload_n 3, 1) := by decide +kernel
theorem dX12_off_102 : decode cX12_off 102 = .ok (.if_icmp .le 6, 3) := by decide +kernel
theorem dX12_off_105 : decode cX12_off 105 = .ok (.iinc 4 1, 3) := by decide +kernel
theorem dX12_off_108 : decode cX12_off 108 = .ok (.iinc 5 1, 3) := by decide +kernel
theorem dX12_off_111 : decode cX12_off 111 = .ok (.goto (-67), 3) := by decide +kernel
theorem dX12_off_114 : decode cX12_off 114 = .ok (.iload 4, 2) := by decide +kernel
theorem dX12_off_116 : decode cX12_off 116 = .ok (.ireturn, 1) := by decide +kernel
theorem dX12_slipped_0 : decode cX12_slipped 0 = .ok (.aload_n 0, 1) := by decide +kernel
theorem dX12_slipped_1 : decode cX12_slipped 1 = .ok (.iload_n 1, 1) := by decide +kernel
theorem dX12_slipped_2 : decode cX12_slipped 2 = .ok (.iload_n 2, 1) := by decide +kernel
theorem dX12_slipped_3 : decode cX12_slipped 3 = .ok (.invokevirtual 465, 3) := by decide +kernel
theorem dX12_slipped_6 : decode cX12_slipped 6 = .ok (.ifCond .eq 34, 3) := by decide +kernel
theorem dX12_slipped_9 : decode cX12_slipped 9 = .ok (.aload_n 0, 1) := by decide +kernel
theorem dX12_slipped_10 : decode cX12_slipped 10 = .ok (.iload_n 1, 1) := by decide +kernel
theorem dX12_slipped_11 : decode cX12_slipped 11 = .ok (.iload_n 3, 1) := by decide +kernel
theorem dX12_slipped_12 : decode cX12_slipped 12 = .ok (.invokevirtual 465, 3) := by decide +kernel
theorem dX12_slipped_15 : decode cX12_slipped 15 = .ok (.ifCond .eq 25, 3) := by decide +kernel
theorem dX12_slipped_18 : decode cX12_slipped 18 = .ok (.aload_n 0, 1) := by decide +kernel
theorem dX12_slipped_19 : decode cX12_slipped 19 = .ok (.iload_n 2, 1) := by decide +kernel
theorem dX12_slipped_20 : decode cX12_slipped 20 = .ok (.iload_n 3, 1) := by decide +kernel
theorem dX12_slipped_21 : decode cX12_slipped 21 = .ok (.invokevirtual 465, 3) := by decide +kernel
theorem dX12_slipped_24 : decode cX12_slipped 24 = .ok (.ifCond .eq 16, 3) := by decide +kernel
theorem dX12_slipped_27 : decode cX12_slipped 27 = .ok (.aload_n 0, 1) := by decide +kernel
theorem dX12_slipped_28 : decode cX12_slipped 28 = .ok (.iload 4, 2) := by decide +kernel
theorem dX12_slipped_30 : decode cX12_slipped 30 = .ok (.iload 5, 2) := by decide +kernel
theorem dX12_slipped_32 : decode cX12_slipped 32 = .ok (.iload 6, 2) := by decide +kernel
theorem dX12_slipped_34 : decode cX12_slipped 34 = .ok (.invokevirtual 402, 3) := by decide +kernel
theorem dX12_slipped_37 : decode cX12_slipped 37 = .ok (.ifCond .ne 5, 3) := by decide +kernel
theorem dX12_slipped_40 : decode cX12_slipped 40 = .ok (.iconst (-1), 1) := by decide +kernel
theorem dX12_slipped_41 : decode cX12_slipped 41 = .ok (.ireturn, 1) := by decide +kernel
theorem dX12_slipped_42 : decode cX12_slipped 42 = .ok (.iload 4, 2) := by decide +kernel
theorem dX12_slipped_44 : decode cX12_slipped 44 = .ok (.iload 5, 2) := by decide +kernel
theorem dX12_slipped_46 : decode cX12_slipped 46 = .ok (.iload 6, 2) := by decide +kernel
theorem dX12_slipped_48 : decode cX12_slipped 48 = .ok (.invokestatic 350, 3) := by decide +kernel
theorem dX12_slipped_51 : decode cX12_slipped 51 = .ok (.istore 7, 2) := by decide +kernel
theorem dX12_slipped_53 : decode cX12_slipped 53 = .ok (.aload_n 0, 1) := by decide +kernel
theorem dX12_slipped_54 : decode cX12_slipped 54 = .ok (.iload_n 1, 1) := by decide +kernel
theorem dX12_slipped_55 : decode cX12_slipped 55 = .ok (.iload_n 2, 1) := by decide +kernel
theorem dX12_slipped_56 : decode cX12_slipped 56 = .ok (.iload 7, 2) := by decide +kernel
theorem dX12_slipped_58 : decode cX12_slipped 58 = .ok (.invokevirtual 433, 3) := by decide +kernel
theorem dX12_slipped_61 : decode cX12_slipped 61 = .ok (.ifCond .eq 14, 3) := by decide +kernel
theorem dX12_slipped_64 : decode cX12_slipped 64 = .ok (.aload_n 0, 1) := by decide +kernel
theorem dX12_slipped_65 : decode cX12_slipped 65 = .ok (.iload_n 1, 1) := by decide +kernel
theorem dX12_slipped_66 : decode cX12_slipped 66 = .ok (.iload_n 3, 1) := by decide +kernel
theorem dX12_slipped_67 : decode cX12_slipped 67 = .ok (.iload 7, 2) := by decide +kernel
theorem dX12_slipped_69 : decode cX12_slipped 69 = .ok (.invokevirtual 433, 3) := by decide +kernel
theorem dX12_slipped_72 : decode cX12_slipped 72 = .ok (.ifCond .ne 5, 3) := by decide +kernel
theorem dX12_slipped_75 : decode cX12_slipped 75 = .ok (.iconst (-1), 1) := by decide +kernel
theorem dX12_slipped_76 : decode cX12_slipped 76 = .ok (.ireturn, 1) := by decide +kernel
theorem dX12_slipped_77 : decode cX12_slipped 77 = .ok (.aload_n 0, 1) := by decide +kernel
theorem dX12_slipped_78 : decode cX12_slipped 78 = .ok (.iload_n 1, 1) := by decide +kernel
theorem dX12_slipped_79 : decode cX12_slipped 79 = .ok (.iload_n 3, 1) := by decide +kernel
theorem dX12_slipped_80 : decode cX12_slipped 80 = .ok (.iload 7, 2) := by decide +kernel
theorem dX12_slipped_82 : decode cX12_slipped 82 = .ok (.invokevirtual 476, 3) := by decide +kernel
theorem dX12_slipped_85 : decode cX12_slipped 85 = .ok (.istore 8, 2) := by decide +kernel
theorem dX12_slipped_87 : decode cX12_slipped 87 = .ok (.aload_n 0, 1) := by decide +kernel
theorem dX12_slipped_88 : decode cX12_slipped 88 = .ok (.iload_n 2, 1) := by decide +kernel
theorem dX12_slipped_89 : decode cX12_slipped 89 = .ok (.iload_n 3, 1) := by decide +kernel
theorem dX12_slipped_90 : decode cX12_slipped 90 = .ok (.iload 7, 2) := by decide +kernel
theorem dX12_slipped_92 : decode cX12_slipped 92 = .ok (.invokevirtual 476, 3) := by decide +kernel
theorem dX12_slipped_95 : decode cX12_slipped 95 = .ok (.istore 9, 2) := by decide +kernel
theorem dX12_slipped_97 : decode cX12_slipped 97 = .ok (.iload 8, 2) := by decide +kernel
theorem dX12_slipped_99 : decode cX12_slipped 99 = .ok (.iload 9, 2) := by decide +kernel
theorem dX12_slipped_101 : decode cX12_slipped 101 = .ok (.if_icmp .le 7, 3) := by decide +kernel
theorem dX12_slipped_104 : decode cX12_slipped 104 = .ok (.iconst 0, 1) := by decide +kernel
theorem dX12_slipped_105 : decode cX12_slipped 105 = .ok (.goto 15, 3) := by decide +kernel
theorem dX12_slipped_108 : decode cX12_slipped 108 = .ok (.iload 9, 2) := by decide +kernel
theorem dX12_slipped_110 : decode cX12_slipped 110 = .ok (.iload 8, 2) := by decide +kernel
theorem dX12_slipped_112 : decode cX12_slipped 112 = .ok (.if_icmp .le 7, 3) := by decide +kernel
theorem dX12_slipped_115 : decode cX12_slipped 115 = .ok (.iconst 1, 1) := by decide +kernel
theorem dX12_slipped_116 : decode cX12_slipped 116 = .ok (.goto 4, 3) := by decide +kernel
theorem dX12_slipped_119 : decode cX12_slipped 119 = .ok (.iconst 2, 1) := by decide +kernel
theorem dX12_slipped_120 : decode cX12_slipped 120 = .ok (.ireturn, 1) := by decide +kernel
theorem dX12_changes_0 : decode cX12_changes 0 = .ok (.iconst 0, 1) := by decide +kernel
theorem dX12_changes_1 : decode cX12_changes 1 = .ok (.istore_n 1, 1) := by decide +kernel
theorem dX12_changes_2 : decode cX12_changes 2 = .ok (.iload_n 1, 1) := by decide +kernel
theorem dX12_changes_3 : decode cX12_changes 3 = .ok (.bipush 8, 2) := by decide +kernel
theorem dX12_changes_5 : decode cX12_changes 5 = .ok (.if_icmp .ge 16, 3) := by decide +kernel
theorem dX12_changes_8 : decode cX12_changes 8 = .ok (.aload_n 0, 1) := by decide +kernel
theorem dX12_changes_9 : decode cX12_changes 9 = .ok (.getfield 115, 3) := by decide +kernel
theorem dX12_changes_12 : decode cX12_changes 12 = .ok (.iload_n 1, 1) := by decide +kernel
theorem dX12_changes_13 : decode cX12_changes 13 = .ok (.iconst 0, 1) := by decide +kernel
theorem dX12_changes_14 : decode cX12_changes 14 = .ok (.bastore, 1) := by decide +kernel
theorem dX12_changes_15 : decode cX12_changes 15 = .ok (.iinc 1 1, 3) := by decide +kernel
theorem dX12_changes_18 : decode cX12_changes 18 = .ok (.goto (-16), 3) := by decide +kernel
theorem dX12_changes_21 : decode cX12_changes 21 = .ok (.return_, 1) := by decide +kernel
theorem dX12_isOut_0 : decode cX12_isOut 0 = .ok (.iload_n 0, 1) := by decide +kernel
theorem dX12_isOut_1 : decode cX12_isOut 1 = .ok (.i2l, 1) := by decide +kernel
theorem dX12_isOut_2 : decode cX12_isOut 2 = .ok (.lconst 0, 1) := by decide +kernel
theorem dX12_isOut_3 : decode cX12_isOut 3 = .ok (.ldc2_w 482, 3) := by decide +kernel
theorem dX12_isOut_6 : decode cX12_isOut 6 = .ok (.invokestatic 155, 3) := by decide +kernel
theorem dX12_isOut_9 : decode cX12_isOut 9 = .ok (.ireturn, 1) := by decide +kernel
theorem dX12_span_0 : decode cX12_span 0 = .ok (.aload_n 0, 1) := by decide +kernel
theorem dX12_span_1 : decode cX12_span 1 = .ok (.iload_n 1, 1) := by decide +kernel
theorem dX12_span_2 : decode cX12_span 2 = .ok (.invokevirtual 347, 3) := by decide +kernel
theorem dX12_span_5 : decode cX12_span 5 = .ok (.ifCond .eq 38, 3) := by decide +kernel
theorem dX12_span_8 : decode cX12_span 8 = .ok (.aload_n 0, 1) := by decide +kernel
theorem dX12_span_9 : decode cX12_span 9 = .ok (.iload_n 2, 1) := by decide +kernel
theorem dX12_span_10 : decode cX12_span 10 = .ok (.invokevirtual 344, 3) := by decide +kernel
theorem dX12_span_13 : decode cX12_span 13 = .ok (.ifCond .eq 30, 3) := by decide +kernel
theorem dX12_span_16 : decode cX12_span 16 = .ok (.iload_n 3, 1) := by decide +kernel
theorem dX12_span_17 : decode cX12_span 17 = .ok (.invokestatic 484, 3) := by decide +kernel
theorem dX12_span_20 : decode cX12_span 20 = .ok (.ifCond .eq 23, 3) := by decide +kernel
theorem dX12_span_23 : decode cX12_span 23 = .ok (.iload 4, 2) := by decide +kernel
theorem dX12_span_25 : decode cX12_span 25 = .ok (.i2l, 1) := by decide +kernel
theorem dX12_span_26 : decode cX12_span 26 = .ok (.lconst 0, 1) := by decide +kernel
theorem dX12_span_27 : decode cX12_span 27 = .ok (.lconst 1, 1) := by decide +kernel
theorem dX12_span_28 : decode cX12_span 28 = .ok (.invokestatic 155, 3) := by decide +kernel
theorem dX12_span_31 : decode cX12_span 31 = .ok (.ifCond .eq 12, 3) := by decide +kernel
theorem dX12_span_34 : decode cX12_span 34 = .ok (.aload_n 0, 1) := by decide +kernel
theorem dX12_span_35 : decode cX12_span 35 = .ok (.iload_n 1, 1) := by decide +kernel
theorem dX12_span_36 : decode cX12_span 36 = .ok (.iload_n 3, 1) := by decide +kernel
theorem dX12_span_37 : decode cX12_span 37 = .ok (.invokevirtual 487, 3) := by decide +kernel
theorem dX12_span_40 : decode cX12_span 40 = .ok (.ifCond .ne 7, 3) := by decide +kernel
theorem dX12_span_43 : decode cX12_span 43 = .ok (.sipush (-10000), 3) := by decide +kernel
theorem dX12_span_46 : decode cX12_span 46 = .ok (.ireturn, 1) := by decide +kernel
theorem dX12_span_47 : decode cX12_span 47 = .ok (.iload 4, 2) := by decide +kernel
theorem dX12_span_49 : decode cX12_span 49 = .ok (.ifCond .ne 12, 3) := by decide +kernel
theorem dX12_span_52 : decode cX12_span 52 = .ok (.aload_n 0, 1) := by decide +kernel
theorem dX12_span_53 : decode cX12_span 53 = .ok (.getfield 97, 3) := by decide +kernel
theorem dX12_span_56 : decode cX12_span 56 = .ok (.iload_n 2, 1) := by decide +kernel
theorem dX12_span_57 : decode cX12_span 57 = .ok (.iaload, 1) := by decide +kernel
theorem dX12_span_58 : decode cX12_span 58 = .ok (.goto 9, 3) := by decide +kernel
theorem dX12_span_61 : decode cX12_span 61 = .ok (.aload_n 0, 1) := by decide +kernel
theorem dX12_span_62 : decode cX12_span 62 = .ok (.getfield 100, 3) := by decide +kernel
theorem dX12_span_65 : decode cX12_span 65 = .ok (.iload_n 2, 1) := by decide +kernel
theorem dX12_span_66 : decode cX12_span 66 = .ok (.iaload, 1) := by decide +kernel
theorem dX12_span_67 : decode cX12_span 67 = .ok (.ireturn, 1) := by decide +kernel
theorem dX12_isBent_0 : decode cX12_isBent 0 = .ok (.aload_n 0, 1) := by decide +kernel
theorem dX12_isBent_1 : decode cX12_isBent 1 = .ok (.iload_n 1, 1) := by decide +kernel
theorem dX12_isBent_2 : decode cX12_isBent 2 = .ok (.invokevirtual 347, 3) := by decide +kernel
theorem dX12_isBent_5 : decode cX12_isBent 5 = .ok (.ifCond .eq 10, 3) := by decide +kernel
theorem dX12_isBent_8 : decode cX12_isBent 8 = .ok (.iload_n 2, 1) := by decide +kernel
theorem dX12_isBent_9 : decode cX12_isBent 9 = .ok (.invokestatic 484, 3) := by decide +kernel
theorem dX12_isBent_12 : decode cX12_isBent 12 = .ok (.ifCond .ne 5, 3) := by decide +kernel
theorem dX12_isBent_15 : decode cX12_isBent 15 = .ok (.iconst 0, 1) := by decide +kernel
theorem dX12_isBent_16 : decode cX12_isBent 16 = .ok (.ireturn, 1) := by decide +kernel
theorem dX12_isBent_17 : decode cX12_isBent 17 = .ok (.aload_n 0, 1) := by decide +kernel
theorem dX12_isBent_18 : decode cX12_isBent 18 = .ok (.getfield 115, 3) := by decide +kernel
theorem dX12_isBent_21 : decode cX12_isBent 21 = .ok (.iload_n 1, 1) := by decide +kernel
theorem dX12_isBent_22 : decode cX12_isBent 22 = .ok (.baload, 1) := by decide +kernel
theorem dX12_isBent_23 : decode cX12_isBent 23 = .ok (.ifCond .eq 13, 3) := by decide +kernel
theorem dX12_isBent_26 : decode cX12_isBent 26 = .ok (.aload_n 0, 1) := by decide +kernel
theorem dX12_isBent_27 : decode cX12_isBent 27 = .ok (.getfield 112, 3) := by decide +kernel
theorem dX12_isBent_30 : decode cX12_isBent 30 = .ok (.iload_n 1, 1) := by decide +kernel
theorem dX12_isBent_31 : decode cX12_isBent 31 = .ok (.iaload, 1) := by decide +kernel
theorem dX12_isBent_32 : decode cX12_isBent 32 = .ok (.iload_n 2, 1) := by decide +kernel
