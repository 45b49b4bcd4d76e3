theorem d_La_distance_17 : decode c_La_distance 17 = .ok (.iconst 0, 1) := by decide +kernel
theorem d_La_distance_18 : decode c_La_distance 18 = .ok (.ireturn, 1) := by decide +kernel
theorem d_La_met_0 : decode c_La_met 0 = .ok (.aload_n 3, 1) := by decide +kernel
theorem d_La_met_1 : decode c_La_met 1 = .ok (.iconst 0, 1) := by decide +kernel
theorem d_La_met_2 : decode c_La_met 2 = .ok (.aload_n 0, 1) := by decide +kernel
theorem d_La_met_3 : decode c_La_met 3 = .ok (.iload_n 1, 1) := by decide +kernel
theorem d_La_met_4 : decode c_La_met 4 = .ok (.iload_n 2, 1) := by decide +kernel
theorem d_La_met_5 : decode c_La_met 5 = .ok (.invokevirtual 56, 3) := by decide +kernel
theorem d_La_met_8 : decode c_La_met 8 = .ok (.i2l, 1) := by decide +kernel
theorem d_La_met_9 : decode c_La_met 9 = .ok (.lastore, 1) := by decide +kernel
theorem d_La_met_10 : decode c_La_met 10 = .ok (.goto 7, 3) := by decide +kernel
theorem d_La_met_13 : decode c_La_met 13 = .ok (.astore 4, 2) := by decide +kernel
theorem d_La_met_15 : decode c_La_met 15 = .ok (.iconst 1, 1) := by decide +kernel
theorem d_La_met_16 : decode c_La_met 16 = .ok (.ireturn, 1) := by decide +kernel
theorem d_La_met_17 : decode c_La_met 17 = .ok (.iconst 0, 1) := by decide +kernel
theorem d_La_met_18 : decode c_La_met 18 = .ok (.ireturn, 1) := by decide +kernel
theorem d_La_law_0 : decode code 0 = .ok (.new 8, 3) := by decide +kernel
theorem d_La_law_3 : decode code 3 = .ok (.dup, 1) := by decide +kernel
theorem d_La_law_4 : decode code 4 = .ok (.aload_n 0, 1) := by decide +kernel
theorem d_La_law_5 : decode code 5 = .ok (.iconst 0, 1) := by decide +kernel
theorem d_La_law_6 : decode code 6 = .ok (.invokestatic 59, 3) := by decide +kernel
theorem d_La_law_9 : decode code 9 = .ok (.i2l, 1) := by decide +kernel
theorem d_La_law_10 : decode code 10 = .ok (.invokespecial 65, 3) := by decide +kernel
theorem d_La_law_13 : decode code 13 = .ok (.astore_n 1, 1) := by decide +kernel
theorem d_La_law_14 : decode code 14 = .ok (.new 68, 3) := by decide +kernel
theorem d_La_law_17 : decode code 17 = .ok (.dup, 1) := by decide +kernel
theorem d_La_law_18 : decode code 18 = .ok (.aload_n 0, 1) := by decide +kernel
theorem d_La_law_19 : decode code 19 = .ok (.iconst 0, 1) := by decide +kernel
theorem d_La_law_20 : decode code 20 = .ok (.invokestatic 59, 3) := by decide +kernel
theorem d_La_law_23 : decode code 23 = .ok (.i2l, 1) := by decide +kernel
theorem d_La_law_24 : decode code 24 = .ok (.invokespecial 70, 3) := by decide +kernel
theorem d_La_law_27 : decode code 27 = .ok (.astore_n 2, 1) := by decide +kernel
theorem d_La_law_28 : decode code 28 = .ok (.iconst 1, 1) := by decide +kernel
theorem d_La_law_29 : decode code 29 = .ok (.newarray .long, 2) := by decide +kernel
theorem d_La_law_31 : decode code 31 = .ok (.astore_n 3, 1) := by decide +kernel
theorem d_La_law_32 : decode code 32 = .ok (.iconst 1, 1) := by decide +kernel
theorem d_La_law_33 : decode code 33 = .ok (.istore 4, 2) := by decide +kernel
theorem d_La_law_35 : decode code 35 = .ok (.iload 4, 2) := by decide +kernel
theorem d_La_law_37 : decode code 37 = .ok (.aload_n 0, 1) := by decide +kernel
theorem d_La_law_38 : decode code 38 = .ok (.arraylength, 1) := by decide +kernel
theorem d_La_law_39 : decode code 39 = .ok (.iconst 4, 1) := by decide +kernel
theorem d_La_law_40 : decode code 40 = .ok (.isub, 1) := by decide +kernel
theorem d_La_law_41 : decode code 41 = .ok (.if_icmp .gt 1074, 3) := by decide +kernel
theorem d_La_law_44 : decode code 44 = .ok (.aload_n 0, 1) := by decide +kernel
theorem d_La_law_45 : decode code 45 = .ok (.iload 4, 2) := by decide +kernel
theorem d_La_law_47 : decode code 47 = .ok (.iaload, 1) := by decide +kernel
theorem d_La_law_48 : decode code 48 = .ok (.bipush 15, 2) := by decide +kernel
theorem d_La_law_50 : decode code 50 = .ok (.iand, 1) := by decide +kernel
theorem d_La_law_51 : decode code 51 = .ok (.tableswitch 1058 0 14 #[73, 129, 209, 277, 357, 413, 481, 537, 605, 661, 729, 797, 881, 949, 1017], 73) := by decide +kernel
theorem d_La_law_124 : decode code 124 = .ok (.aload_n 1, 1) := by decide +kernel
theorem d_La_law_125 : decode code 125 = .ok (.aload_n 0, 1) := by decide +kernel
theorem d_La_law_126 : decode code 126 = .ok (.iload 4, 2) := by decide +kernel
theorem d_La_law_128 : decode code 128 = .ok (.iconst 1, 1) := by decide +kernel
theorem d_La_law_129 : decode code 129 = .ok (.iadd, 1) := by decide +kernel
theorem d_La_law_130 : decode code 130 = .ok (.iaload, 1) := by decide +kernel
theorem d_La_law_131 : decode code 131 = .ok (.aload_n 3, 1) := by decide +kernel
theorem d_La_law_132 : decode code 132 = .ok (.invokestatic 71, 3) := by decide +kernel
theorem d_La_law_135 : decode code 135 = .ok (.istore 5, 2) := by decide +kernel
theorem d_La_law_137 : decode code 137 = .ok (.aload_n 2, 1) := by decide +kernel
theorem d_La_law_138 : decode code 138 = .ok (.aload_n 0, 1) := by decide +kernel
theorem d_La_law_139 : decode code 139 = .ok (.iload 4, 2) := by decide +kernel
theorem d_La_law_141 : decode code 141 = .ok (.iconst 1, 1) := by decide +kernel
theorem d_La_law_142 : decode code 142 = .ok (.iadd, 1) := by decide +kernel
theorem d_La_law_143 : decode code 143 = .ok (.iaload, 1) := by decide +kernel
theorem d_La_law_144 : decode code 144 = .ok (.invokevirtual 74, 3) := by decide +kernel
theorem d_La_law_147 : decode code 147 = .ok (.istore 6, 2) := by decide +kernel
theorem d_La_law_149 : decode code 149 = .ok (.aload_n 2, 1) := by decide +kernel
theorem d_La_law_150 : decode code 150 = .ok (.invokevirtual 75, 3) := by decide +kernel
theorem d_La_law_153 : decode code 153 = .ok (.iload 5, 2) := by decide +kernel
theorem d_La_law_155 : decode code 155 = .ok (.if_icmp .eq 5, 3) := by decide +kernel
theorem d_La_law_158 : decode code 158 = .ok (.iconst 0, 1) := by decide +kernel
theorem d_La_law_159 : decode code 159 = .ok (.ireturn, 1) := by decide +kernel
theorem d_La_law_160 : decode code 160 = .ok (.iload 5, 2) := by decide +kernel
theorem d_La_law_162 : decode code 162 = .ok (.ifCond .ne 15, 3) := by decide +kernel
theorem d_La_law_165 : decode code 165 = .ok (.aload_n 3, 1) := by decide +kernel
theorem d_La_law_166 : decode code 166 = .ok (.iconst 0, 1) := by decide +kernel
theorem d_La_law_167 : decode code 167 = .ok (.laload, 1) := by decide +kernel
theorem d_La_law_168 : decode code 168 = .ok (.iload 6, 2) := by decide +kernel
theorem d_La_law_170 : decode code 170 = .ok (.i2l, 1) := by decide +kernel
theorem d_La_law_171 : decode code 171 = .ok (.lcmp, 1) := by decide +kernel
theorem d_La_law_172 : decode code 172 = .ok (.ifCond .eq 5, 3) := by decide +kernel
theorem d_La_law_175 : decode code 175 = .ok (.iconst 0, 1) := by decide +kernel
theorem d_La_law_176 : decode code 176 = .ok (.ireturn, 1) := by decide +kernel
theorem d_La_law_177 : decode code 177 = .ok (.goto 932, 3) := by decide +kernel
theorem d_La_law_180 : decode code 180 = .ok (.aload_n 1, 1) := by decide +kernel
theorem d_La_law_181 : decode code 181 = .ok (.aload_n 0, 1) := by decide +kernel
theorem d_La_law_182 : decode code 182 = .ok (.iload 4, 2) := by decide +kernel
theorem d_La_law_184 : decode code 184 = .ok (.iconst 1, 1) := by decide +kernel
theorem d_La_law_185 : decode code 185 = .ok (.iadd, 1) := by decide +kernel
theorem d_La_law_186 : decode code 186 = .ok (.iaload, 1) := by decide +kernel
theorem d_La_law_187 : decode code 187 = .ok (.aload_n 0, 1) := by decide +kernel
theorem d_La_law_188 : decode code 188 = .ok (.iload 4, 2) := by decide +kernel
theorem d_La_law_190 : decode code 190 = .ok (.iconst 2, 1) := by decide +kernel
theorem d_La_law_191 : decode code 191 = .ok (.iadd, 1) := by decide +kernel
theorem d_La_law_192 : decode code 192 = .ok (.iaload, 1) := by decide +kernel
theorem d_La_law_193 : decode code 193 = .ok (.aload_n 0, 1) := by decide +kernel
theorem d_La_law_194 : decode code 194 = .ok (.iload 4, 2) := by decide +kernel
theorem d_La_law_196 : decode code 196 = .ok (.iconst 3, 1) := by decide +kernel
theorem d_La_law_197 : decode code 197 = .ok (.iadd, 1) := by decide +kernel
theorem d_La_law_198 : decode code 198 = .ok (.iaload, 1) := by decide +kernel
theorem d_La_law_199 : decode code 199 = .ok (.aload_n 3, 1) := by decide +kernel
theorem d_La_law_200 : decode code 200 = .ok (.invokestatic 79, 3) := by decide +kernel
theorem d_La_law_203 : decode code 203 = .ok (.istore 5, 2) := by decide +kernel
theorem d_La_law_205 : decode code 205 = .ok (.aload_n 2, 1) := by decide +kernel
theorem d_La_law_206 : decode code 206 = .ok (.aload_n 0, 1) := by decide +kernel
theorem d_La_law_207 : decode code 207 = .ok (.iload 4, 2) := by decide +kernel
theorem d_La_law_209 : decode code 209 = .ok (.iconst 1, 1) := by decide +kernel
theorem d_La_law_210 : decode code 210 = .ok (.iadd, 1) := by decide +kernel
theorem d_La_law_211 : decode code 211 = .ok (.iaload, 1) := by decide +kernel
theorem d_La_law_212 : decode code 212 = .ok (.aload_n 0, 1) := by decide +kernel
theorem d_La_law_213 : decode code 213 = .ok (.iload 4, 2) := by decide +kernel
theorem d_La_law_215 : decode code 215 = .ok (.iconst 2, 1) := by decide +kernel
theorem d_La_law_216 : decode code 216 = .ok (.iadd, 1) := by decide +kernel
theorem d_La_law_217 : decode code 217 = .ok (.iaload, 1) := by decide +kernel
theorem d_La_law_218 : decode code 218 = .ok (.aload_n 0, 1) := by decide +kernel
theorem d_La_law_219 : decode code 219 = .ok (.iload 4, 2) := by decide +kernel
theorem d_La_law_221 : decode code 221 = .ok (.iconst 3, 1) := by decide +kernel
theorem d_La_law_222 : decode code 222 = .ok (.iadd, 1) := by decide +kernel
theorem d_La_law_223 : decode code 223 = .ok (.iaload, 1) := by decide +kernel
theorem d_La_law_224 : decode code 224 = .ok (.invokevirtual 82, 3) := by decide +kernel
theorem d_La_law_227 : decode code 227 = .ok (.istore 6, 2) := by decide +kernel
theorem d_La_law_229 : decode code 229 = .ok (.aload_n 2, 1) := by decide +kernel
theorem d_La_law_230 : decode code 230 = .ok (.invokevirtual 75, 3) := by decide +kernel
theorem d_La_law_233 : decode code 233 = .ok (.iload 5, 2) := by decide +kernel
theorem d_La_law_235 : decode code 235 = .ok (.if_icmp .eq 5, 3) := by decide +kernel
theorem d_La_law_238 : decode code 238 = .ok (.iconst 0, 1) := by decide +kernel
theorem d_La_law_239 : decode code 239 = .ok (.ireturn, 1) := by decide +kernel
theorem d_La_law_240 : decode code 240 = .ok (.iload 5, 2) := by decide +kernel
theorem d_La_law_242 : decode code 242 = .ok (.ifCond .ne 15, 3) := by decide +kernel
theorem d_La_law_245 : decode code 245 = .ok (.aload_n 3, 1) := by decide +kernel
theorem d_La_law_246 : decode code 246 = .ok (.iconst 0, 1) := by decide +kernel
theorem d_La_law_247 : decode code 247 = .ok (.laload, 1) := by decide +kernel
theorem d_La_law_248 : decode code 248 = .ok (.iload 6, 2) := by decide +kernel
theorem d_La_law_250 : decode code 250 = .ok (.i2l, 1) := by decide +kernel
theorem d_La_law_251 : decode code 251 = .ok (.lcmp, 1) := by decide +kernel
theorem d_La_law_252 : decode code 252 = .ok (.ifCond .eq 5, 3) := by decide +kernel
theorem d_La_law_255 : decode code 255 = .ok (.iconst 0, 1) := by decide +kernel
theorem d_La_law_256 : decode code 256 = .ok (.ireturn, 1) := by decide +kernel
theorem d_La_law_257 : decode code 257 = .ok (.goto 852, 3) := by decide +kernel
theorem d_La_law_260 : decode code 260 = .ok (.aload_n 1, 1) := by decide +kernel
theorem d_La_law_261 : decode code 261 = .ok (.aload_n 0, 1) := by decide +kernel
theorem d_La_law_262 : decode code 262 = .ok (.iload 4, 2) := by decide +kernel
theorem d_La_law_264 : decode code 264 = .ok (.iconst 1, 1) := by decide +kernel
theorem d_La_law_265 : decode code 265 = .ok (.iadd, 1) := by decide +kernel
theorem d_La_law_266 : decode code 266 = .ok (.iaload, 1) := by decide +kernel
theorem d_La_law_267 : decode code 267 = .ok (.aload_n 0, 1) := by decide +kernel
theorem d_La_law_268 : decode code 268 = .ok (.iload 4, 2) := by decide +kernel
theorem d_La_law_270 : decode code 270 = .ok (.iconst 2, 1) := by decide +kernel
theorem d_La_law_271 : decode code 271 = .ok (.iadd, 1) := by decide +kernel
theorem d_La_law_272 : decode code 272 = .ok (.iaload, 1) := by decide +kernel
theorem d_La_law_273 : decode code 273 = .ok (.aload_n 3, 1) := by decide +kernel
theorem d_La_law_274 : decode code 274 = .ok (.invokestatic 83, 3) := by decide +kernel
theorem d_La_law_277 : decode code 277 = .ok (.istore 5, 2) := by decide +kernel
theorem d_La_law_279 : decode code 279 = .ok (.aload_n 2, 1) := by decide +kernel
theorem d_La_law_280 : decode code 280 = .ok (.aload_n 0, 1) := by decide +kernel
theorem d_La_law_281 : decode code 281 = .ok (.iload 4, 2) := by decide +kernel
theorem d_La_law_283 : decode code 283 = .ok (.iconst 1, 1) := by decide +kernel
theorem d_La_law_284 : decode code 284 = .ok (.iadd, 1) := by decide +kernel
theorem d_La_law_285 : decode code 285 = .ok (.iaload, 1) := by decide +kernel
theorem d_La_law_286 : decode code 286 = .ok (.aload_n 0, 1) := by decide +kernel
theorem d_La_law_287 : decode code 287 = .ok (.iload 4, 2) := by decide +kernel
theorem d_La_law_289 : decode code 289 = .ok (.iconst 2, 1) := by decide +kernel
theorem d_La_law_290 : decode code 290 = .ok (.iadd, 1) := by decide +kernel
theorem d_La_law_291 : decode code 291 = .ok (.iaload, 1) := by decide +kernel
theorem d_La_law_292 : decode code 292 = .ok (.invokevirtual 86, 3) := by decide +kernel
theorem d_La_law_295 : decode code 295 = .ok (.istore 6, 2) := by decide +kernel
theorem d_La_law_297 : decode code 297 = .ok (.aload_n 2, 1) := by decide +kernel
theorem d_La_law_298 : decode code 298 = .ok (.invokevirtual 75, 3) := by decide +kernel
theorem d_La_law_301 : decode code 301 = .ok (.iload 5, 2) := by decide +kernel
theorem d_La_law_303 : decode code 303 = .ok (.if_icmp .eq 5, 3) := by decide +kernel
theorem d_La_law_306 : decode code 306 = .ok (.iconst 0, 1) := by decide +kernel
theorem d_La_law_307 : decode code 307 = .ok (.ireturn, 1) := by decide +kernel
theorem d_La_law_308 : decode code 308 = .ok (.iload 5, 2) := by decide +kernel
theorem d_La_law_310 : decode code 310 = .ok (.ifCond .ne 15, 3) := by decide +kernel
theorem d_La_law_313 : decode code 313 = .ok (.aload_n 3, 1) := by decide +kernel
theorem d_La_law_314 : decode code 314 = .ok (.iconst 0, 1) := by decide +kernel
theorem d_La_law_315 : decode code 315 = .ok (.laload, 1) := by decide +kernel
theorem d_La_law_316 : decode code 316 = .ok (.iload 6, 2) := by decide +kernel
theorem d_La_law_318 : decode code 318 = .ok (.i2l, 1) := by decide +kernel
theorem d_La_law_319 : decode code 319 = .ok (.lcmp, 1) := by decide +kernel
theorem d_La_law_320 : decode code 320 = .ok (.ifCond .eq 5, 3) := by decide +kernel
theorem d_La_law_323 : decode code 323 = .ok (.iconst 0, 1) := by decide +kernel
theorem d_La_law_324 : decode code 324 = .ok (.ireturn, 1) := by decide +kernel
theorem d_La_law_325 : decode code 325 = .ok (.goto 784, 3) := by decide +kernel
theorem d_La_law_328 : decode code 328 = .ok (.aload_n 1, 1) := by decide +kernel
theorem d_La_law_329 : decode code 329 = .ok (.aload_n 0, 1) := by decide +kernel
theorem d_La_law_330 : decode code 330 = .ok (.iload 4, 2) := by decide +kernel
theorem d_La_law_332 : decode code 332 = .ok (.iconst 1, 1) := by decide +kernel
theorem d_La_law_333 : decode code 333 = .ok (.iadd, 1) := by decide +kernel
theorem d_La_law_334 : decode code 334 = .ok (.iaload, 1) := by decide +kernel
theorem d_La_law_335 : decode code 335 = .ok (.aload_n 0, 1) := by decide +kernel
theorem d_La_law_336 : decode code 336 = .ok (.iload 4, 2) := by decide +kernel
theorem d_La_law_338 : decode code 338 = .ok (.iconst 2, 1) := by decide +kernel
theorem d_La_law_339 : decode code 339 = .ok (.iadd, 1) := by decide +kernel
theorem d_La_law_340 : decode code 340 = .ok (.iaload, 1) := by decide +kernel
theorem d_La_law_341 : decode code 341 = .ok (.aload_n 0, 1) := by decide +kernel
theorem d_La_law_342 : decode code 342 = .ok (.iload 4, 2) := by decide +kernel
theorem d_La_law_344 : decode code 344 = .ok (.iconst 3, 1) := by decide +kernel
theorem d_La_law_345 : decode code 345 = .ok (.iadd, 1) := by decide +kernel
theorem d_La_law_346 : decode code 346 = .ok (.iaload, 1) := by decide +kernel
