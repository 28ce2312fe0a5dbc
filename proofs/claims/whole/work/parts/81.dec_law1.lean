/-! decode rows of the law, by wip/whole/p81.py -/
theorem d_lw_law_0 : decode m_lw_law.2.1 0 = .ok (.new 8, 3) := by decide +kernel
theorem d_lw_law_3 : decode m_lw_law.2.1 3 = .ok (.dup, 1) := by decide +kernel
theorem d_lw_law_4 : decode m_lw_law.2.1 4 = .ok (.invokespecial 84, 3) := by decide +kernel
theorem d_lw_law_7 : decode m_lw_law.2.1 7 = .ok (.astore_n 1, 1) := by decide +kernel
theorem d_lw_law_8 : decode m_lw_law.2.1 8 = .ok (.new 85, 3) := by decide +kernel
theorem d_lw_law_11 : decode m_lw_law.2.1 11 = .ok (.dup, 1) := by decide +kernel
theorem d_lw_law_12 : decode m_lw_law.2.1 12 = .ok (.invokespecial 87, 3) := by decide +kernel
theorem d_lw_law_15 : decode m_lw_law.2.1 15 = .ok (.astore_n 2, 1) := by decide +kernel
theorem d_lw_law_16 : decode m_lw_law.2.1 16 = .ok (.iconst 1, 1) := by decide +kernel
theorem d_lw_law_17 : decode m_lw_law.2.1 17 = .ok (.newarray .long, 2) := by decide +kernel
theorem d_lw_law_19 : decode m_lw_law.2.1 19 = .ok (.astore_n 3, 1) := by decide +kernel
theorem d_lw_law_20 : decode m_lw_law.2.1 20 = .ok (.iconst 0, 1) := by decide +kernel
theorem d_lw_law_21 : decode m_lw_law.2.1 21 = .ok (.istore 4, 2) := by decide +kernel
theorem d_lw_law_23 : decode m_lw_law.2.1 23 = .ok (.iload 4, 2) := by decide +kernel
theorem d_lw_law_25 : decode m_lw_law.2.1 25 = .ok (.aload_n 0, 1) := by decide +kernel
theorem d_lw_law_26 : decode m_lw_law.2.1 26 = .ok (.arraylength, 1) := by decide +kernel
theorem d_lw_law_27 : decode m_lw_law.2.1 27 = .ok (.iconst 5, 1) := by decide +kernel
theorem d_lw_law_28 : decode m_lw_law.2.1 28 = .ok (.isub, 1) := by decide +kernel
theorem d_lw_law_29 : decode m_lw_law.2.1 29 = .ok (.if_icmp .gt (1480), 3) := by decide +kernel
theorem d_lw_law_32 : decode m_lw_law.2.1 32 = .ok (.aload_n 0, 1) := by decide +kernel
theorem d_lw_law_33 : decode m_lw_law.2.1 33 = .ok (.iload 4, 2) := by decide +kernel
theorem d_lw_law_35 : decode m_lw_law.2.1 35 = .ok (.iaload, 1) := by decide +kernel
theorem d_lw_law_36 : decode m_lw_law.2.1 36 = .ok (.bipush 31, 2) := by decide +kernel
theorem d_lw_law_38 : decode m_lw_law.2.1 38 = .ok (.iand, 1) := by decide +kernel
theorem d_lw_law_39 : decode m_lw_law.2.1 39 = .ok (.tableswitch (1464) (0) (18) #[89, 169, 225, 281, 349, 441, 533, 613, 709, 812, 908, 988, 1044, 1100, 1156, 1240, 1284, 1340, 1408], 89) := by decide +kernel
theorem d_lw_law_128 : decode m_lw_law.2.1 128 = .ok (.aload_n 1, 1) := by decide +kernel
theorem d_lw_law_129 : decode m_lw_law.2.1 129 = .ok (.aload_n 0, 1) := by decide +kernel
theorem d_lw_law_130 : decode m_lw_law.2.1 130 = .ok (.iload 4, 2) := by decide +kernel
theorem d_lw_law_132 : decode m_lw_law.2.1 132 = .ok (.iconst 1, 1) := by decide +kernel
theorem d_lw_law_133 : decode m_lw_law.2.1 133 = .ok (.iadd, 1) := by decide +kernel
theorem d_lw_law_134 : decode m_lw_law.2.1 134 = .ok (.iaload, 1) := by decide +kernel
theorem d_lw_law_135 : decode m_lw_law.2.1 135 = .ok (.aload_n 0, 1) := by decide +kernel
theorem d_lw_law_136 : decode m_lw_law.2.1 136 = .ok (.iload 4, 2) := by decide +kernel
theorem d_lw_law_138 : decode m_lw_law.2.1 138 = .ok (.iconst 2, 1) := by decide +kernel
theorem d_lw_law_139 : decode m_lw_law.2.1 139 = .ok (.iadd, 1) := by decide +kernel
theorem d_lw_law_140 : decode m_lw_law.2.1 140 = .ok (.iaload, 1) := by decide +kernel
theorem d_lw_law_141 : decode m_lw_law.2.1 141 = .ok (.aload_n 0, 1) := by decide +kernel
theorem d_lw_law_142 : decode m_lw_law.2.1 142 = .ok (.iload 4, 2) := by decide +kernel
theorem d_lw_law_144 : decode m_lw_law.2.1 144 = .ok (.iconst 3, 1) := by decide +kernel
theorem d_lw_law_145 : decode m_lw_law.2.1 145 = .ok (.iadd, 1) := by decide +kernel
theorem d_lw_law_146 : decode m_lw_law.2.1 146 = .ok (.iaload, 1) := by decide +kernel
theorem d_lw_law_147 : decode m_lw_law.2.1 147 = .ok (.aload_n 3, 1) := by decide +kernel
theorem d_lw_law_148 : decode m_lw_law.2.1 148 = .ok (.invokestatic 88, 3) := by decide +kernel
theorem d_lw_law_151 : decode m_lw_law.2.1 151 = .ok (.istore 5, 2) := by decide +kernel
theorem d_lw_law_153 : decode m_lw_law.2.1 153 = .ok (.aload_n 2, 1) := by decide +kernel
theorem d_lw_law_154 : decode m_lw_law.2.1 154 = .ok (.aload_n 0, 1) := by decide +kernel
theorem d_lw_law_155 : decode m_lw_law.2.1 155 = .ok (.iload 4, 2) := by decide +kernel
theorem d_lw_law_157 : decode m_lw_law.2.1 157 = .ok (.iconst 1, 1) := by decide +kernel
theorem d_lw_law_158 : decode m_lw_law.2.1 158 = .ok (.iadd, 1) := by decide +kernel
theorem d_lw_law_159 : decode m_lw_law.2.1 159 = .ok (.iaload, 1) := by decide +kernel
theorem d_lw_law_160 : decode m_lw_law.2.1 160 = .ok (.aload_n 0, 1) := by decide +kernel
theorem d_lw_law_161 : decode m_lw_law.2.1 161 = .ok (.iload 4, 2) := by decide +kernel
theorem d_lw_law_163 : decode m_lw_law.2.1 163 = .ok (.iconst 2, 1) := by decide +kernel
theorem d_lw_law_164 : decode m_lw_law.2.1 164 = .ok (.iadd, 1) := by decide +kernel
theorem d_lw_law_165 : decode m_lw_law.2.1 165 = .ok (.iaload, 1) := by decide +kernel
theorem d_lw_law_166 : decode m_lw_law.2.1 166 = .ok (.aload_n 0, 1) := by decide +kernel
theorem d_lw_law_167 : decode m_lw_law.2.1 167 = .ok (.iload 4, 2) := by decide +kernel
theorem d_lw_law_169 : decode m_lw_law.2.1 169 = .ok (.iconst 3, 1) := by decide +kernel
theorem d_lw_law_170 : decode m_lw_law.2.1 170 = .ok (.iadd, 1) := by decide +kernel
theorem d_lw_law_171 : decode m_lw_law.2.1 171 = .ok (.iaload, 1) := by decide +kernel
theorem d_lw_law_172 : decode m_lw_law.2.1 172 = .ok (.invokevirtual 93, 3) := by decide +kernel
theorem d_lw_law_175 : decode m_lw_law.2.1 175 = .ok (.istore 6, 2) := by decide +kernel
theorem d_lw_law_177 : decode m_lw_law.2.1 177 = .ok (.aload_n 2, 1) := by decide +kernel
theorem d_lw_law_178 : decode m_lw_law.2.1 178 = .ok (.invokevirtual 94, 3) := by decide +kernel
theorem d_lw_law_181 : decode m_lw_law.2.1 181 = .ok (.iload 5, 2) := by decide +kernel
theorem d_lw_law_183 : decode m_lw_law.2.1 183 = .ok (.if_icmp .eq (5), 3) := by decide +kernel
theorem d_lw_law_186 : decode m_lw_law.2.1 186 = .ok (.iconst 0, 1) := by decide +kernel
theorem d_lw_law_187 : decode m_lw_law.2.1 187 = .ok (.ireturn, 1) := by decide +kernel
theorem d_lw_law_188 : decode m_lw_law.2.1 188 = .ok (.iload 5, 2) := by decide +kernel
theorem d_lw_law_190 : decode m_lw_law.2.1 190 = .ok (.ifCond .ne (15), 3) := by decide +kernel
theorem d_lw_law_193 : decode m_lw_law.2.1 193 = .ok (.aload_n 3, 1) := by decide +kernel
theorem d_lw_law_194 : decode m_lw_law.2.1 194 = .ok (.iconst 0, 1) := by decide +kernel
theorem d_lw_law_195 : decode m_lw_law.2.1 195 = .ok (.laload, 1) := by decide +kernel
theorem d_lw_law_196 : decode m_lw_law.2.1 196 = .ok (.iload 6, 2) := by decide +kernel
theorem d_lw_law_198 : decode m_lw_law.2.1 198 = .ok (.i2l, 1) := by decide +kernel
theorem d_lw_law_199 : decode m_lw_law.2.1 199 = .ok (.lcmp, 1) := by decide +kernel
theorem d_lw_law_200 : decode m_lw_law.2.1 200 = .ok (.ifCond .eq (5), 3) := by decide +kernel
theorem d_lw_law_203 : decode m_lw_law.2.1 203 = .ok (.iconst 0, 1) := by decide +kernel
theorem d_lw_law_204 : decode m_lw_law.2.1 204 = .ok (.ireturn, 1) := by decide +kernel
theorem d_lw_law_205 : decode m_lw_law.2.1 205 = .ok (.goto 1298, 3) := by decide +kernel
theorem d_lw_law_208 : decode m_lw_law.2.1 208 = .ok (.aload_n 1, 1) := by decide +kernel
theorem d_lw_law_209 : decode m_lw_law.2.1 209 = .ok (.aload_n 0, 1) := by decide +kernel
theorem d_lw_law_210 : decode m_lw_law.2.1 210 = .ok (.iload 4, 2) := by decide +kernel
theorem d_lw_law_212 : decode m_lw_law.2.1 212 = .ok (.iconst 1, 1) := by decide +kernel
theorem d_lw_law_213 : decode m_lw_law.2.1 213 = .ok (.iadd, 1) := by decide +kernel
theorem d_lw_law_214 : decode m_lw_law.2.1 214 = .ok (.iaload, 1) := by decide +kernel
theorem d_lw_law_215 : decode m_lw_law.2.1 215 = .ok (.aload_n 3, 1) := by decide +kernel
theorem d_lw_law_216 : decode m_lw_law.2.1 216 = .ok (.invokestatic 97, 3) := by decide +kernel
theorem d_lw_law_219 : decode m_lw_law.2.1 219 = .ok (.istore 5, 2) := by decide +kernel
theorem d_lw_law_221 : decode m_lw_law.2.1 221 = .ok (.aload_n 2, 1) := by decide +kernel
theorem d_lw_law_222 : decode m_lw_law.2.1 222 = .ok (.aload_n 0, 1) := by decide +kernel
theorem d_lw_law_223 : decode m_lw_law.2.1 223 = .ok (.iload 4, 2) := by decide +kernel
theorem d_lw_law_225 : decode m_lw_law.2.1 225 = .ok (.iconst 1, 1) := by decide +kernel
theorem d_lw_law_226 : decode m_lw_law.2.1 226 = .ok (.iadd, 1) := by decide +kernel
theorem d_lw_law_227 : decode m_lw_law.2.1 227 = .ok (.iaload, 1) := by decide +kernel
theorem d_lw_law_228 : decode m_lw_law.2.1 228 = .ok (.invokevirtual 100, 3) := by decide +kernel
theorem d_lw_law_231 : decode m_lw_law.2.1 231 = .ok (.istore 6, 2) := by decide +kernel
theorem d_lw_law_233 : decode m_lw_law.2.1 233 = .ok (.aload_n 2, 1) := by decide +kernel
theorem d_lw_law_234 : decode m_lw_law.2.1 234 = .ok (.invokevirtual 94, 3) := by decide +kernel
theorem d_lw_law_237 : decode m_lw_law.2.1 237 = .ok (.iload 5, 2) := by decide +kernel
theorem d_lw_law_239 : decode m_lw_law.2.1 239 = .ok (.if_icmp .eq (5), 3) := by decide +kernel
theorem d_lw_law_242 : decode m_lw_law.2.1 242 = .ok (.iconst 0, 1) := by decide +kernel
theorem d_lw_law_243 : decode m_lw_law.2.1 243 = .ok (.ireturn, 1) := by decide +kernel
theorem d_lw_law_244 : decode m_lw_law.2.1 244 = .ok (.iload 5, 2) := by decide +kernel
theorem d_lw_law_246 : decode m_lw_law.2.1 246 = .ok (.ifCond .ne (15), 3) := by decide +kernel
theorem d_lw_law_249 : decode m_lw_law.2.1 249 = .ok (.aload_n 3, 1) := by decide +kernel
theorem d_lw_law_250 : decode m_lw_law.2.1 250 = .ok (.iconst 0, 1) := by decide +kernel
theorem d_lw_law_251 : decode m_lw_law.2.1 251 = .ok (.laload, 1) := by decide +kernel
theorem d_lw_law_252 : decode m_lw_law.2.1 252 = .ok (.iload 6, 2) := by decide +kernel
theorem d_lw_law_254 : decode m_lw_law.2.1 254 = .ok (.i2l, 1) := by decide +kernel
theorem d_lw_law_255 : decode m_lw_law.2.1 255 = .ok (.lcmp, 1) := by decide +kernel
theorem d_lw_law_256 : decode m_lw_law.2.1 256 = .ok (.ifCond .eq (5), 3) := by decide +kernel
theorem d_lw_law_259 : decode m_lw_law.2.1 259 = .ok (.iconst 0, 1) := by decide +kernel
theorem d_lw_law_260 : decode m_lw_law.2.1 260 = .ok (.ireturn, 1) := by decide +kernel
theorem d_lw_law_261 : decode m_lw_law.2.1 261 = .ok (.goto 1242, 3) := by decide +kernel
theorem d_lw_law_264 : decode m_lw_law.2.1 264 = .ok (.aload_n 1, 1) := by decide +kernel
theorem d_lw_law_265 : decode m_lw_law.2.1 265 = .ok (.aload_n 0, 1) := by decide +kernel
theorem d_lw_law_266 : decode m_lw_law.2.1 266 = .ok (.iload 4, 2) := by decide +kernel
theorem d_lw_law_268 : decode m_lw_law.2.1 268 = .ok (.iconst 1, 1) := by decide +kernel
theorem d_lw_law_269 : decode m_lw_law.2.1 269 = .ok (.iadd, 1) := by decide +kernel
theorem d_lw_law_270 : decode m_lw_law.2.1 270 = .ok (.iaload, 1) := by decide +kernel
theorem d_lw_law_271 : decode m_lw_law.2.1 271 = .ok (.aload_n 3, 1) := by decide +kernel
theorem d_lw_law_272 : decode m_lw_law.2.1 272 = .ok (.invokestatic 101, 3) := by decide +kernel
theorem d_lw_law_275 : decode m_lw_law.2.1 275 = .ok (.istore 5, 2) := by decide +kernel
theorem d_lw_law_277 : decode m_lw_law.2.1 277 = .ok (.aload_n 2, 1) := by decide +kernel
theorem d_lw_law_278 : decode m_lw_law.2.1 278 = .ok (.aload_n 0, 1) := by decide +kernel
theorem d_lw_law_279 : decode m_lw_law.2.1 279 = .ok (.iload 4, 2) := by decide +kernel
theorem d_lw_law_281 : decode m_lw_law.2.1 281 = .ok (.iconst 1, 1) := by decide +kernel
theorem d_lw_law_282 : decode m_lw_law.2.1 282 = .ok (.iadd, 1) := by decide +kernel
theorem d_lw_law_283 : decode m_lw_law.2.1 283 = .ok (.iaload, 1) := by decide +kernel
theorem d_lw_law_284 : decode m_lw_law.2.1 284 = .ok (.invokevirtual 103, 3) := by decide +kernel
theorem d_lw_law_287 : decode m_lw_law.2.1 287 = .ok (.istore 6, 2) := by decide +kernel
theorem d_lw_law_289 : decode m_lw_law.2.1 289 = .ok (.aload_n 2, 1) := by decide +kernel
theorem d_lw_law_290 : decode m_lw_law.2.1 290 = .ok (.invokevirtual 94, 3) := by decide +kernel
theorem d_lw_law_293 : decode m_lw_law.2.1 293 = .ok (.iload 5, 2) := by decide +kernel
theorem d_lw_law_295 : decode m_lw_law.2.1 295 = .ok (.if_icmp .eq (5), 3) := by decide +kernel
theorem d_lw_law_298 : decode m_lw_law.2.1 298 = .ok (.iconst 0, 1) := by decide +kernel
theorem d_lw_law_299 : decode m_lw_law.2.1 299 = .ok (.ireturn, 1) := by decide +kernel
theorem d_lw_law_300 : decode m_lw_law.2.1 300 = .ok (.iload 5, 2) := by decide +kernel
theorem d_lw_law_302 : decode m_lw_law.2.1 302 = .ok (.ifCond .ne (15), 3) := by decide +kernel
theorem d_lw_law_305 : decode m_lw_law.2.1 305 = .ok (.aload_n 3, 1) := by decide +kernel
theorem d_lw_law_306 : decode m_lw_law.2.1 306 = .ok (.iconst 0, 1) := by decide +kernel
theorem d_lw_law_307 : decode m_lw_law.2.1 307 = .ok (.laload, 1) := by decide +kernel
theorem d_lw_law_308 : decode m_lw_law.2.1 308 = .ok (.iload 6, 2) := by decide +kernel
theorem d_lw_law_310 : decode m_lw_law.2.1 310 = .ok (.i2l, 1) := by decide +kernel
theorem d_lw_law_311 : decode m_lw_law.2.1 311 = .ok (.lcmp, 1) := by decide +kernel
theorem d_lw_law_312 : decode m_lw_law.2.1 312 = .ok (.ifCond .eq (5), 3) := by decide +kernel
theorem d_lw_law_315 : decode m_lw_law.2.1 315 = .ok (.iconst 0, 1) := by decide +kernel
theorem d_lw_law_316 : decode m_lw_law.2.1 316 = .ok (.ireturn, 1) := by decide +kernel
theorem d_lw_law_317 : decode m_lw_law.2.1 317 = .ok (.goto 1186, 3) := by decide +kernel
theorem d_lw_law_320 : decode m_lw_law.2.1 320 = .ok (.aload_n 1, 1) := by decide +kernel
theorem d_lw_law_321 : decode m_lw_law.2.1 321 = .ok (.aload_n 0, 1) := by decide +kernel
theorem d_lw_law_322 : decode m_lw_law.2.1 322 = .ok (.iload 4, 2) := by decide +kernel
theorem d_lw_law_324 : decode m_lw_law.2.1 324 = .ok (.iconst 1, 1) := by decide +kernel
theorem d_lw_law_325 : decode m_lw_law.2.1 325 = .ok (.iadd, 1) := by decide +kernel
theorem d_lw_law_326 : decode m_lw_law.2.1 326 = .ok (.iaload, 1) := by decide +kernel
theorem d_lw_law_327 : decode m_lw_law.2.1 327 = .ok (.aload_n 0, 1) := by decide +kernel
theorem d_lw_law_328 : decode m_lw_law.2.1 328 = .ok (.iload 4, 2) := by decide +kernel
theorem d_lw_law_330 : decode m_lw_law.2.1 330 = .ok (.iconst 2, 1) := by decide +kernel
theorem d_lw_law_331 : decode m_lw_law.2.1 331 = .ok (.iadd, 1) := by decide +kernel
theorem d_lw_law_332 : decode m_lw_law.2.1 332 = .ok (.iaload, 1) := by decide +kernel
theorem d_lw_law_333 : decode m_lw_law.2.1 333 = .ok (.aload_n 3, 1) := by decide +kernel
theorem d_lw_law_334 : decode m_lw_law.2.1 334 = .ok (.invokestatic 104, 3) := by decide +kernel
theorem d_lw_law_337 : decode m_lw_law.2.1 337 = .ok (.istore 5, 2) := by decide +kernel
theorem d_lw_law_339 : decode m_lw_law.2.1 339 = .ok (.aload_n 2, 1) := by decide +kernel
theorem d_lw_law_340 : decode m_lw_law.2.1 340 = .ok (.aload_n 0, 1) := by decide +kernel
theorem d_lw_law_341 : decode m_lw_law.2.1 341 = .ok (.iload 4, 2) := by decide +kernel
theorem d_lw_law_343 : decode m_lw_law.2.1 343 = .ok (.iconst 1, 1) := by decide +kernel
theorem d_lw_law_344 : decode m_lw_law.2.1 344 = .ok (.iadd, 1) := by decide +kernel
theorem d_lw_law_345 : decode m_lw_law.2.1 345 = .ok (.iaload, 1) := by decide +kernel
theorem d_lw_law_346 : decode m_lw_law.2.1 346 = .ok (.aload_n 0, 1) := by decide +kernel
theorem d_lw_law_347 : decode m_lw_law.2.1 347 = .ok (.iload 4, 2) := by decide +kernel
theorem d_lw_law_349 : decode m_lw_law.2.1 349 = .ok (.iconst 2, 1) := by decide +kernel
theorem d_lw_law_350 : decode m_lw_law.2.1 350 = .ok (.iadd, 1) := by decide +kernel
theorem d_lw_law_351 : decode m_lw_law.2.1 351 = .ok (.iaload, 1) := by decide +kernel
theorem d_lw_law_352 : decode m_lw_law.2.1 352 = .ok (.invokevirtual 107, 3) := by decide +kernel
theorem d_lw_law_355 : decode m_lw_law.2.1 355 = .ok (.istore 6, 2) := by decide +kernel
theorem d_lw_law_357 : decode m_lw_law.2.1 357 = .ok (.aload_n 2, 1) := by decide +kernel
theorem d_lw_law_358 : decode m_lw_law.2.1 358 = .ok (.invokevirtual 94, 3) := by decide +kernel
theorem d_lw_law_361 : decode m_lw_law.2.1 361 = .ok (.iload 5, 2) := by decide +kernel
theorem d_lw_law_363 : decode m_lw_law.2.1 363 = .ok (.if_icmp .eq (5), 3) := by decide +kernel
theorem d_lw_law_366 : decode m_lw_law.2.1 366 = .ok (.iconst 0, 1) := by decide +kernel
theorem d_lw_law_367 : decode m_lw_law.2.1 367 = .ok (.ireturn, 1) := by decide +kernel
theorem d_lw_law_368 : decode m_lw_law.2.1 368 = .ok (.iload 5, 2) := by decide +kernel
theorem d_lw_law_370 : decode m_lw_law.2.1 370 = .ok (.ifCond .ne (15), 3) := by decide +kernel
theorem d_lw_law_373 : decode m_lw_law.2.1 373 = .ok (.aload_n 3, 1) := by decide +kernel
theorem d_lw_law_374 : decode m_lw_law.2.1 374 = .ok (.iconst 0, 1) := by decide +kernel
theorem d_lw_law_375 : decode m_lw_law.2.1 375 = .ok (.laload, 1) := by decide +kernel
theorem d_lw_law_376 : decode m_lw_law.2.1 376 = .ok (.iload 6, 2) := by decide +kernel
theorem d_lw_law_378 : decode m_lw_law.2.1 378 = .ok (.i2l, 1) := by decide +kernel
theorem d_lw_law_379 : decode m_lw_law.2.1 379 = .ok (.lcmp, 1) := by decide +kernel
theorem d_lw_law_380 : decode m_lw_law.2.1 380 = .ok (.ifCond .eq (5), 3) := by decide +kernel
theorem d_lw_law_383 : decode m_lw_law.2.1 383 = .ok (.iconst 0, 1) := by decide +kernel
theorem d_lw_law_384 : decode m_lw_law.2.1 384 = .ok (.ireturn, 1) := by decide +kernel
theorem d_lw_law_385 : decode m_lw_law.2.1 385 = .ok (.goto 1118, 3) := by decide +kernel
theorem d_lw_law_388 : decode m_lw_law.2.1 388 = .ok (.aload_n 1, 1) := by decide +kernel
theorem d_lw_law_389 : decode m_lw_law.2.1 389 = .ok (.aload_n 0, 1) := by decide +kernel
theorem d_lw_law_390 : decode m_lw_law.2.1 390 = .ok (.iload 4, 2) := by decide +kernel
theorem d_lw_law_392 : decode m_lw_law.2.1 392 = .ok (.iconst 1, 1) := by decide +kernel
theorem d_lw_law_393 : decode m_lw_law.2.1 393 = .ok (.iadd, 1) := by decide +kernel
theorem d_lw_law_394 : decode m_lw_law.2.1 394 = .ok (.iaload, 1) := by decide +kernel
theorem d_lw_law_395 : decode m_lw_law.2.1 395 = .ok (.aload_n 0, 1) := by decide +kernel
theorem d_lw_law_396 : decode m_lw_law.2.1 396 = .ok (.iload 4, 2) := by decide +kernel
theorem d_lw_law_398 : decode m_lw_law.2.1 398 = .ok (.iconst 2, 1) := by decide +kernel
theorem d_lw_law_399 : decode m_lw_law.2.1 399 = .ok (.iadd, 1) := by decide +kernel
theorem d_lw_law_400 : decode m_lw_law.2.1 400 = .ok (.iaload, 1) := by decide +kernel
theorem d_lw_law_401 : decode m_lw_law.2.1 401 = .ok (.aload_n 0, 1) := by decide +kernel
theorem d_lw_law_402 : decode m_lw_law.2.1 402 = .ok (.iload 4, 2) := by decide +kernel
theorem d_lw_law_404 : decode m_lw_law.2.1 404 = .ok (.iconst 3, 1) := by decide +kernel
theorem d_lw_law_405 : decode m_lw_law.2.1 405 = .ok (.iadd, 1) := by decide +kernel
theorem d_lw_law_406 : decode m_lw_law.2.1 406 = .ok (.iaload, 1) := by decide +kernel
theorem d_lw_law_407 : decode m_lw_law.2.1 407 = .ok (.aload_n 0, 1) := by decide +kernel
theorem d_lw_law_408 : decode m_lw_law.2.1 408 = .ok (.iload 4, 2) := by decide +kernel
theorem d_lw_law_410 : decode m_lw_law.2.1 410 = .ok (.iconst 4, 1) := by decide +kernel
theorem d_lw_law_411 : decode m_lw_law.2.1 411 = .ok (.iadd, 1) := by decide +kernel
theorem d_lw_law_412 : decode m_lw_law.2.1 412 = .ok (.iaload, 1) := by decide +kernel
theorem d_lw_law_413 : decode m_lw_law.2.1 413 = .ok (.aload_n 3, 1) := by decide +kernel
theorem d_lw_law_414 : decode m_lw_law.2.1 414 = .ok (.invokestatic 108, 3) := by decide +kernel
theorem d_lw_law_417 : decode m_lw_law.2.1 417 = .ok (.istore 5, 2) := by decide +kernel
theorem d_lw_law_419 : decode m_lw_law.2.1 419 = .ok (.aload_n 2, 1) := by decide +kernel
theorem d_lw_law_420 : decode m_lw_law.2.1 420 = .ok (.aload_n 0, 1) := by decide +kernel
theorem d_lw_law_421 : decode m_lw_law.2.1 421 = .ok (.iload 4, 2) := by decide +kernel
theorem d_lw_law_423 : decode m_lw_law.2.1 423 = .ok (.iconst 1, 1) := by decide +kernel
theorem d_lw_law_424 : decode m_lw_law.2.1 424 = .ok (.iadd, 1) := by decide +kernel
theorem d_lw_law_425 : decode m_lw_law.2.1 425 = .ok (.iaload, 1) := by decide +kernel
theorem d_lw_law_426 : decode m_lw_law.2.1 426 = .ok (.aload_n 0, 1) := by decide +kernel
theorem d_lw_law_427 : decode m_lw_law.2.1 427 = .ok (.iload 4, 2) := by decide +kernel
theorem d_lw_law_429 : decode m_lw_law.2.1 429 = .ok (.iconst 2, 1) := by decide +kernel
theorem d_lw_law_430 : decode m_lw_law.2.1 430 = .ok (.iadd, 1) := by decide +kernel
theorem d_lw_law_431 : decode m_lw_law.2.1 431 = .ok (.iaload, 1) := by decide +kernel
theorem d_lw_law_432 : decode m_lw_law.2.1 432 = .ok (.aload_n 0, 1) := by decide +kernel
theorem d_lw_law_433 : decode m_lw_law.2.1 433 = .ok (.iload 4, 2) := by decide +kernel
theorem d_lw_law_435 : decode m_lw_law.2.1 435 = .ok (.iconst 3, 1) := by decide +kernel
theorem d_lw_law_436 : decode m_lw_law.2.1 436 = .ok (.iadd, 1) := by decide +kernel
theorem d_lw_law_437 : decode m_lw_law.2.1 437 = .ok (.iaload, 1) := by decide +kernel
theorem d_lw_law_438 : decode m_lw_law.2.1 438 = .ok (.aload_n 0, 1) := by decide +kernel
theorem d_lw_law_439 : decode m_lw_law.2.1 439 = .ok (.iload 4, 2) := by decide +kernel
theorem d_lw_law_441 : decode m_lw_law.2.1 441 = .ok (.iconst 4, 1) := by decide +kernel
theorem d_lw_law_442 : decode m_lw_law.2.1 442 = .ok (.iadd, 1) := by decide +kernel
theorem d_lw_law_443 : decode m_lw_law.2.1 443 = .ok (.iaload, 1) := by decide +kernel
theorem d_lw_law_444 : decode m_lw_law.2.1 444 = .ok (.invokevirtual 111, 3) := by decide +kernel
theorem d_lw_law_447 : decode m_lw_law.2.1 447 = .ok (.istore 6, 2) := by decide +kernel
theorem d_lw_law_449 : decode m_lw_law.2.1 449 = .ok (.aload_n 2, 1) := by decide +kernel
theorem d_lw_law_450 : decode m_lw_law.2.1 450 = .ok (.invokevirtual 94, 3) := by decide +kernel
theorem d_lw_law_453 : decode m_lw_law.2.1 453 = .ok (.iload 5, 2) := by decide +kernel
theorem d_lw_law_455 : decode m_lw_law.2.1 455 = .ok (.if_icmp .eq (5), 3) := by decide +kernel
theorem d_lw_law_458 : decode m_lw_law.2.1 458 = .ok (.iconst 0, 1) := by decide +kernel
theorem d_lw_law_459 : decode m_lw_law.2.1 459 = .ok (.ireturn, 1) := by decide +kernel
theorem d_lw_law_460 : decode m_lw_law.2.1 460 = .ok (.iload 5, 2) := by decide +kernel
theorem d_lw_law_462 : decode m_lw_law.2.1 462 = .ok (.ifCond .ne (15), 3) := by decide +kernel
theorem d_lw_law_465 : decode m_lw_law.2.1 465 = .ok (.aload_n 3, 1) := by decide +kernel
theorem d_lw_law_466 : decode m_lw_law.2.1 466 = .ok (.iconst 0, 1) := by decide +kernel
theorem d_lw_law_467 : decode m_lw_law.2.1 467 = .ok (.laload, 1) := by decide +kernel
theorem d_lw_law_468 : decode m_lw_law.2.1 468 = .ok (.iload 6, 2) := by decide +kernel
theorem d_lw_law_470 : decode m_lw_law.2.1 470 = .ok (.i2l, 1) := by decide +kernel
theorem d_lw_law_471 : decode m_lw_law.2.1 471 = .ok (.lcmp, 1) := by decide +kernel
theorem d_lw_law_472 : decode m_lw_law.2.1 472 = .ok (.ifCond .eq (5), 3) := by decide +kernel
theorem d_lw_law_475 : decode m_lw_law.2.1 475 = .ok (.iconst 0, 1) := by decide +kernel
theorem d_lw_law_476 : decode m_lw_law.2.1 476 = .ok (.ireturn, 1) := by decide +kernel
theorem d_lw_law_477 : decode m_lw_law.2.1 477 = .ok (.goto 1026, 3) := by decide +kernel
theorem d_lw_law_480 : decode m_lw_law.2.1 480 = .ok (.aload_n 1, 1) := by decide +kernel
theorem d_lw_law_481 : decode m_lw_law.2.1 481 = .ok (.aload_n 0, 1) := by decide +kernel
theorem d_lw_law_482 : decode m_lw_law.2.1 482 = .ok (.iload 4, 2) := by decide +kernel
theorem d_lw_law_484 : decode m_lw_law.2.1 484 = .ok (.iconst 1, 1) := by decide +kernel
theorem d_lw_law_485 : decode m_lw_law.2.1 485 = .ok (.iadd, 1) := by decide +kernel
theorem d_lw_law_486 : decode m_lw_law.2.1 486 = .ok (.iaload, 1) := by decide +kernel
theorem d_lw_law_487 : decode m_lw_law.2.1 487 = .ok (.aload_n 0, 1) := by decide +kernel
theorem d_lw_law_488 : decode m_lw_law.2.1 488 = .ok (.iload 4, 2) := by decide +kernel
theorem d_lw_law_490 : decode m_lw_law.2.1 490 = .ok (.iconst 2, 1) := by decide +kernel
theorem d_lw_law_491 : decode m_lw_law.2.1 491 = .ok (.iadd, 1) := by decide +kernel
theorem d_lw_law_492 : decode m_lw_law.2.1 492 = .ok (.iaload, 1) := by decide +kernel
theorem d_lw_law_493 : decode m_lw_law.2.1 493 = .ok (.aload_n 0, 1) := by decide +kernel
theorem d_lw_law_494 : decode m_lw_law.2.1 494 = .ok (.iload 4, 2) := by decide +kernel
theorem d_lw_law_496 : decode m_lw_law.2.1 496 = .ok (.iconst 3, 1) := by decide +kernel
theorem d_lw_law_497 : decode m_lw_law.2.1 497 = .ok (.iadd, 1) := by decide +kernel
theorem d_lw_law_498 : decode m_lw_law.2.1 498 = .ok (.iaload, 1) := by decide +kernel
theorem d_lw_law_499 : decode m_lw_law.2.1 499 = .ok (.aload_n 0, 1) := by decide +kernel
theorem d_lw_law_500 : decode m_lw_law.2.1 500 = .ok (.iload 4, 2) := by decide +kernel
theorem d_lw_law_502 : decode m_lw_law.2.1 502 = .ok (.iconst 4, 1) := by decide +kernel
theorem d_lw_law_503 : decode m_lw_law.2.1 503 = .ok (.iadd, 1) := by decide +kernel
theorem d_lw_law_504 : decode m_lw_law.2.1 504 = .ok (.iaload, 1) := by decide +kernel
theorem d_lw_law_505 : decode m_lw_law.2.1 505 = .ok (.aload_n 3, 1) := by decide +kernel
theorem d_lw_law_506 : decode m_lw_law.2.1 506 = .ok (.invokestatic 112, 3) := by decide +kernel
theorem d_lw_law_509 : decode m_lw_law.2.1 509 = .ok (.istore 5, 2) := by decide +kernel
theorem d_lw_law_511 : decode m_lw_law.2.1 511 = .ok (.aload_n 2, 1) := by decide +kernel
theorem d_lw_law_512 : decode m_lw_law.2.1 512 = .ok (.aload_n 0, 1) := by decide +kernel
theorem d_lw_law_513 : decode m_lw_law.2.1 513 = .ok (.iload 4, 2) := by decide +kernel
theorem d_lw_law_515 : decode m_lw_law.2.1 515 = .ok (.iconst 1, 1) := by decide +kernel
theorem d_lw_law_516 : decode m_lw_law.2.1 516 = .ok (.iadd, 1) := by decide +kernel
theorem d_lw_law_517 : decode m_lw_law.2.1 517 = .ok (.iaload, 1) := by decide +kernel
theorem d_lw_law_518 : decode m_lw_law.2.1 518 = .ok (.aload_n 0, 1) := by decide +kernel
theorem d_lw_law_519 : decode m_lw_law.2.1 519 = .ok (.iload 4, 2) := by decide +kernel
theorem d_lw_law_521 : decode m_lw_law.2.1 521 = .ok (.iconst 2, 1) := by decide +kernel
theorem d_lw_law_522 : decode m_lw_law.2.1 522 = .ok (.iadd, 1) := by decide +kernel
theorem d_lw_law_523 : decode m_lw_law.2.1 523 = .ok (.iaload, 1) := by decide +kernel
theorem d_lw_law_524 : decode m_lw_law.2.1 524 = .ok (.aload_n 0, 1) := by decide +kernel
theorem d_lw_law_525 : decode m_lw_law.2.1 525 = .ok (.iload 4, 2) := by decide +kernel
theorem d_lw_law_527 : decode m_lw_law.2.1 527 = .ok (.iconst 3, 1) := by decide +kernel
theorem d_lw_law_528 : decode m_lw_law.2.1 528 = .ok (.iadd, 1) := by decide +kernel
theorem d_lw_law_529 : decode m_lw_law.2.1 529 = .ok (.iaload, 1) := by decide +kernel
theorem d_lw_law_530 : decode m_lw_law.2.1 530 = .ok (.aload_n 0, 1) := by decide +kernel
theorem d_lw_law_531 : decode m_lw_law.2.1 531 = .ok (.iload 4, 2) := by decide +kernel
theorem d_lw_law_533 : decode m_lw_law.2.1 533 = .ok (.iconst 4, 1) := by decide +kernel
theorem d_lw_law_534 : decode m_lw_law.2.1 534 = .ok (.iadd, 1) := by decide +kernel
theorem d_lw_law_535 : decode m_lw_law.2.1 535 = .ok (.iaload, 1) := by decide +kernel
theorem d_lw_law_536 : decode m_lw_law.2.1 536 = .ok (.invokevirtual 114, 3) := by decide +kernel
theorem d_lw_law_539 : decode m_lw_law.2.1 539 = .ok (.istore 6, 2) := by decide +kernel
theorem d_lw_law_541 : decode m_lw_law.2.1 541 = .ok (.aload_n 2, 1) := by decide +kernel
theorem d_lw_law_542 : decode m_lw_law.2.1 542 = .ok (.invokevirtual 94, 3) := by decide +kernel
theorem d_lw_law_545 : decode m_lw_law.2.1 545 = .ok (.iload 5, 2) := by decide +kernel
theorem d_lw_law_547 : decode m_lw_law.2.1 547 = .ok (.if_icmp .eq (5), 3) := by decide +kernel
theorem d_lw_law_550 : decode m_lw_law.2.1 550 = .ok (.iconst 0, 1) := by decide +kernel
theorem d_lw_law_551 : decode m_lw_law.2.1 551 = .ok (.ireturn, 1) := by decide +kernel
theorem d_lw_law_552 : decode m_lw_law.2.1 552 = .ok (.iload 5, 2) := by decide +kernel
theorem d_lw_law_554 : decode m_lw_law.2.1 554 = .ok (.ifCond .ne (15), 3) := by decide +kernel
theorem d_lw_law_557 : decode m_lw_law.2.1 557 = .ok (.aload_n 3, 1) := by decide +kernel
theorem d_lw_law_558 : decode m_lw_law.2.1 558 = .ok (.iconst 0, 1) := by decide +kernel
theorem d_lw_law_559 : decode m_lw_law.2.1 559 = .ok (.laload, 1) := by decide +kernel
theorem d_lw_law_560 : decode m_lw_law.2.1 560 = .ok (.iload 6, 2) := by decide +kernel
theorem d_lw_law_562 : decode m_lw_law.2.1 562 = .ok (.i2l, 1) := by decide +kernel
theorem d_lw_law_563 : decode m_lw_law.2.1 563 = .ok (.lcmp, 1) := by decide +kernel
theorem d_lw_law_564 : decode m_lw_law.2.1 564 = .ok (.ifCond .eq (5), 3) := by decide +kernel
theorem d_lw_law_567 : decode m_lw_law.2.1 567 = .ok (.iconst 0, 1) := by decide +kernel
theorem d_lw_law_568 : decode m_lw_law.2.1 568 = .ok (.ireturn, 1) := by decide +kernel
theorem d_lw_law_569 : decode m_lw_law.2.1 569 = .ok (.goto 934, 3) := by decide +kernel
theorem d_lw_law_572 : decode m_lw_law.2.1 572 = .ok (.aload_n 1, 1) := by decide +kernel
theorem d_lw_law_573 : decode m_lw_law.2.1 573 = .ok (.aload_n 0, 1) := by decide +kernel
theorem d_lw_law_574 : decode m_lw_law.2.1 574 = .ok (.iload 4, 2) := by decide +kernel
theorem d_lw_law_576 : decode m_lw_law.2.1 576 = .ok (.iconst 1, 1) := by decide +kernel
theorem d_lw_law_577 : decode m_lw_law.2.1 577 = .ok (.iadd, 1) := by decide +kernel
theorem d_lw_law_578 : decode m_lw_law.2.1 578 = .ok (.iaload, 1) := by decide +kernel
theorem d_lw_law_579 : decode m_lw_law.2.1 579 = .ok (.aload_n 0, 1) := by decide +kernel
theorem d_lw_law_580 : decode m_lw_law.2.1 580 = .ok (.iload 4, 2) := by decide +kernel
theorem d_lw_law_582 : decode m_lw_law.2.1 582 = .ok (.iconst 2, 1) := by decide +kernel
theorem d_lw_law_583 : decode m_lw_law.2.1 583 = .ok (.iadd, 1) := by decide +kernel
theorem d_lw_law_584 : decode m_lw_law.2.1 584 = .ok (.iaload, 1) := by decide +kernel
theorem d_lw_law_585 : decode m_lw_law.2.1 585 = .ok (.aload_n 0, 1) := by decide +kernel
theorem d_lw_law_586 : decode m_lw_law.2.1 586 = .ok (.iload 4, 2) := by decide +kernel
theorem d_lw_law_588 : decode m_lw_law.2.1 588 = .ok (.iconst 3, 1) := by decide +kernel
theorem d_lw_law_589 : decode m_lw_law.2.1 589 = .ok (.iadd, 1) := by decide +kernel
theorem d_lw_law_590 : decode m_lw_law.2.1 590 = .ok (.iaload, 1) := by decide +kernel
theorem d_lw_law_591 : decode m_lw_law.2.1 591 = .ok (.aload_n 3, 1) := by decide +kernel
theorem d_lw_law_592 : decode m_lw_law.2.1 592 = .ok (.invokestatic 115, 3) := by decide +kernel
theorem d_lw_law_595 : decode m_lw_law.2.1 595 = .ok (.istore 5, 2) := by decide +kernel
theorem d_lw_law_597 : decode m_lw_law.2.1 597 = .ok (.aload_n 2, 1) := by decide +kernel
theorem d_lw_law_598 : decode m_lw_law.2.1 598 = .ok (.aload_n 0, 1) := by decide +kernel
theorem d_lw_law_599 : decode m_lw_law.2.1 599 = .ok (.iload 4, 2) := by decide +kernel
theorem d_lw_law_601 : decode m_lw_law.2.1 601 = .ok (.iconst 1, 1) := by decide +kernel
theorem d_lw_law_602 : decode m_lw_law.2.1 602 = .ok (.iadd, 1) := by decide +kernel
theorem d_lw_law_603 : decode m_lw_law.2.1 603 = .ok (.iaload, 1) := by decide +kernel
theorem d_lw_law_604 : decode m_lw_law.2.1 604 = .ok (.aload_n 0, 1) := by decide +kernel
theorem d_lw_law_605 : decode m_lw_law.2.1 605 = .ok (.iload 4, 2) := by decide +kernel
theorem d_lw_law_607 : decode m_lw_law.2.1 607 = .ok (.iconst 2, 1) := by decide +kernel
theorem d_lw_law_608 : decode m_lw_law.2.1 608 = .ok (.iadd, 1) := by decide +kernel
theorem d_lw_law_609 : decode m_lw_law.2.1 609 = .ok (.iaload, 1) := by decide +kernel
theorem d_lw_law_610 : decode m_lw_law.2.1 610 = .ok (.aload_n 0, 1) := by decide +kernel
theorem d_lw_law_611 : decode m_lw_law.2.1 611 = .ok (.iload 4, 2) := by decide +kernel
theorem d_lw_law_613 : decode m_lw_law.2.1 613 = .ok (.iconst 3, 1) := by decide +kernel
theorem d_lw_law_614 : decode m_lw_law.2.1 614 = .ok (.iadd, 1) := by decide +kernel
theorem d_lw_law_615 : decode m_lw_law.2.1 615 = .ok (.iaload, 1) := by decide +kernel
theorem d_lw_law_616 : decode m_lw_law.2.1 616 = .ok (.invokevirtual 117, 3) := by decide +kernel
theorem d_lw_law_619 : decode m_lw_law.2.1 619 = .ok (.istore 6, 2) := by decide +kernel
theorem d_lw_law_621 : decode m_lw_law.2.1 621 = .ok (.aload_n 2, 1) := by decide +kernel
theorem d_lw_law_622 : decode m_lw_law.2.1 622 = .ok (.invokevirtual 94, 3) := by decide +kernel
theorem d_lw_law_625 : decode m_lw_law.2.1 625 = .ok (.iload 5, 2) := by decide +kernel
theorem d_lw_law_627 : decode m_lw_law.2.1 627 = .ok (.if_icmp .eq (5), 3) := by decide +kernel
theorem d_lw_law_630 : decode m_lw_law.2.1 630 = .ok (.iconst 0, 1) := by decide +kernel
theorem d_lw_law_631 : decode m_lw_law.2.1 631 = .ok (.ireturn, 1) := by decide +kernel
theorem d_lw_law_632 : decode m_lw_law.2.1 632 = .ok (.iload 5, 2) := by decide +kernel
theorem d_lw_law_634 : decode m_lw_law.2.1 634 = .ok (.ifCond .ne (15), 3) := by decide +kernel
theorem d_lw_law_637 : decode m_lw_law.2.1 637 = .ok (.aload_n 3, 1) := by decide +kernel
theorem d_lw_law_638 : decode m_lw_law.2.1 638 = .ok (.iconst 0, 1) := by decide +kernel
theorem d_lw_law_639 : decode m_lw_law.2.1 639 = .ok (.laload, 1) := by decide +kernel
theorem d_lw_law_640 : decode m_lw_law.2.1 640 = .ok (.iload 6, 2) := by decide +kernel
theorem d_lw_law_642 : decode m_lw_law.2.1 642 = .ok (.i2l, 1) := by decide +kernel
theorem d_lw_law_643 : decode m_lw_law.2.1 643 = .ok (.lcmp, 1) := by decide +kernel
theorem d_lw_law_644 : decode m_lw_law.2.1 644 = .ok (.ifCond .eq (5), 3) := by decide +kernel
theorem d_lw_law_647 : decode m_lw_law.2.1 647 = .ok (.iconst 0, 1) := by decide +kernel
theorem d_lw_law_648 : decode m_lw_law.2.1 648 = .ok (.ireturn, 1) := by decide +kernel
theorem d_lw_law_649 : decode m_lw_law.2.1 649 = .ok (.goto 854, 3) := by decide +kernel
theorem d_lw_law_652 : decode m_lw_law.2.1 652 = .ok (.aload_n 1, 1) := by decide +kernel
theorem d_lw_law_653 : decode m_lw_law.2.1 653 = .ok (.aload_n 0, 1) := by decide +kernel
theorem d_lw_law_654 : decode m_lw_law.2.1 654 = .ok (.iload 4, 2) := by decide +kernel
theorem d_lw_law_656 : decode m_lw_law.2.1 656 = .ok (.iconst 1, 1) := by decide +kernel
theorem d_lw_law_657 : decode m_lw_law.2.1 657 = .ok (.iadd, 1) := by decide +kernel
theorem d_lw_law_658 : decode m_lw_law.2.1 658 = .ok (.iaload, 1) := by decide +kernel
theorem d_lw_law_659 : decode m_lw_law.2.1 659 = .ok (.aload_n 0, 1) := by decide +kernel
theorem d_lw_law_660 : decode m_lw_law.2.1 660 = .ok (.iload 4, 2) := by decide +kernel
theorem d_lw_law_662 : decode m_lw_law.2.1 662 = .ok (.iconst 2, 1) := by decide +kernel
theorem d_lw_law_663 : decode m_lw_law.2.1 663 = .ok (.iadd, 1) := by decide +kernel
theorem d_lw_law_664 : decode m_lw_law.2.1 664 = .ok (.iaload, 1) := by decide +kernel
theorem d_lw_law_665 : decode m_lw_law.2.1 665 = .ok (.aload_n 0, 1) := by decide +kernel
theorem d_lw_law_666 : decode m_lw_law.2.1 666 = .ok (.iload 4, 2) := by decide +kernel
theorem d_lw_law_668 : decode m_lw_law.2.1 668 = .ok (.iconst 3, 1) := by decide +kernel
theorem d_lw_law_669 : decode m_lw_law.2.1 669 = .ok (.iadd, 1) := by decide +kernel
theorem d_lw_law_670 : decode m_lw_law.2.1 670 = .ok (.iaload, 1) := by decide +kernel
theorem d_lw_law_671 : decode m_lw_law.2.1 671 = .ok (.ifCond .eq (7), 3) := by decide +kernel
theorem d_lw_law_674 : decode m_lw_law.2.1 674 = .ok (.iconst 1, 1) := by decide +kernel
theorem d_lw_law_675 : decode m_lw_law.2.1 675 = .ok (.goto 4, 3) := by decide +kernel
theorem d_lw_law_678 : decode m_lw_law.2.1 678 = .ok (.iconst 0, 1) := by decide +kernel
theorem d_lw_law_679 : decode m_lw_law.2.1 679 = .ok (.aload_n 3, 1) := by decide +kernel
theorem d_lw_law_680 : decode m_lw_law.2.1 680 = .ok (.invokestatic 118, 3) := by decide +kernel
theorem d_lw_law_683 : decode m_lw_law.2.1 683 = .ok (.istore 5, 2) := by decide +kernel
theorem d_lw_law_685 : decode m_lw_law.2.1 685 = .ok (.aload_n 2, 1) := by decide +kernel
theorem d_lw_law_686 : decode m_lw_law.2.1 686 = .ok (.aload_n 0, 1) := by decide +kernel
theorem d_lw_law_687 : decode m_lw_law.2.1 687 = .ok (.iload 4, 2) := by decide +kernel
theorem d_lw_law_689 : decode m_lw_law.2.1 689 = .ok (.iconst 1, 1) := by decide +kernel
theorem d_lw_law_690 : decode m_lw_law.2.1 690 = .ok (.iadd, 1) := by decide +kernel
theorem d_lw_law_691 : decode m_lw_law.2.1 691 = .ok (.iaload, 1) := by decide +kernel
theorem d_lw_law_692 : decode m_lw_law.2.1 692 = .ok (.aload_n 0, 1) := by decide +kernel
theorem d_lw_law_693 : decode m_lw_law.2.1 693 = .ok (.iload 4, 2) := by decide +kernel
theorem d_lw_law_695 : decode m_lw_law.2.1 695 = .ok (.iconst 2, 1) := by decide +kernel
theorem d_lw_law_696 : decode m_lw_law.2.1 696 = .ok (.iadd, 1) := by decide +kernel
theorem d_lw_law_697 : decode m_lw_law.2.1 697 = .ok (.iaload, 1) := by decide +kernel
theorem d_lw_law_698 : decode m_lw_law.2.1 698 = .ok (.aload_n 0, 1) := by decide +kernel
theorem d_lw_law_699 : decode m_lw_law.2.1 699 = .ok (.iload 4, 2) := by decide +kernel
theorem d_lw_law_701 : decode m_lw_law.2.1 701 = .ok (.iconst 3, 1) := by decide +kernel
theorem d_lw_law_702 : decode m_lw_law.2.1 702 = .ok (.iadd, 1) := by decide +kernel
theorem d_lw_law_703 : decode m_lw_law.2.1 703 = .ok (.iaload, 1) := by decide +kernel
theorem d_lw_law_704 : decode m_lw_law.2.1 704 = .ok (.ifCond .eq (7), 3) := by decide +kernel
theorem d_lw_law_707 : decode m_lw_law.2.1 707 = .ok (.iconst 1, 1) := by decide +kernel
theorem d_lw_law_708 : decode m_lw_law.2.1 708 = .ok (.goto 4, 3) := by decide +kernel
theorem d_lw_law_711 : decode m_lw_law.2.1 711 = .ok (.iconst 0, 1) := by decide +kernel
theorem d_lw_law_712 : decode m_lw_law.2.1 712 = .ok (.invokevirtual 121, 3) := by decide +kernel
theorem d_lw_law_715 : decode m_lw_law.2.1 715 = .ok (.istore 6, 2) := by decide +kernel
theorem d_lw_law_717 : decode m_lw_law.2.1 717 = .ok (.aload_n 2, 1) := by decide +kernel
theorem d_lw_law_718 : decode m_lw_law.2.1 718 = .ok (.invokevirtual 94, 3) := by decide +kernel
theorem d_lw_law_721 : decode m_lw_law.2.1 721 = .ok (.iload 5, 2) := by decide +kernel
theorem d_lw_law_723 : decode m_lw_law.2.1 723 = .ok (.if_icmp .eq (5), 3) := by decide +kernel
theorem d_lw_law_726 : decode m_lw_law.2.1 726 = .ok (.iconst 0, 1) := by decide +kernel
theorem d_lw_law_727 : decode m_lw_law.2.1 727 = .ok (.ireturn, 1) := by decide +kernel
theorem d_lw_law_728 : decode m_lw_law.2.1 728 = .ok (.iload 5, 2) := by decide +kernel
theorem d_lw_law_730 : decode m_lw_law.2.1 730 = .ok (.ifCond .ne (15), 3) := by decide +kernel
theorem d_lw_law_733 : decode m_lw_law.2.1 733 = .ok (.aload_n 3, 1) := by decide +kernel
theorem d_lw_law_734 : decode m_lw_law.2.1 734 = .ok (.iconst 0, 1) := by decide +kernel
theorem d_lw_law_735 : decode m_lw_law.2.1 735 = .ok (.laload, 1) := by decide +kernel
theorem d_lw_law_736 : decode m_lw_law.2.1 736 = .ok (.iload 6, 2) := by decide +kernel
theorem d_lw_law_738 : decode m_lw_law.2.1 738 = .ok (.i2l, 1) := by decide +kernel
theorem d_lw_law_739 : decode m_lw_law.2.1 739 = .ok (.lcmp, 1) := by decide +kernel
theorem d_lw_law_740 : decode m_lw_law.2.1 740 = .ok (.ifCond .eq (5), 3) := by decide +kernel
theorem d_lw_law_743 : decode m_lw_law.2.1 743 = .ok (.iconst 0, 1) := by decide +kernel
theorem d_lw_law_744 : decode m_lw_law.2.1 744 = .ok (.ireturn, 1) := by decide +kernel
theorem d_lw_law_745 : decode m_lw_law.2.1 745 = .ok (.goto 758, 3) := by decide +kernel
theorem d_lw_law_748 : decode m_lw_law.2.1 748 = .ok (.aload_n 1, 1) := by decide +kernel
theorem d_lw_law_749 : decode m_lw_law.2.1 749 = .ok (.aload_n 0, 1) := by decide +kernel
theorem d_lw_law_750 : decode m_lw_law.2.1 750 = .ok (.iload 4, 2) := by decide +kernel
theorem d_lw_law_752 : decode m_lw_law.2.1 752 = .ok (.iconst 1, 1) := by decide +kernel
theorem d_lw_law_753 : decode m_lw_law.2.1 753 = .ok (.iadd, 1) := by decide +kernel
theorem d_lw_law_754 : decode m_lw_law.2.1 754 = .ok (.iaload, 1) := by decide +kernel
theorem d_lw_law_755 : decode m_lw_law.2.1 755 = .ok (.aload_n 0, 1) := by decide +kernel
theorem d_lw_law_756 : decode m_lw_law.2.1 756 = .ok (.iload 4, 2) := by decide +kernel
theorem d_lw_law_758 : decode m_lw_law.2.1 758 = .ok (.iconst 2, 1) := by decide +kernel
theorem d_lw_law_759 : decode m_lw_law.2.1 759 = .ok (.iadd, 1) := by decide +kernel
theorem d_lw_law_760 : decode m_lw_law.2.1 760 = .ok (.iaload, 1) := by decide +kernel
theorem d_lw_law_761 : decode m_lw_law.2.1 761 = .ok (.aload_n 0, 1) := by decide +kernel
theorem d_lw_law_762 : decode m_lw_law.2.1 762 = .ok (.iload 4, 2) := by decide +kernel
theorem d_lw_law_764 : decode m_lw_law.2.1 764 = .ok (.iconst 3, 1) := by decide +kernel
theorem d_lw_law_765 : decode m_lw_law.2.1 765 = .ok (.iadd, 1) := by decide +kernel
theorem d_lw_law_766 : decode m_lw_law.2.1 766 = .ok (.iaload, 1) := by decide +kernel
theorem d_lw_law_767 : decode m_lw_law.2.1 767 = .ok (.ifCond .eq (7), 3) := by decide +kernel
theorem d_lw_law_770 : decode m_lw_law.2.1 770 = .ok (.iconst 1, 1) := by decide +kernel
theorem d_lw_law_771 : decode m_lw_law.2.1 771 = .ok (.goto 4, 3) := by decide +kernel
theorem d_lw_law_774 : decode m_lw_law.2.1 774 = .ok (.iconst 0, 1) := by decide +kernel
theorem d_lw_law_775 : decode m_lw_law.2.1 775 = .ok (.aload_n 3, 1) := by decide +kernel
theorem d_lw_law_776 : decode m_lw_law.2.1 776 = .ok (.invokestatic 122, 3) := by decide +kernel
