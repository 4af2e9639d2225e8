theorem d_Lw_law_0 : decode code 0 = .ok (.new 8, 3) := by decide +kernel
theorem d_Lw_law_3 : decode code 3 = .ok (.dup, 1) := by decide +kernel
theorem d_Lw_law_4 : decode code 4 = .ok (.aload_n 0, 1) := by decide +kernel
theorem d_Lw_law_5 : decode code 5 = .ok (.iconst 0, 1) := by decide +kernel
theorem d_Lw_law_6 : decode code 6 = .ok (.invokestatic 76, 3) := by decide +kernel
theorem d_Lw_law_9 : decode code 9 = .ok (.aload_n 0, 1) := by decide +kernel
theorem d_Lw_law_10 : decode code 10 = .ok (.iconst 1, 1) := by decide +kernel
theorem d_Lw_law_11 : decode code 11 = .ok (.invokestatic 76, 3) := by decide +kernel
theorem d_Lw_law_14 : decode code 14 = .ok (.invokespecial 82, 3) := by decide +kernel
theorem d_Lw_law_17 : decode code 17 = .ok (.astore_n 1, 1) := by decide +kernel
theorem d_Lw_law_18 : decode code 18 = .ok (.new 84, 3) := by decide +kernel
theorem d_Lw_law_21 : decode code 21 = .ok (.dup, 1) := by decide +kernel
theorem d_Lw_law_22 : decode code 22 = .ok (.aload_n 0, 1) := by decide +kernel
theorem d_Lw_law_23 : decode code 23 = .ok (.iconst 0, 1) := by decide +kernel
theorem d_Lw_law_24 : decode code 24 = .ok (.invokestatic 76, 3) := by decide +kernel
theorem d_Lw_law_27 : decode code 27 = .ok (.aload_n 0, 1) := by decide +kernel
theorem d_Lw_law_28 : decode code 28 = .ok (.iconst 1, 1) := by decide +kernel
theorem d_Lw_law_29 : decode code 29 = .ok (.invokestatic 76, 3) := by decide +kernel
theorem d_Lw_law_32 : decode code 32 = .ok (.invokespecial 86, 3) := by decide +kernel
theorem d_Lw_law_35 : decode code 35 = .ok (.astore_n 2, 1) := by decide +kernel
theorem d_Lw_law_36 : decode code 36 = .ok (.iconst 1, 1) := by decide +kernel
theorem d_Lw_law_37 : decode code 37 = .ok (.newarray .long, 2) := by decide +kernel
theorem d_Lw_law_39 : decode code 39 = .ok (.astore_n 3, 1) := by decide +kernel
theorem d_Lw_law_40 : decode code 40 = .ok (.iconst 2, 1) := by decide +kernel
theorem d_Lw_law_41 : decode code 41 = .ok (.istore 4, 2) := by decide +kernel
theorem d_Lw_law_43 : decode code 43 = .ok (.iload 4, 2) := by decide +kernel
theorem d_Lw_law_45 : decode code 45 = .ok (.aload_n 0, 1) := by decide +kernel
theorem d_Lw_law_46 : decode code 46 = .ok (.arraylength, 1) := by decide +kernel
theorem d_Lw_law_47 : decode code 47 = .ok (.iconst 4, 1) := by decide +kernel
theorem d_Lw_law_48 : decode code 48 = .ok (.isub, 1) := by decide +kernel
theorem d_Lw_law_49 : decode code 49 = .ok (.if_icmp .gt (1273), 3) := by decide +kernel
theorem d_Lw_law_52 : decode code 52 = .ok (.aload_n 0, 1) := by decide +kernel
theorem d_Lw_law_53 : decode code 53 = .ok (.iload 4, 2) := by decide +kernel
theorem d_Lw_law_55 : decode code 55 = .ok (.iaload, 1) := by decide +kernel
theorem d_Lw_law_56 : decode code 56 = .ok (.bipush 31, 2) := by decide +kernel
theorem d_Lw_law_58 : decode code 58 = .ok (.iand, 1) := by decide +kernel
theorem d_Lw_law_59 : decode code 59 = .ok (.tableswitch (1257) 0 19 #[93, 141, 221, 289, 357, 413, 469, 482, 550, 606, 662, 725, 761, 817, 897, 977, 1033, 1101, 1169, 1244], 93) := by decide +kernel
theorem d_Lw_law_152 : decode code 152 = .ok (.aload_n 1, 1) := by decide +kernel
theorem d_Lw_law_153 : decode code 153 = .ok (.aload_n 0, 1) := by decide +kernel
theorem d_Lw_law_154 : decode code 154 = .ok (.iload 4, 2) := by decide +kernel
theorem d_Lw_law_156 : decode code 156 = .ok (.iconst 1, 1) := by decide +kernel
theorem d_Lw_law_157 : decode code 157 = .ok (.iadd, 1) := by decide +kernel
theorem d_Lw_law_158 : decode code 158 = .ok (.iaload, 1) := by decide +kernel
theorem d_Lw_law_159 : decode code 159 = .ok (.aload_n 0, 1) := by decide +kernel
theorem d_Lw_law_160 : decode code 160 = .ok (.iload 4, 2) := by decide +kernel
theorem d_Lw_law_162 : decode code 162 = .ok (.iconst 2, 1) := by decide +kernel
theorem d_Lw_law_163 : decode code 163 = .ok (.iadd, 1) := by decide +kernel
theorem d_Lw_law_164 : decode code 164 = .ok (.iaload, 1) := by decide +kernel
theorem d_Lw_law_165 : decode code 165 = .ok (.invokestatic 87, 3) := by decide +kernel
theorem d_Lw_law_168 : decode code 168 = .ok (.istore 5, 2) := by decide +kernel
theorem d_Lw_law_170 : decode code 170 = .ok (.aload_n 2, 1) := by decide +kernel
theorem d_Lw_law_171 : decode code 171 = .ok (.aload_n 0, 1) := by decide +kernel
theorem d_Lw_law_172 : decode code 172 = .ok (.iload 4, 2) := by decide +kernel
theorem d_Lw_law_174 : decode code 174 = .ok (.iconst 1, 1) := by decide +kernel
theorem d_Lw_law_175 : decode code 175 = .ok (.iadd, 1) := by decide +kernel
theorem d_Lw_law_176 : decode code 176 = .ok (.iaload, 1) := by decide +kernel
theorem d_Lw_law_177 : decode code 177 = .ok (.aload_n 0, 1) := by decide +kernel
theorem d_Lw_law_178 : decode code 178 = .ok (.iload 4, 2) := by decide +kernel
theorem d_Lw_law_180 : decode code 180 = .ok (.iconst 2, 1) := by decide +kernel
theorem d_Lw_law_181 : decode code 181 = .ok (.iadd, 1) := by decide +kernel
theorem d_Lw_law_182 : decode code 182 = .ok (.iaload, 1) := by decide +kernel
theorem d_Lw_law_183 : decode code 183 = .ok (.invokevirtual 90, 3) := by decide +kernel
theorem d_Lw_law_186 : decode code 186 = .ok (.aload_n 2, 1) := by decide +kernel
theorem d_Lw_law_187 : decode code 187 = .ok (.invokevirtual 91, 3) := by decide +kernel
theorem d_Lw_law_190 : decode code 190 = .ok (.iload 5, 2) := by decide +kernel
theorem d_Lw_law_192 : decode code 192 = .ok (.if_icmp .eq (5), 3) := by decide +kernel
theorem d_Lw_law_195 : decode code 195 = .ok (.iconst 0, 1) := by decide +kernel
theorem d_Lw_law_196 : decode code 196 = .ok (.ireturn, 1) := by decide +kernel
theorem d_Lw_law_197 : decode code 197 = .ok (.goto (1119), 3) := by decide +kernel
theorem d_Lw_law_200 : decode code 200 = .ok (.aload_n 1, 1) := by decide +kernel
theorem d_Lw_law_201 : decode code 201 = .ok (.aload_n 0, 1) := by decide +kernel
theorem d_Lw_law_202 : decode code 202 = .ok (.iload 4, 2) := by decide +kernel
theorem d_Lw_law_204 : decode code 204 = .ok (.iconst 1, 1) := by decide +kernel
theorem d_Lw_law_205 : decode code 205 = .ok (.iadd, 1) := by decide +kernel
theorem d_Lw_law_206 : decode code 206 = .ok (.iaload, 1) := by decide +kernel
theorem d_Lw_law_207 : decode code 207 = .ok (.aload_n 0, 1) := by decide +kernel
theorem d_Lw_law_208 : decode code 208 = .ok (.iload 4, 2) := by decide +kernel
theorem d_Lw_law_210 : decode code 210 = .ok (.iconst 2, 1) := by decide +kernel
theorem d_Lw_law_211 : decode code 211 = .ok (.iadd, 1) := by decide +kernel
theorem d_Lw_law_212 : decode code 212 = .ok (.iaload, 1) := by decide +kernel
theorem d_Lw_law_213 : decode code 213 = .ok (.aload_n 0, 1) := by decide +kernel
theorem d_Lw_law_214 : decode code 214 = .ok (.iload 4, 2) := by decide +kernel
theorem d_Lw_law_216 : decode code 216 = .ok (.iconst 3, 1) := by decide +kernel
theorem d_Lw_law_217 : decode code 217 = .ok (.iadd, 1) := by decide +kernel
theorem d_Lw_law_218 : decode code 218 = .ok (.iaload, 1) := by decide +kernel
theorem d_Lw_law_219 : decode code 219 = .ok (.aload_n 3, 1) := by decide +kernel
theorem d_Lw_law_220 : decode code 220 = .ok (.invokestatic 95, 3) := by decide +kernel
theorem d_Lw_law_223 : decode code 223 = .ok (.istore 5, 2) := by decide +kernel
theorem d_Lw_law_225 : decode code 225 = .ok (.aload_n 2, 1) := by decide +kernel
theorem d_Lw_law_226 : decode code 226 = .ok (.aload_n 0, 1) := by decide +kernel
theorem d_Lw_law_227 : decode code 227 = .ok (.iload 4, 2) := by decide +kernel
theorem d_Lw_law_229 : decode code 229 = .ok (.iconst 1, 1) := by decide +kernel
theorem d_Lw_law_230 : decode code 230 = .ok (.iadd, 1) := by decide +kernel
theorem d_Lw_law_231 : decode code 231 = .ok (.iaload, 1) := by decide +kernel
theorem d_Lw_law_232 : decode code 232 = .ok (.aload_n 0, 1) := by decide +kernel
theorem d_Lw_law_233 : decode code 233 = .ok (.iload 4, 2) := by decide +kernel
theorem d_Lw_law_235 : decode code 235 = .ok (.iconst 2, 1) := by decide +kernel
theorem d_Lw_law_236 : decode code 236 = .ok (.iadd, 1) := by decide +kernel
theorem d_Lw_law_237 : decode code 237 = .ok (.iaload, 1) := by decide +kernel
theorem d_Lw_law_238 : decode code 238 = .ok (.aload_n 0, 1) := by decide +kernel
theorem d_Lw_law_239 : decode code 239 = .ok (.iload 4, 2) := by decide +kernel
theorem d_Lw_law_241 : decode code 241 = .ok (.iconst 3, 1) := by decide +kernel
theorem d_Lw_law_242 : decode code 242 = .ok (.iadd, 1) := by decide +kernel
theorem d_Lw_law_243 : decode code 243 = .ok (.iaload, 1) := by decide +kernel
theorem d_Lw_law_244 : decode code 244 = .ok (.invokevirtual 98, 3) := by decide +kernel
theorem d_Lw_law_247 : decode code 247 = .ok (.istore 6, 2) := by decide +kernel
theorem d_Lw_law_249 : decode code 249 = .ok (.aload_n 2, 1) := by decide +kernel
theorem d_Lw_law_250 : decode code 250 = .ok (.invokevirtual 91, 3) := by decide +kernel
theorem d_Lw_law_253 : decode code 253 = .ok (.iload 5, 2) := by decide +kernel
theorem d_Lw_law_255 : decode code 255 = .ok (.if_icmp .eq (5), 3) := by decide +kernel
theorem d_Lw_law_258 : decode code 258 = .ok (.iconst 0, 1) := by decide +kernel
theorem d_Lw_law_259 : decode code 259 = .ok (.ireturn, 1) := by decide +kernel
theorem d_Lw_law_260 : decode code 260 = .ok (.iload 5, 2) := by decide +kernel
theorem d_Lw_law_262 : decode code 262 = .ok (.ifCond .ne (15), 3) := by decide +kernel
theorem d_Lw_law_265 : decode code 265 = .ok (.aload_n 3, 1) := by decide +kernel
theorem d_Lw_law_266 : decode code 266 = .ok (.iconst 0, 1) := by decide +kernel
theorem d_Lw_law_267 : decode code 267 = .ok (.laload, 1) := by decide +kernel
theorem d_Lw_law_268 : decode code 268 = .ok (.iload 6, 2) := by decide +kernel
theorem d_Lw_law_270 : decode code 270 = .ok (.i2l, 1) := by decide +kernel
theorem d_Lw_law_271 : decode code 271 = .ok (.lcmp, 1) := by decide +kernel
theorem d_Lw_law_272 : decode code 272 = .ok (.ifCond .eq (5), 3) := by decide +kernel
theorem d_Lw_law_275 : decode code 275 = .ok (.iconst 0, 1) := by decide +kernel
theorem d_Lw_law_276 : decode code 276 = .ok (.ireturn, 1) := by decide +kernel
theorem d_Lw_law_277 : decode code 277 = .ok (.goto (1039), 3) := by decide +kernel
theorem d_Lw_law_280 : decode code 280 = .ok (.aload_n 1, 1) := by decide +kernel
theorem d_Lw_law_281 : decode code 281 = .ok (.aload_n 0, 1) := by decide +kernel
theorem d_Lw_law_282 : decode code 282 = .ok (.iload 4, 2) := by decide +kernel
theorem d_Lw_law_284 : decode code 284 = .ok (.iconst 1, 1) := by decide +kernel
theorem d_Lw_law_285 : decode code 285 = .ok (.iadd, 1) := by decide +kernel
theorem d_Lw_law_286 : decode code 286 = .ok (.iaload, 1) := by decide +kernel
theorem d_Lw_law_287 : decode code 287 = .ok (.aload_n 0, 1) := by decide +kernel
theorem d_Lw_law_288 : decode code 288 = .ok (.iload 4, 2) := by decide +kernel
theorem d_Lw_law_290 : decode code 290 = .ok (.iconst 2, 1) := by decide +kernel
theorem d_Lw_law_291 : decode code 291 = .ok (.iadd, 1) := by decide +kernel
theorem d_Lw_law_292 : decode code 292 = .ok (.iaload, 1) := by decide +kernel
theorem d_Lw_law_293 : decode code 293 = .ok (.aload_n 3, 1) := by decide +kernel
theorem d_Lw_law_294 : decode code 294 = .ok (.invokestatic 99, 3) := by decide +kernel
theorem d_Lw_law_297 : decode code 297 = .ok (.istore 5, 2) := by decide +kernel
theorem d_Lw_law_299 : decode code 299 = .ok (.aload_n 2, 1) := by decide +kernel
theorem d_Lw_law_300 : decode code 300 = .ok (.aload_n 0, 1) := by decide +kernel
theorem d_Lw_law_301 : decode code 301 = .ok (.iload 4, 2) := by decide +kernel
theorem d_Lw_law_303 : decode code 303 = .ok (.iconst 1, 1) := by decide +kernel
theorem d_Lw_law_304 : decode code 304 = .ok (.iadd, 1) := by decide +kernel
theorem d_Lw_law_305 : decode code 305 = .ok (.iaload, 1) := by decide +kernel
theorem d_Lw_law_306 : decode code 306 = .ok (.aload_n 0, 1) := by decide +kernel
theorem d_Lw_law_307 : decode code 307 = .ok (.iload 4, 2) := by decide +kernel
theorem d_Lw_law_309 : decode code 309 = .ok (.iconst 2, 1) := by decide +kernel
theorem d_Lw_law_310 : decode code 310 = .ok (.iadd, 1) := by decide +kernel
theorem d_Lw_law_311 : decode code 311 = .ok (.iaload, 1) := by decide +kernel
theorem d_Lw_law_312 : decode code 312 = .ok (.invokevirtual 102, 3) := by decide +kernel
theorem d_Lw_law_315 : decode code 315 = .ok (.istore 6, 2) := by decide +kernel
theorem d_Lw_law_317 : decode code 317 = .ok (.aload_n 2, 1) := by decide +kernel
theorem d_Lw_law_318 : decode code 318 = .ok (.invokevirtual 91, 3) := by decide +kernel
theorem d_Lw_law_321 : decode code 321 = .ok (.iload 5, 2) := by decide +kernel
theorem d_Lw_law_323 : decode code 323 = .ok (.if_icmp .eq (5), 3) := by decide +kernel
theorem d_Lw_law_326 : decode code 326 = .ok (.iconst 0, 1) := by decide +kernel
theorem d_Lw_law_327 : decode code 327 = .ok (.ireturn, 1) := by decide +kernel
theorem d_Lw_law_328 : decode code 328 = .ok (.iload 5, 2) := by decide +kernel
theorem d_Lw_law_330 : decode code 330 = .ok (.ifCond .ne (15), 3) := by decide +kernel
theorem d_Lw_law_333 : decode code 333 = .ok (.aload_n 3, 1) := by decide +kernel
theorem d_Lw_law_334 : decode code 334 = .ok (.iconst 0, 1) := by decide +kernel
theorem d_Lw_law_335 : decode code 335 = .ok (.laload, 1) := by decide +kernel
theorem d_Lw_law_336 : decode code 336 = .ok (.iload 6, 2) := by decide +kernel
theorem d_Lw_law_338 : decode code 338 = .ok (.i2l, 1) := by decide +kernel
theorem d_Lw_law_339 : decode code 339 = .ok (.lcmp, 1) := by decide +kernel
theorem d_Lw_law_340 : decode code 340 = .ok (.ifCond .eq (5), 3) := by decide +kernel
theorem d_Lw_law_343 : decode code 343 = .ok (.iconst 0, 1) := by decide +kernel
theorem d_Lw_law_344 : decode code 344 = .ok (.ireturn, 1) := by decide +kernel
theorem d_Lw_law_345 : decode code 345 = .ok (.goto (971), 3) := by decide +kernel
theorem d_Lw_law_348 : decode code 348 = .ok (.aload_n 1, 1) := by decide +kernel
theorem d_Lw_law_349 : decode code 349 = .ok (.aload_n 0, 1) := by decide +kernel
theorem d_Lw_law_350 : decode code 350 = .ok (.iload 4, 2) := by decide +kernel
theorem d_Lw_law_352 : decode code 352 = .ok (.iconst 1, 1) := by decide +kernel
theorem d_Lw_law_353 : decode code 353 = .ok (.iadd, 1) := by decide +kernel
theorem d_Lw_law_354 : decode code 354 = .ok (.iaload, 1) := by decide +kernel
theorem d_Lw_law_355 : decode code 355 = .ok (.aload_n 0, 1) := by decide +kernel
theorem d_Lw_law_356 : decode code 356 = .ok (.iload 4, 2) := by decide +kernel
theorem d_Lw_law_358 : decode code 358 = .ok (.iconst 2, 1) := by decide +kernel
theorem d_Lw_law_359 : decode code 359 = .ok (.iadd, 1) := by decide +kernel
theorem d_Lw_law_360 : decode code 360 = .ok (.iaload, 1) := by decide +kernel
theorem d_Lw_law_361 : decode code 361 = .ok (.aload_n 3, 1) := by decide +kernel
theorem d_Lw_law_362 : decode code 362 = .ok (.invokestatic 103, 3) := by decide +kernel
theorem d_Lw_law_365 : decode code 365 = .ok (.istore 5, 2) := by decide +kernel
theorem d_Lw_law_367 : decode code 367 = .ok (.aload_n 2, 1) := by decide +kernel
theorem d_Lw_law_368 : decode code 368 = .ok (.aload_n 0, 1) := by decide +kernel
theorem d_Lw_law_369 : decode code 369 = .ok (.iload 4, 2) := by decide +kernel
theorem d_Lw_law_371 : decode code 371 = .ok (.iconst 1, 1) := by decide +kernel
theorem d_Lw_law_372 : decode code 372 = .ok (.iadd, 1) := by decide +kernel
theorem d_Lw_law_373 : decode code 373 = .ok (.iaload, 1) := by decide +kernel
theorem d_Lw_law_374 : decode code 374 = .ok (.aload_n 0, 1) := by decide +kernel
theorem d_Lw_law_375 : decode code 375 = .ok (.iload 4, 2) := by decide +kernel
theorem d_Lw_law_377 : decode code 377 = .ok (.iconst 2, 1) := by decide +kernel
theorem d_Lw_law_378 : decode code 378 = .ok (.iadd, 1) := by decide +kernel
theorem d_Lw_law_379 : decode code 379 = .ok (.iaload, 1) := by decide +kernel
theorem d_Lw_law_380 : decode code 380 = .ok (.invokevirtual 105, 3) := by decide +kernel
theorem d_Lw_law_383 : decode code 383 = .ok (.istore 6, 2) := by decide +kernel
theorem d_Lw_law_385 : decode code 385 = .ok (.aload_n 2, 1) := by decide +kernel
theorem d_Lw_law_386 : decode code 386 = .ok (.invokevirtual 91, 3) := by decide +kernel
theorem d_Lw_law_389 : decode code 389 = .ok (.iload 5, 2) := by decide +kernel
theorem d_Lw_law_391 : decode code 391 = .ok (.if_icmp .eq (5), 3) := by decide +kernel
