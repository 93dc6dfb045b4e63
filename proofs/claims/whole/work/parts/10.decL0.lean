theorem dLw_law_0 : decode mLw_law.2.1 0 = .ok (.new 7, 3) := by decide +kernel
theorem dLw_law_3 : decode mLw_law.2.1 3 = .ok (.dup, 1) := by decide +kernel
theorem dLw_law_4 : decode mLw_law.2.1 4 = .ok (.invokespecial 9, 3) := by decide +kernel
theorem dLw_law_7 : decode mLw_law.2.1 7 = .ok (.astore_n 1, 1) := by decide +kernel
theorem dLw_law_8 : decode mLw_law.2.1 8 = .ok (.new 10, 3) := by decide +kernel
theorem dLw_law_11 : decode mLw_law.2.1 11 = .ok (.dup, 1) := by decide +kernel
theorem dLw_law_12 : decode mLw_law.2.1 12 = .ok (.invokespecial 12, 3) := by decide +kernel
theorem dLw_law_15 : decode mLw_law.2.1 15 = .ok (.astore_n 2, 1) := by decide +kernel
theorem dLw_law_16 : decode mLw_law.2.1 16 = .ok (.iconst 0, 1) := by decide +kernel
theorem dLw_law_17 : decode mLw_law.2.1 17 = .ok (.istore_n 3, 1) := by decide +kernel
theorem dLw_law_18 : decode mLw_law.2.1 18 = .ok (.iload_n 3, 1) := by decide +kernel
theorem dLw_law_19 : decode mLw_law.2.1 19 = .ok (.aload_n 0, 1) := by decide +kernel
theorem dLw_law_20 : decode mLw_law.2.1 20 = .ok (.arraylength, 1) := by decide +kernel
theorem dLw_law_21 : decode mLw_law.2.1 21 = .ok (.iconst 5, 1) := by decide +kernel
theorem dLw_law_22 : decode mLw_law.2.1 22 = .ok (.isub, 1) := by decide +kernel
theorem dLw_law_23 : decode mLw_law.2.1 23 = .ok (.if_icmp .gt 1151, 3) := by decide +kernel
theorem dLw_law_26 : decode mLw_law.2.1 26 = .ok (.aload_n 0, 1) := by decide +kernel
theorem dLw_law_27 : decode mLw_law.2.1 27 = .ok (.iload_n 3, 1) := by decide +kernel
theorem dLw_law_28 : decode mLw_law.2.1 28 = .ok (.iaload, 1) := by decide +kernel
theorem dLw_law_29 : decode mLw_law.2.1 29 = .ok (.bipush 31, 2) := by decide +kernel
theorem dLw_law_31 : decode mLw_law.2.1 31 = .ok (.iand, 1) := by decide +kernel
theorem dLw_law_32 : decode mLw_law.2.1 32 = .ok (.tableswitch 1136 0 23 #[112, 185, 198, 271, 344, 408, 457, 520, 554, 598, 642, 675, 698, 731, 754, 777, 790, 833, 856, 929, 1002, 1036, 1069, 1112], 112) := by decide +kernel
theorem dLw_law_144 : decode mLw_law.2.1 144 = .ok (.aload_n 1, 1) := by decide +kernel
theorem dLw_law_145 : decode mLw_law.2.1 145 = .ok (.aload_n 0, 1) := by decide +kernel
theorem dLw_law_146 : decode mLw_law.2.1 146 = .ok (.iload_n 3, 1) := by decide +kernel
theorem dLw_law_147 : decode mLw_law.2.1 147 = .ok (.iconst 1, 1) := by decide +kernel
theorem dLw_law_148 : decode mLw_law.2.1 148 = .ok (.iadd, 1) := by decide +kernel
theorem dLw_law_149 : decode mLw_law.2.1 149 = .ok (.iaload, 1) := by decide +kernel
theorem dLw_law_150 : decode mLw_law.2.1 150 = .ok (.i2l, 1) := by decide +kernel
theorem dLw_law_151 : decode mLw_law.2.1 151 = .ok (.bipush 32, 2) := by decide +kernel
theorem dLw_law_153 : decode mLw_law.2.1 153 = .ok (.lshl, 1) := by decide +kernel
theorem dLw_law_154 : decode mLw_law.2.1 154 = .ok (.aload_n 0, 1) := by decide +kernel
theorem dLw_law_155 : decode mLw_law.2.1 155 = .ok (.iload_n 3, 1) := by decide +kernel
theorem dLw_law_156 : decode mLw_law.2.1 156 = .ok (.iconst 2, 1) := by decide +kernel
theorem dLw_law_157 : decode mLw_law.2.1 157 = .ok (.iadd, 1) := by decide +kernel
theorem dLw_law_158 : decode mLw_law.2.1 158 = .ok (.iaload, 1) := by decide +kernel
theorem dLw_law_159 : decode mLw_law.2.1 159 = .ok (.i2l, 1) := by decide +kernel
theorem dLw_law_160 : decode mLw_law.2.1 160 = .ok (.ldc2_w 13, 3) := by decide +kernel
theorem dLw_law_163 : decode mLw_law.2.1 163 = .ok (.land, 1) := by decide +kernel
theorem dLw_law_164 : decode mLw_law.2.1 164 = .ok (.lor, 1) := by decide +kernel
theorem dLw_law_165 : decode mLw_law.2.1 165 = .ok (.aload_n 0, 1) := by decide +kernel
theorem dLw_law_166 : decode mLw_law.2.1 166 = .ok (.iload_n 3, 1) := by decide +kernel
theorem dLw_law_167 : decode mLw_law.2.1 167 = .ok (.iconst 3, 1) := by decide +kernel
theorem dLw_law_168 : decode mLw_law.2.1 168 = .ok (.iadd, 1) := by decide +kernel
theorem dLw_law_169 : decode mLw_law.2.1 169 = .ok (.iaload, 1) := by decide +kernel
theorem dLw_law_170 : decode mLw_law.2.1 170 = .ok (.aload_n 0, 1) := by decide +kernel
theorem dLw_law_171 : decode mLw_law.2.1 171 = .ok (.iload_n 3, 1) := by decide +kernel
theorem dLw_law_172 : decode mLw_law.2.1 172 = .ok (.iconst 4, 1) := by decide +kernel
theorem dLw_law_173 : decode mLw_law.2.1 173 = .ok (.iadd, 1) := by decide +kernel
theorem dLw_law_174 : decode mLw_law.2.1 174 = .ok (.iaload, 1) := by decide +kernel
theorem dLw_law_175 : decode mLw_law.2.1 175 = .ok (.invokevirtual 15, 3) := by decide +kernel
theorem dLw_law_178 : decode mLw_law.2.1 178 = .ok (.aload_n 2, 1) := by decide +kernel
theorem dLw_law_179 : decode mLw_law.2.1 179 = .ok (.aload_n 0, 1) := by decide +kernel
theorem dLw_law_180 : decode mLw_law.2.1 180 = .ok (.iload_n 3, 1) := by decide +kernel
theorem dLw_law_181 : decode mLw_law.2.1 181 = .ok (.iconst 1, 1) := by decide +kernel
theorem dLw_law_182 : decode mLw_law.2.1 182 = .ok (.iadd, 1) := by decide +kernel
theorem dLw_law_183 : decode mLw_law.2.1 183 = .ok (.iaload, 1) := by decide +kernel
theorem dLw_law_184 : decode mLw_law.2.1 184 = .ok (.i2l, 1) := by decide +kernel
theorem dLw_law_185 : decode mLw_law.2.1 185 = .ok (.bipush 32, 2) := by decide +kernel
theorem dLw_law_187 : decode mLw_law.2.1 187 = .ok (.lshl, 1) := by decide +kernel
theorem dLw_law_188 : decode mLw_law.2.1 188 = .ok (.aload_n 0, 1) := by decide +kernel
theorem dLw_law_189 : decode mLw_law.2.1 189 = .ok (.iload_n 3, 1) := by decide +kernel
theorem dLw_law_190 : decode mLw_law.2.1 190 = .ok (.iconst 2, 1) := by decide +kernel
theorem dLw_law_191 : decode mLw_law.2.1 191 = .ok (.iadd, 1) := by decide +kernel
theorem dLw_law_192 : decode mLw_law.2.1 192 = .ok (.iaload, 1) := by decide +kernel
theorem dLw_law_193 : decode mLw_law.2.1 193 = .ok (.i2l, 1) := by decide +kernel
theorem dLw_law_194 : decode mLw_law.2.1 194 = .ok (.ldc2_w 13, 3) := by decide +kernel
theorem dLw_law_197 : decode mLw_law.2.1 197 = .ok (.land, 1) := by decide +kernel
theorem dLw_law_198 : decode mLw_law.2.1 198 = .ok (.lor, 1) := by decide +kernel
theorem dLw_law_199 : decode mLw_law.2.1 199 = .ok (.aload_n 0, 1) := by decide +kernel
theorem dLw_law_200 : decode mLw_law.2.1 200 = .ok (.iload_n 3, 1) := by decide +kernel
theorem dLw_law_201 : decode mLw_law.2.1 201 = .ok (.iconst 3, 1) := by decide +kernel
theorem dLw_law_202 : decode mLw_law.2.1 202 = .ok (.iadd, 1) := by decide +kernel
theorem dLw_law_203 : decode mLw_law.2.1 203 = .ok (.iaload, 1) := by decide +kernel
theorem dLw_law_204 : decode mLw_law.2.1 204 = .ok (.aload_n 0, 1) := by decide +kernel
theorem dLw_law_205 : decode mLw_law.2.1 205 = .ok (.iload_n 3, 1) := by decide +kernel
theorem dLw_law_206 : decode mLw_law.2.1 206 = .ok (.iconst 4, 1) := by decide +kernel
theorem dLw_law_207 : decode mLw_law.2.1 207 = .ok (.iadd, 1) := by decide +kernel
theorem dLw_law_208 : decode mLw_law.2.1 208 = .ok (.iaload, 1) := by decide +kernel
theorem dLw_law_209 : decode mLw_law.2.1 209 = .ok (.invokevirtual 19, 3) := by decide +kernel
theorem dLw_law_212 : decode mLw_law.2.1 212 = .ok (.if_icmp .eq 956, 3) := by decide +kernel
theorem dLw_law_215 : decode mLw_law.2.1 215 = .ok (.iconst 0, 1) := by decide +kernel
theorem dLw_law_216 : decode mLw_law.2.1 216 = .ok (.ireturn, 1) := by decide +kernel
theorem dLw_law_217 : decode mLw_law.2.1 217 = .ok (.aload_n 1, 1) := by decide +kernel
theorem dLw_law_218 : decode mLw_law.2.1 218 = .ok (.invokevirtual 20, 3) := by decide +kernel
theorem dLw_law_221 : decode mLw_law.2.1 221 = .ok (.aload_n 2, 1) := by decide +kernel
theorem dLw_law_222 : decode mLw_law.2.1 222 = .ok (.invokevirtual 24, 3) := by decide +kernel
theorem dLw_law_225 : decode mLw_law.2.1 225 = .ok (.if_icmp .eq 943, 3) := by decide +kernel
theorem dLw_law_228 : decode mLw_law.2.1 228 = .ok (.iconst 0, 1) := by decide +kernel
theorem dLw_law_229 : decode mLw_law.2.1 229 = .ok (.ireturn, 1) := by decide +kernel
theorem dLw_law_230 : decode mLw_law.2.1 230 = .ok (.aload_n 1, 1) := by decide +kernel
theorem dLw_law_231 : decode mLw_law.2.1 231 = .ok (.aload_n 0, 1) := by decide +kernel
theorem dLw_law_232 : decode mLw_law.2.1 232 = .ok (.iload_n 3, 1) := by decide +kernel
theorem dLw_law_233 : decode mLw_law.2.1 233 = .ok (.iconst 1, 1) := by decide +kernel
theorem dLw_law_234 : decode mLw_law.2.1 234 = .ok (.iadd, 1) := by decide +kernel
theorem dLw_law_235 : decode mLw_law.2.1 235 = .ok (.iaload, 1) := by decide +kernel
theorem dLw_law_236 : decode mLw_law.2.1 236 = .ok (.aload_n 0, 1) := by decide +kernel
theorem dLw_law_237 : decode mLw_law.2.1 237 = .ok (.iload_n 3, 1) := by decide +kernel
theorem dLw_law_238 : decode mLw_law.2.1 238 = .ok (.iconst 2, 1) := by decide +kernel
theorem dLw_law_239 : decode mLw_law.2.1 239 = .ok (.iadd, 1) := by decide +kernel
theorem dLw_law_240 : decode mLw_law.2.1 240 = .ok (.iaload, 1) := by decide +kernel
theorem dLw_law_241 : decode mLw_law.2.1 241 = .ok (.aload_n 0, 1) := by decide +kernel
theorem dLw_law_242 : decode mLw_law.2.1 242 = .ok (.iload_n 3, 1) := by decide +kernel
theorem dLw_law_243 : decode mLw_law.2.1 243 = .ok (.iconst 3, 1) := by decide +kernel
theorem dLw_law_244 : decode mLw_law.2.1 244 = .ok (.iadd, 1) := by decide +kernel
theorem dLw_law_245 : decode mLw_law.2.1 245 = .ok (.iaload, 1) := by decide +kernel
theorem dLw_law_246 : decode mLw_law.2.1 246 = .ok (.i2l, 1) := by decide +kernel
theorem dLw_law_247 : decode mLw_law.2.1 247 = .ok (.bipush 32, 2) := by decide +kernel
theorem dLw_law_249 : decode mLw_law.2.1 249 = .ok (.lshl, 1) := by decide +kernel
theorem dLw_law_250 : decode mLw_law.2.1 250 = .ok (.aload_n 0, 1) := by decide +kernel
theorem dLw_law_251 : decode mLw_law.2.1 251 = .ok (.iload_n 3, 1) := by decide +kernel
theorem dLw_law_252 : decode mLw_law.2.1 252 = .ok (.iconst 4, 1) := by decide +kernel
theorem dLw_law_253 : decode mLw_law.2.1 253 = .ok (.iadd, 1) := by decide +kernel
theorem dLw_law_254 : decode mLw_law.2.1 254 = .ok (.iaload, 1) := by decide +kernel
theorem dLw_law_255 : decode mLw_law.2.1 255 = .ok (.i2l, 1) := by decide +kernel
theorem dLw_law_256 : decode mLw_law.2.1 256 = .ok (.ldc2_w 13, 3) := by decide +kernel
theorem dLw_law_259 : decode mLw_law.2.1 259 = .ok (.land, 1) := by decide +kernel
theorem dLw_law_260 : decode mLw_law.2.1 260 = .ok (.lor, 1) := by decide +kernel
theorem dLw_law_261 : decode mLw_law.2.1 261 = .ok (.invokevirtual 25, 3) := by decide +kernel
theorem dLw_law_264 : decode mLw_law.2.1 264 = .ok (.aload_n 2, 1) := by decide +kernel
theorem dLw_law_265 : decode mLw_law.2.1 265 = .ok (.aload_n 0, 1) := by decide +kernel
theorem dLw_law_266 : decode mLw_law.2.1 266 = .ok (.iload_n 3, 1) := by decide +kernel
theorem dLw_law_267 : decode mLw_law.2.1 267 = .ok (.iconst 1, 1) := by decide +kernel
theorem dLw_law_268 : decode mLw_law.2.1 268 = .ok (.iadd, 1) := by decide +kernel
theorem dLw_law_269 : decode mLw_law.2.1 269 = .ok (.iaload, 1) := by decide +kernel
theorem dLw_law_270 : decode mLw_law.2.1 270 = .ok (.aload_n 0, 1) := by decide +kernel
theorem dLw_law_271 : decode mLw_law.2.1 271 = .ok (.iload_n 3, 1) := by decide +kernel
theorem dLw_law_272 : decode mLw_law.2.1 272 = .ok (.iconst 2, 1) := by decide +kernel
theorem dLw_law_273 : decode mLw_law.2.1 273 = .ok (.iadd, 1) := by decide +kernel
theorem dLw_law_274 : decode mLw_law.2.1 274 = .ok (.iaload, 1) := by decide +kernel
theorem dLw_law_275 : decode mLw_law.2.1 275 = .ok (.aload_n 0, 1) := by decide +kernel
theorem dLw_law_276 : decode mLw_law.2.1 276 = .ok (.iload_n 3, 1) := by decide +kernel
theorem dLw_law_277 : decode mLw_law.2.1 277 = .ok (.iconst 3, 1) := by decide +kernel
theorem dLw_law_278 : decode mLw_law.2.1 278 = .ok (.iadd, 1) := by decide +kernel
theorem dLw_law_279 : decode mLw_law.2.1 279 = .ok (.iaload, 1) := by decide +kernel
theorem dLw_law_280 : decode mLw_law.2.1 280 = .ok (.i2l, 1) := by decide +kernel
theorem dLw_law_281 : decode mLw_law.2.1 281 = .ok (.bipush 32, 2) := by decide +kernel
theorem dLw_law_283 : decode mLw_law.2.1 283 = .ok (.lshl, 1) := by decide +kernel
theorem dLw_law_284 : decode mLw_law.2.1 284 = .ok (.aload_n 0, 1) := by decide +kernel
theorem dLw_law_285 : decode mLw_law.2.1 285 = .ok (.iload_n 3, 1) := by decide +kernel
theorem dLw_law_286 : decode mLw_law.2.1 286 = .ok (.iconst 4, 1) := by decide +kernel
theorem dLw_law_287 : decode mLw_law.2.1 287 = .ok (.iadd, 1) := by decide +kernel
theorem dLw_law_288 : decode mLw_law.2.1 288 = .ok (.iaload, 1) := by decide +kernel
theorem dLw_law_289 : decode mLw_law.2.1 289 = .ok (.i2l, 1) := by decide +kernel
theorem dLw_law_290 : decode mLw_law.2.1 290 = .ok (.ldc2_w 13, 3) := by decide +kernel
theorem dLw_law_293 : decode mLw_law.2.1 293 = .ok (.land, 1) := by decide +kernel
theorem dLw_law_294 : decode mLw_law.2.1 294 = .ok (.lor, 1) := by decide +kernel
theorem dLw_law_295 : decode mLw_law.2.1 295 = .ok (.invokevirtual 29, 3) := by decide +kernel
theorem dLw_law_298 : decode mLw_law.2.1 298 = .ok (.if_icmp .eq 870, 3) := by decide +kernel
theorem dLw_law_301 : decode mLw_law.2.1 301 = .ok (.iconst 0, 1) := by decide +kernel
theorem dLw_law_302 : decode mLw_law.2.1 302 = .ok (.ireturn, 1) := by decide +kernel
theorem dLw_law_303 : decode mLw_law.2.1 303 = .ok (.aload_n 1, 1) := by decide +kernel
theorem dLw_law_304 : decode mLw_law.2.1 304 = .ok (.aload_n 0, 1) := by decide +kernel
theorem dLw_law_305 : decode mLw_law.2.1 305 = .ok (.iload_n 3, 1) := by decide +kernel
theorem dLw_law_306 : decode mLw_law.2.1 306 = .ok (.iconst 1, 1) := by decide +kernel
theorem dLw_law_307 : decode mLw_law.2.1 307 = .ok (.iadd, 1) := by decide +kernel
theorem dLw_law_308 : decode mLw_law.2.1 308 = .ok (.iaload, 1) := by decide +kernel
theorem dLw_law_309 : decode mLw_law.2.1 309 = .ok (.aload_n 0, 1) := by decide +kernel
theorem dLw_law_310 : decode mLw_law.2.1 310 = .ok (.iload_n 3, 1) := by decide +kernel
theorem dLw_law_311 : decode mLw_law.2.1 311 = .ok (.iconst 2, 1) := by decide +kernel
theorem dLw_law_312 : decode mLw_law.2.1 312 = .ok (.iadd, 1) := by decide +kernel
theorem dLw_law_313 : decode mLw_law.2.1 313 = .ok (.iaload, 1) := by decide +kernel
theorem dLw_law_314 : decode mLw_law.2.1 314 = .ok (.i2l, 1) := by decide +kernel
theorem dLw_law_315 : decode mLw_law.2.1 315 = .ok (.bipush 32, 2) := by decide +kernel
theorem dLw_law_317 : decode mLw_law.2.1 317 = .ok (.lshl, 1) := by decide +kernel
theorem dLw_law_318 : decode mLw_law.2.1 318 = .ok (.aload_n 0, 1) := by decide +kernel
theorem dLw_law_319 : decode mLw_law.2.1 319 = .ok (.iload_n 3, 1) := by decide +kernel
theorem dLw_law_320 : decode mLw_law.2.1 320 = .ok (.iconst 3, 1) := by decide +kernel
theorem dLw_law_321 : decode mLw_law.2.1 321 = .ok (.iadd, 1) := by decide +kernel
theorem dLw_law_322 : decode mLw_law.2.1 322 = .ok (.iaload, 1) := by decide +kernel
theorem dLw_law_323 : decode mLw_law.2.1 323 = .ok (.i2l, 1) := by decide +kernel
theorem dLw_law_324 : decode mLw_law.2.1 324 = .ok (.ldc2_w 13, 3) := by decide +kernel
theorem dLw_law_327 : decode mLw_law.2.1 327 = .ok (.land, 1) := by decide +kernel
theorem dLw_law_328 : decode mLw_law.2.1 328 = .ok (.lor, 1) := by decide +kernel
theorem dLw_law_329 : decode mLw_law.2.1 329 = .ok (.aload_n 0, 1) := by decide +kernel
theorem dLw_law_330 : decode mLw_law.2.1 330 = .ok (.iload_n 3, 1) := by decide +kernel
theorem dLw_law_331 : decode mLw_law.2.1 331 = .ok (.iconst 4, 1) := by decide +kernel
theorem dLw_law_332 : decode mLw_law.2.1 332 = .ok (.iadd, 1) := by decide +kernel
theorem dLw_law_333 : decode mLw_law.2.1 333 = .ok (.iaload, 1) := by decide +kernel
theorem dLw_law_334 : decode mLw_law.2.1 334 = .ok (.invokevirtual 30, 3) := by decide +kernel
theorem dLw_law_337 : decode mLw_law.2.1 337 = .ok (.aload_n 2, 1) := by decide +kernel
theorem dLw_law_338 : decode mLw_law.2.1 338 = .ok (.aload_n 0, 1) := by decide +kernel
theorem dLw_law_339 : decode mLw_law.2.1 339 = .ok (.iload_n 3, 1) := by decide +kernel
theorem dLw_law_340 : decode mLw_law.2.1 340 = .ok (.iconst 1, 1) := by decide +kernel
theorem dLw_law_341 : decode mLw_law.2.1 341 = .ok (.iadd, 1) := by decide +kernel
theorem dLw_law_342 : decode mLw_law.2.1 342 = .ok (.iaload, 1) := by decide +kernel
theorem dLw_law_343 : decode mLw_law.2.1 343 = .ok (.aload_n 0, 1) := by decide +kernel
theorem dLw_law_344 : decode mLw_law.2.1 344 = .ok (.iload_n 3, 1) := by decide +kernel
theorem dLw_law_345 : decode mLw_law.2.1 345 = .ok (.iconst 2, 1) := by decide +kernel
theorem dLw_law_346 : decode mLw_law.2.1 346 = .ok (.iadd, 1) := by decide +kernel
theorem dLw_law_347 : decode mLw_law.2.1 347 = .ok (.iaload, 1) := by decide +kernel
theorem dLw_law_348 : decode mLw_law.2.1 348 = .ok (.i2l, 1) := by decide +kernel
theorem dLw_law_349 : decode mLw_law.2.1 349 = .ok (.bipush 32, 2) := by decide +kernel
theorem dLw_law_351 : decode mLw_law.2.1 351 = .ok (.lshl, 1) := by decide +kernel
theorem dLw_law_352 : decode mLw_law.2.1 352 = .ok (.aload_n 0, 1) := by decide +kernel
theorem dLw_law_353 : decode mLw_law.2.1 353 = .ok (.iload_n 3, 1) := by decide +kernel
theorem dLw_law_354 : decode mLw_law.2.1 354 = .ok (.iconst 3, 1) := by decide +kernel
theorem dLw_law_355 : decode mLw_law.2.1 355 = .ok (.iadd, 1) := by decide +kernel
theorem dLw_law_356 : decode mLw_law.2.1 356 = .ok (.iaload, 1) := by decide +kernel
theorem dLw_law_357 : decode mLw_law.2.1 357 = .ok (.i2l, 1) := by decide +kernel
theorem dLw_law_358 : decode mLw_law.2.1 358 = .ok (.ldc2_w 13, 3) := by decide +kernel
theorem dLw_law_361 : decode mLw_law.2.1 361 = .ok (.land, 1) := by decide +kernel
theorem dLw_law_362 : decode mLw_law.2.1 362 = .ok (.lor, 1) := by decide +kernel
theorem dLw_law_363 : decode mLw_law.2.1 363 = .ok (.aload_n 0, 1) := by decide +kernel
theorem dLw_law_364 : decode mLw_law.2.1 364 = .ok (.iload_n 3, 1) := by decide +kernel
theorem dLw_law_365 : decode mLw_law.2.1 365 = .ok (.iconst 4, 1) := by decide +kernel
theorem dLw_law_366 : decode mLw_law.2.1 366 = .ok (.iadd, 1) := by decide +kernel
theorem dLw_law_367 : decode mLw_law.2.1 367 = .ok (.iaload, 1) := by decide +kernel
theorem dLw_law_368 : decode mLw_law.2.1 368 = .ok (.invokevirtual 34, 3) := by decide +kernel
theorem dLw_law_371 : decode mLw_law.2.1 371 = .ok (.if_icmp .eq 797, 3) := by decide +kernel
theorem dLw_law_374 : decode mLw_law.2.1 374 = .ok (.iconst 0, 1) := by decide +kernel
theorem dLw_law_375 : decode mLw_law.2.1 375 = .ok (.ireturn, 1) := by decide +kernel
theorem dLw_law_376 : decode mLw_law.2.1 376 = .ok (.aload_n 1, 1) := by decide +kernel
theorem dLw_law_377 : decode mLw_law.2.1 377 = .ok (.aload_n 0, 1) := by decide +kernel
theorem dLw_law_378 : decode mLw_law.2.1 378 = .ok (.iload_n 3, 1) := by decide +kernel
theorem dLw_law_379 : decode mLw_law.2.1 379 = .ok (.iconst 1, 1) := by decide +kernel
theorem dLw_law_380 : decode mLw_law.2.1 380 = .ok (.iadd, 1) := by decide +kernel
theorem dLw_law_381 : decode mLw_law.2.1 381 = .ok (.iaload, 1) := by decide +kernel
theorem dLw_law_382 : decode mLw_law.2.1 382 = .ok (.aload_n 0, 1) := by decide +kernel
theorem dLw_law_383 : decode mLw_law.2.1 383 = .ok (.iload_n 3, 1) := by decide +kernel
