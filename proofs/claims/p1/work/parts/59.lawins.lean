/-! the law, one call on fresh objects -/
theorem el_0 : pm_at_pc pd_law 0 = some (.new 7, 3, 10, 0, 0, [(1, 14), (1, 15), (1, 1)]) := rfl
theorem el_3 : pm_at_pc pd_law 3 = some (.dup, 1, 0, 0, 0, []) := rfl
theorem el_4 : pm_at_pc pd_law 4 = some (.invokespecial 9, 3, 101, 0, 0, [(1, 16), (1, 17)]) := rfl
theorem el_7 : pm_at_pc pd_law 7 = some (.astore_n 1, 1, 0, 0, 0, []) := rfl
theorem el_8 : pm_at_pc pd_law 8 = some (.new 10, 3, 11, 0, 0, [(5, 91), (5, 92), (1, 12)]) := rfl
theorem el_11 : pm_at_pc pd_law 11 = some (.dup, 1, 0, 0, 0, []) := rfl
theorem el_12 : pm_at_pc pd_law 12 = some (.invokespecial 12, 3, 145, 0, 0, [(5, 93), (5, 94)]) := rfl
theorem el_15 : pm_at_pc pd_law 15 = some (.astore_n 2, 1, 0, 0, 0, []) := rfl
theorem el_16 : pm_at_pc pd_law 16 = some (.iconst 0, 1, 0, 0, 0, []) := rfl
theorem el_17 : pm_at_pc pd_law 17 = some (.istore_n 3, 1, 0, 0, 0, []) := rfl
theorem el_18 : pm_at_pc pd_law 18 = some (.iload_n 3, 1, 0, 0, 0, []) := rfl
theorem el_19 : pm_at_pc pd_law 19 = some (.aload_n 0, 1, 0, 0, 0, []) := rfl
theorem el_20 : pm_at_pc pd_law 20 = some (.arraylength, 1, 0, 0, 0, []) := rfl
theorem el_21 : pm_at_pc pd_law 21 = some (.bipush 6, 2, 0, 0, 0, []) := rfl
theorem el_23 : pm_at_pc pd_law 23 = some (.isub, 1, 0, 0, 0, []) := rfl
theorem el_24 : pm_at_pc pd_law 24 = some (.if_icmp .gt 991, 3, 1015, 0, 0, []) := rfl
theorem el_27 : pm_at_pc pd_law 27 = some (.aload_n 0, 1, 0, 0, 0, []) := rfl
theorem el_28 : pm_at_pc pd_law 28 = some (.iload_n 3, 1, 0, 0, 0, []) := rfl
theorem el_29 : pm_at_pc pd_law 29 = some (.iaload, 1, 0, 0, 0, []) := rfl
theorem el_30 : pm_at_pc pd_law 30 = some (.bipush 31, 2, 0, 0, 0, []) := rfl
theorem el_32 : pm_at_pc pd_law 32 = some (.iand, 1, 0, 0, 0, []) := rfl
theorem el_33 : pm_at_pc pd_law 33 = some (.tableswitch 976 0 28 #[131, 194, 217, 230, 253, 286, 320, 353, 386, 409, 442, 476, 509, 532, 565, 588, 632, 685, 728, 761, 784, 808, 842, 866, 879, 892, 905, 929, 953], 131, 0, 0, 0, []) := rfl
theorem el_164 : pm_at_pc pd_law 164 = some (.aload_n 1, 1, 0, 0, 0, []) := rfl
theorem el_165 : pm_at_pc pd_law 165 = some (.aload_n 0, 1, 0, 0, 0, []) := rfl
theorem el_166 : pm_at_pc pd_law 166 = some (.iload_n 3, 1, 0, 0, 0, []) := rfl
theorem el_167 : pm_at_pc pd_law 167 = some (.iconst 1, 1, 0, 0, 0, []) := rfl
theorem el_168 : pm_at_pc pd_law 168 = some (.iadd, 1, 0, 0, 0, []) := rfl
theorem el_169 : pm_at_pc pd_law 169 = some (.iaload, 1, 0, 0, 0, []) := rfl
theorem el_170 : pm_at_pc pd_law 170 = some (.aload_n 0, 1, 0, 0, 0, []) := rfl
theorem el_171 : pm_at_pc pd_law 171 = some (.iload_n 3, 1, 0, 0, 0, []) := rfl
theorem el_172 : pm_at_pc pd_law 172 = some (.iconst 2, 1, 0, 0, 0, []) := rfl
theorem el_173 : pm_at_pc pd_law 173 = some (.iadd, 1, 0, 0, 0, []) := rfl
theorem el_174 : pm_at_pc pd_law 174 = some (.iaload, 1, 0, 0, 0, []) := rfl
theorem el_175 : pm_at_pc pd_law 175 = some (.aload_n 0, 1, 0, 0, 0, []) := rfl
theorem el_176 : pm_at_pc pd_law 176 = some (.iload_n 3, 1, 0, 0, 0, []) := rfl
theorem el_177 : pm_at_pc pd_law 177 = some (.iconst 3, 1, 0, 0, 0, []) := rfl
theorem el_178 : pm_at_pc pd_law 178 = some (.iadd, 1, 0, 0, 0, []) := rfl
theorem el_179 : pm_at_pc pd_law 179 = some (.iaload, 1, 0, 0, 0, []) := rfl
theorem el_180 : pm_at_pc pd_law 180 = some (.aload_n 0, 1, 0, 0, 0, []) := rfl
theorem el_181 : pm_at_pc pd_law 181 = some (.iload_n 3, 1, 0, 0, 0, []) := rfl
theorem el_182 : pm_at_pc pd_law 182 = some (.iconst 4, 1, 0, 0, 0, []) := rfl
theorem el_183 : pm_at_pc pd_law 183 = some (.iadd, 1, 0, 0, 0, []) := rfl
theorem el_184 : pm_at_pc pd_law 184 = some (.iaload, 1, 0, 0, 0, []) := rfl
theorem el_185 : pm_at_pc pd_law 185 = some (.aload_n 0, 1, 0, 0, 0, []) := rfl
theorem el_186 : pm_at_pc pd_law 186 = some (.iload_n 3, 1, 0, 0, 0, []) := rfl
theorem el_187 : pm_at_pc pd_law 187 = some (.iconst 5, 1, 0, 0, 0, []) := rfl
theorem el_188 : pm_at_pc pd_law 188 = some (.iadd, 1, 0, 0, 0, []) := rfl
theorem el_189 : pm_at_pc pd_law 189 = some (.iaload, 1, 0, 0, 0, []) := rfl
theorem el_190 : pm_at_pc pd_law 190 = some (.invokevirtual 13, 3, 102, 0, 0, [(2, 229), (2, 230), (2, 231)]) := rfl
theorem el_193 : pm_at_pc pd_law 193 = some (.aload_n 2, 1, 0, 0, 0, []) := rfl
theorem el_194 : pm_at_pc pd_law 194 = some (.aload_n 0, 1, 0, 0, 0, []) := rfl
theorem el_195 : pm_at_pc pd_law 195 = some (.iload_n 3, 1, 0, 0, 0, []) := rfl
theorem el_196 : pm_at_pc pd_law 196 = some (.iconst 1, 1, 0, 0, 0, []) := rfl
theorem el_197 : pm_at_pc pd_law 197 = some (.iadd, 1, 0, 0, 0, []) := rfl
theorem el_198 : pm_at_pc pd_law 198 = some (.iaload, 1, 0, 0, 0, []) := rfl
theorem el_199 : pm_at_pc pd_law 199 = some (.aload_n 0, 1, 0, 0, 0, []) := rfl
theorem el_200 : pm_at_pc pd_law 200 = some (.iload_n 3, 1, 0, 0, 0, []) := rfl
theorem el_201 : pm_at_pc pd_law 201 = some (.iconst 2, 1, 0, 0, 0, []) := rfl
theorem el_202 : pm_at_pc pd_law 202 = some (.iadd, 1, 0, 0, 0, []) := rfl
theorem el_203 : pm_at_pc pd_law 203 = some (.iaload, 1, 0, 0, 0, []) := rfl
theorem el_204 : pm_at_pc pd_law 204 = some (.aload_n 0, 1, 0, 0, 0, []) := rfl
theorem el_205 : pm_at_pc pd_law 205 = some (.iload_n 3, 1, 0, 0, 0, []) := rfl
theorem el_206 : pm_at_pc pd_law 206 = some (.iconst 3, 1, 0, 0, 0, []) := rfl
theorem el_207 : pm_at_pc pd_law 207 = some (.iadd, 1, 0, 0, 0, []) := rfl
theorem el_208 : pm_at_pc pd_law 208 = some (.iaload, 1, 0, 0, 0, []) := rfl
theorem el_209 : pm_at_pc pd_law 209 = some (.aload_n 0, 1, 0, 0, 0, []) := rfl
theorem el_210 : pm_at_pc pd_law 210 = some (.iload_n 3, 1, 0, 0, 0, []) := rfl
theorem el_211 : pm_at_pc pd_law 211 = some (.iconst 4, 1, 0, 0, 0, []) := rfl
theorem el_212 : pm_at_pc pd_law 212 = some (.iadd, 1, 0, 0, 0, []) := rfl
theorem el_213 : pm_at_pc pd_law 213 = some (.iaload, 1, 0, 0, 0, []) := rfl
theorem el_214 : pm_at_pc pd_law 214 = some (.aload_n 0, 1, 0, 0, 0, []) := rfl
theorem el_215 : pm_at_pc pd_law 215 = some (.iload_n 3, 1, 0, 0, 0, []) := rfl
theorem el_216 : pm_at_pc pd_law 216 = some (.iconst 5, 1, 0, 0, 0, []) := rfl
theorem el_217 : pm_at_pc pd_law 217 = some (.iadd, 1, 0, 0, 0, []) := rfl
theorem el_218 : pm_at_pc pd_law 218 = some (.iaload, 1, 0, 0, 0, []) := rfl
theorem el_219 : pm_at_pc pd_law 219 = some (.invokevirtual 17, 3, 146, 0, 0, [(6, 109), (6, 110), (6, 111)]) := rfl
theorem el_222 : pm_at_pc pd_law 222 = some (.if_icmp .eq 787, 3, 1009, 0, 0, []) := rfl
theorem el_225 : pm_at_pc pd_law 225 = some (.iconst 0, 1, 0, 0, 0, []) := rfl
theorem el_226 : pm_at_pc pd_law 226 = some (.ireturn, 1, 0, 0, 0, []) := rfl
theorem el_227 : pm_at_pc pd_law 227 = some (.aload_n 1, 1, 0, 0, 0, []) := rfl
theorem el_228 : pm_at_pc pd_law 228 = some (.aload_n 0, 1, 0, 0, 0, []) := rfl
theorem el_229 : pm_at_pc pd_law 229 = some (.iload_n 3, 1, 0, 0, 0, []) := rfl
theorem el_230 : pm_at_pc pd_law 230 = some (.iconst 1, 1, 0, 0, 0, []) := rfl
theorem el_231 : pm_at_pc pd_law 231 = some (.iadd, 1, 0, 0, 0, []) := rfl
theorem el_232 : pm_at_pc pd_law 232 = some (.iaload, 1, 0, 0, 0, []) := rfl
theorem el_233 : pm_at_pc pd_law 233 = some (.invokevirtual 18, 3, 104, 0, 0, [(2, 237), (2, 238), (2, 239)]) := rfl
theorem el_236 : pm_at_pc pd_law 236 = some (.aload_n 2, 1, 0, 0, 0, []) := rfl
theorem el_237 : pm_at_pc pd_law 237 = some (.aload_n 0, 1, 0, 0, 0, []) := rfl
theorem el_238 : pm_at_pc pd_law 238 = some (.iload_n 3, 1, 0, 0, 0, []) := rfl
theorem el_239 : pm_at_pc pd_law 239 = some (.iconst 1, 1, 0, 0, 0, []) := rfl
theorem el_240 : pm_at_pc pd_law 240 = some (.iadd, 1, 0, 0, 0, []) := rfl
theorem el_241 : pm_at_pc pd_law 241 = some (.iaload, 1, 0, 0, 0, []) := rfl
theorem el_242 : pm_at_pc pd_law 242 = some (.invokevirtual 22, 3, 148, 0, 0, [(6, 117), (6, 118), (6, 119)]) := rfl
theorem el_245 : pm_at_pc pd_law 245 = some (.if_icmp .eq 764, 3, 1009, 0, 0, []) := rfl
theorem el_248 : pm_at_pc pd_law 248 = some (.iconst 0, 1, 0, 0, 0, []) := rfl
theorem el_249 : pm_at_pc pd_law 249 = some (.ireturn, 1, 0, 0, 0, []) := rfl
theorem el_250 : pm_at_pc pd_law 250 = some (.aload_n 1, 1, 0, 0, 0, []) := rfl
theorem el_251 : pm_at_pc pd_law 251 = some (.invokevirtual 23, 3, 105, 0, 0, [(3, 1), (3, 2), (3, 3)]) := rfl
theorem el_254 : pm_at_pc pd_law 254 = some (.aload_n 2, 1, 0, 0, 0, []) := rfl
theorem el_255 : pm_at_pc pd_law 255 = some (.invokevirtual 27, 3, 171, 0, 0, [(6, 121), (6, 122), (6, 123)]) := rfl
theorem el_258 : pm_at_pc pd_law 258 = some (.if_icmp .eq 751, 3, 1009, 0, 0, []) := rfl
theorem el_261 : pm_at_pc pd_law 261 = some (.iconst 0, 1, 0, 0, 0, []) := rfl
theorem el_262 : pm_at_pc pd_law 262 = some (.ireturn, 1, 0, 0, 0, []) := rfl
theorem el_263 : pm_at_pc pd_law 263 = some (.aload_n 1, 1, 0, 0, 0, []) := rfl
theorem el_264 : pm_at_pc pd_law 264 = some (.aload_n 0, 1, 0, 0, 0, []) := rfl
theorem el_265 : pm_at_pc pd_law 265 = some (.iload_n 3, 1, 0, 0, 0, []) := rfl
theorem el_266 : pm_at_pc pd_law 266 = some (.iconst 1, 1, 0, 0, 0, []) := rfl
theorem el_267 : pm_at_pc pd_law 267 = some (.iadd, 1, 0, 0, 0, []) := rfl
theorem el_268 : pm_at_pc pd_law 268 = some (.iaload, 1, 0, 0, 0, []) := rfl
theorem el_269 : pm_at_pc pd_law 269 = some (.invokevirtual 28, 3, 106, 0, 0, [(3, 232), (3, 233), (3, 234)]) := rfl
theorem el_272 : pm_at_pc pd_law 272 = some (.aload_n 2, 1, 0, 0, 0, []) := rfl
theorem el_273 : pm_at_pc pd_law 273 = some (.aload_n 0, 1, 0, 0, 0, []) := rfl
theorem el_274 : pm_at_pc pd_law 274 = some (.iload_n 3, 1, 0, 0, 0, []) := rfl
theorem el_275 : pm_at_pc pd_law 275 = some (.iconst 1, 1, 0, 0, 0, []) := rfl
theorem el_276 : pm_at_pc pd_law 276 = some (.iadd, 1, 0, 0, 0, []) := rfl
theorem el_277 : pm_at_pc pd_law 277 = some (.iaload, 1, 0, 0, 0, []) := rfl
theorem el_278 : pm_at_pc pd_law 278 = some (.invokevirtual 31, 3, 172, 0, 0, [(7, 52), (7, 53), (7, 54)]) := rfl
theorem el_281 : pm_at_pc pd_law 281 = some (.if_icmp .eq 728, 3, 1009, 0, 0, []) := rfl
theorem el_284 : pm_at_pc pd_law 284 = some (.iconst 0, 1, 0, 0, 0, []) := rfl
theorem el_285 : pm_at_pc pd_law 285 = some (.ireturn, 1, 0, 0, 0, []) := rfl
theorem el_286 : pm_at_pc pd_law 286 = some (.aload_n 1, 1, 0, 0, 0, []) := rfl
theorem el_287 : pm_at_pc pd_law 287 = some (.aload_n 0, 1, 0, 0, 0, []) := rfl
theorem el_288 : pm_at_pc pd_law 288 = some (.iload_n 3, 1, 0, 0, 0, []) := rfl
theorem el_289 : pm_at_pc pd_law 289 = some (.iconst 1, 1, 0, 0, 0, []) := rfl
theorem el_290 : pm_at_pc pd_law 290 = some (.iadd, 1, 0, 0, 0, []) := rfl
theorem el_291 : pm_at_pc pd_law 291 = some (.iaload, 1, 0, 0, 0, []) := rfl
theorem el_292 : pm_at_pc pd_law 292 = some (.aload_n 0, 1, 0, 0, 0, []) := rfl
theorem el_293 : pm_at_pc pd_law 293 = some (.iload_n 3, 1, 0, 0, 0, []) := rfl
theorem el_294 : pm_at_pc pd_law 294 = some (.iconst 2, 1, 0, 0, 0, []) := rfl
theorem el_295 : pm_at_pc pd_law 295 = some (.iadd, 1, 0, 0, 0, []) := rfl
theorem el_296 : pm_at_pc pd_law 296 = some (.iaload, 1, 0, 0, 0, []) := rfl
theorem el_297 : pm_at_pc pd_law 297 = some (.invokevirtual 32, 3, 107, 0, 0, [(3, 236), (3, 237), (3, 238)]) := rfl
theorem el_300 : pm_at_pc pd_law 300 = some (.aload_n 2, 1, 0, 0, 0, []) := rfl
theorem el_301 : pm_at_pc pd_law 301 = some (.aload_n 0, 1, 0, 0, 0, []) := rfl
theorem el_302 : pm_at_pc pd_law 302 = some (.iload_n 3, 1, 0, 0, 0, []) := rfl
theorem el_303 : pm_at_pc pd_law 303 = some (.iconst 1, 1, 0, 0, 0, []) := rfl
theorem el_304 : pm_at_pc pd_law 304 = some (.iadd, 1, 0, 0, 0, []) := rfl
theorem el_305 : pm_at_pc pd_law 305 = some (.iaload, 1, 0, 0, 0, []) := rfl
theorem el_306 : pm_at_pc pd_law 306 = some (.aload_n 0, 1, 0, 0, 0, []) := rfl
theorem el_307 : pm_at_pc pd_law 307 = some (.iload_n 3, 1, 0, 0, 0, []) := rfl
theorem el_308 : pm_at_pc pd_law 308 = some (.iconst 2, 1, 0, 0, 0, []) := rfl
theorem el_309 : pm_at_pc pd_law 309 = some (.iadd, 1, 0, 0, 0, []) := rfl
theorem el_310 : pm_at_pc pd_law 310 = some (.iaload, 1, 0, 0, 0, []) := rfl
theorem el_311 : pm_at_pc pd_law 311 = some (.invokevirtual 36, 3, 179, 0, 0, [(7, 56), (7, 57), (7, 58)]) := rfl
theorem el_314 : pm_at_pc pd_law 314 = some (.if_icmp .eq 695, 3, 1009, 0, 0, []) := rfl
theorem el_317 : pm_at_pc pd_law 317 = some (.iconst 0, 1, 0, 0, 0, []) := rfl
theorem el_318 : pm_at_pc pd_law 318 = some (.ireturn, 1, 0, 0, 0, []) := rfl
theorem el_319 : pm_at_pc pd_law 319 = some (.aload_n 1, 1, 0, 0, 0, []) := rfl
theorem el_320 : pm_at_pc pd_law 320 = some (.aload_n 0, 1, 0, 0, 0, []) := rfl
theorem el_321 : pm_at_pc pd_law 321 = some (.iload_n 3, 1, 0, 0, 0, []) := rfl
theorem el_322 : pm_at_pc pd_law 322 = some (.iconst 1, 1, 0, 0, 0, []) := rfl
theorem el_323 : pm_at_pc pd_law 323 = some (.iadd, 1, 0, 0, 0, []) := rfl
theorem el_324 : pm_at_pc pd_law 324 = some (.iaload, 1, 0, 0, 0, []) := rfl
theorem el_325 : pm_at_pc pd_law 325 = some (.aload_n 0, 1, 0, 0, 0, []) := rfl
theorem el_326 : pm_at_pc pd_law 326 = some (.iload_n 3, 1, 0, 0, 0, []) := rfl
theorem el_327 : pm_at_pc pd_law 327 = some (.iconst 2, 1, 0, 0, 0, []) := rfl
theorem el_328 : pm_at_pc pd_law 328 = some (.iadd, 1, 0, 0, 0, []) := rfl
theorem el_329 : pm_at_pc pd_law 329 = some (.iaload, 1, 0, 0, 0, []) := rfl
theorem el_330 : pm_at_pc pd_law 330 = some (.invokevirtual 37, 3, 108, 0, 0, [(4, 0), (4, 1), (4, 2)]) := rfl
theorem el_333 : pm_at_pc pd_law 333 = some (.aload_n 2, 1, 0, 0, 0, []) := rfl
theorem el_334 : pm_at_pc pd_law 334 = some (.aload_n 0, 1, 0, 0, 0, []) := rfl
theorem el_335 : pm_at_pc pd_law 335 = some (.iload_n 3, 1, 0, 0, 0, []) := rfl
theorem el_336 : pm_at_pc pd_law 336 = some (.iconst 1, 1, 0, 0, 0, []) := rfl
theorem el_337 : pm_at_pc pd_law 337 = some (.iadd, 1, 0, 0, 0, []) := rfl
theorem el_338 : pm_at_pc pd_law 338 = some (.iaload, 1, 0, 0, 0, []) := rfl
theorem el_339 : pm_at_pc pd_law 339 = some (.aload_n 0, 1, 0, 0, 0, []) := rfl
theorem el_340 : pm_at_pc pd_law 340 = some (.iload_n 3, 1, 0, 0, 0, []) := rfl
theorem el_341 : pm_at_pc pd_law 341 = some (.iconst 2, 1, 0, 0, 0, []) := rfl
theorem el_342 : pm_at_pc pd_law 342 = some (.iadd, 1, 0, 0, 0, []) := rfl
theorem el_343 : pm_at_pc pd_law 343 = some (.iaload, 1, 0, 0, 0, []) := rfl
theorem el_344 : pm_at_pc pd_law 344 = some (.invokevirtual 41, 3, 191, 0, 0, [(7, 60), (7, 61), (7, 62)]) := rfl
theorem el_347 : pm_at_pc pd_law 347 = some (.lcmp, 1, 0, 0, 0, []) := rfl
theorem el_348 : pm_at_pc pd_law 348 = some (.ifCond .eq 661, 3, 1009, 0, 0, []) := rfl
theorem el_351 : pm_at_pc pd_law 351 = some (.iconst 0, 1, 0, 0, 0, []) := rfl
theorem el_352 : pm_at_pc pd_law 352 = some (.ireturn, 1, 0, 0, 0, []) := rfl
theorem el_353 : pm_at_pc pd_law 353 = some (.aload_n 1, 1, 0, 0, 0, []) := rfl
theorem el_354 : pm_at_pc pd_law 354 = some (.aload_n 0, 1, 0, 0, 0, []) := rfl
theorem el_355 : pm_at_pc pd_law 355 = some (.iload_n 3, 1, 0, 0, 0, []) := rfl
theorem el_356 : pm_at_pc pd_law 356 = some (.iconst 1, 1, 0, 0, 0, []) := rfl
theorem el_357 : pm_at_pc pd_law 357 = some (.iadd, 1, 0, 0, 0, []) := rfl
theorem el_358 : pm_at_pc pd_law 358 = some (.iaload, 1, 0, 0, 0, []) := rfl
theorem el_359 : pm_at_pc pd_law 359 = some (.aload_n 0, 1, 0, 0, 0, []) := rfl
theorem el_360 : pm_at_pc pd_law 360 = some (.iload_n 3, 1, 0, 0, 0, []) := rfl
theorem el_361 : pm_at_pc pd_law 361 = some (.iconst 2, 1, 0, 0, 0, []) := rfl
theorem el_362 : pm_at_pc pd_law 362 = some (.iadd, 1, 0, 0, 0, []) := rfl
theorem el_363 : pm_at_pc pd_law 363 = some (.iaload, 1, 0, 0, 0, []) := rfl
theorem el_364 : pm_at_pc pd_law 364 = some (.invokevirtual 42, 3, 109, 0, 0, [(4, 18), (4, 19), (4, 20)]) := rfl
theorem el_367 : pm_at_pc pd_law 367 = some (.aload_n 2, 1, 0, 0, 0, []) := rfl
theorem el_368 : pm_at_pc pd_law 368 = some (.aload_n 0, 1, 0, 0, 0, []) := rfl
theorem el_369 : pm_at_pc pd_law 369 = some (.iload_n 3, 1, 0, 0, 0, []) := rfl
theorem el_370 : pm_at_pc pd_law 370 = some (.iconst 1, 1, 0, 0, 0, []) := rfl
theorem el_371 : pm_at_pc pd_law 371 = some (.iadd, 1, 0, 0, 0, []) := rfl
theorem el_372 : pm_at_pc pd_law 372 = some (.iaload, 1, 0, 0, 0, []) := rfl
theorem el_373 : pm_at_pc pd_law 373 = some (.aload_n 0, 1, 0, 0, 0, []) := rfl
theorem el_374 : pm_at_pc pd_law 374 = some (.iload_n 3, 1, 0, 0, 0, []) := rfl
theorem el_375 : pm_at_pc pd_law 375 = some (.iconst 2, 1, 0, 0, 0, []) := rfl
theorem el_376 : pm_at_pc pd_law 376 = some (.iadd, 1, 0, 0, 0, []) := rfl
theorem el_377 : pm_at_pc pd_law 377 = some (.iaload, 1, 0, 0, 0, []) := rfl
theorem el_378 : pm_at_pc pd_law 378 = some (.invokevirtual 45, 3, 192, 0, 0, [(7, 73), (7, 74), (7, 75)]) := rfl
theorem el_381 : pm_at_pc pd_law 381 = some (.if_icmp .eq 628, 3, 1009, 0, 0, []) := rfl
theorem el_384 : pm_at_pc pd_law 384 = some (.iconst 0, 1, 0, 0, 0, []) := rfl
theorem el_385 : pm_at_pc pd_law 385 = some (.ireturn, 1, 0, 0, 0, []) := rfl
theorem el_386 : pm_at_pc pd_law 386 = some (.aload_n 1, 1, 0, 0, 0, []) := rfl
theorem el_387 : pm_at_pc pd_law 387 = some (.aload_n 0, 1, 0, 0, 0, []) := rfl
theorem el_388 : pm_at_pc pd_law 388 = some (.iload_n 3, 1, 0, 0, 0, []) := rfl
theorem el_389 : pm_at_pc pd_law 389 = some (.iconst 1, 1, 0, 0, 0, []) := rfl
theorem el_390 : pm_at_pc pd_law 390 = some (.iadd, 1, 0, 0, 0, []) := rfl
theorem el_391 : pm_at_pc pd_law 391 = some (.iaload, 1, 0, 0, 0, []) := rfl
theorem el_392 : pm_at_pc pd_law 392 = some (.aload_n 0, 1, 0, 0, 0, []) := rfl
theorem el_393 : pm_at_pc pd_law 393 = some (.iload_n 3, 1, 0, 0, 0, []) := rfl
theorem el_394 : pm_at_pc pd_law 394 = some (.iconst 2, 1, 0, 0, 0, []) := rfl
theorem el_395 : pm_at_pc pd_law 395 = some (.iadd, 1, 0, 0, 0, []) := rfl
theorem el_396 : pm_at_pc pd_law 396 = some (.iaload, 1, 0, 0, 0, []) := rfl
theorem el_397 : pm_at_pc pd_law 397 = some (.invokevirtual 46, 3, 110, 0, 0, [(4, 25), (4, 26), (4, 27)]) := rfl
theorem el_400 : pm_at_pc pd_law 400 = some (.aload_n 2, 1, 0, 0, 0, []) := rfl
theorem el_401 : pm_at_pc pd_law 401 = some (.aload_n 0, 1, 0, 0, 0, []) := rfl
theorem el_402 : pm_at_pc pd_law 402 = some (.iload_n 3, 1, 0, 0, 0, []) := rfl
theorem el_403 : pm_at_pc pd_law 403 = some (.iconst 1, 1, 0, 0, 0, []) := rfl
theorem el_404 : pm_at_pc pd_law 404 = some (.iadd, 1, 0, 0, 0, []) := rfl
theorem el_405 : pm_at_pc pd_law 405 = some (.iaload, 1, 0, 0, 0, []) := rfl
theorem el_406 : pm_at_pc pd_law 406 = some (.aload_n 0, 1, 0, 0, 0, []) := rfl
theorem el_407 : pm_at_pc pd_law 407 = some (.iload_n 3, 1, 0, 0, 0, []) := rfl
theorem el_408 : pm_at_pc pd_law 408 = some (.iconst 2, 1, 0, 0, 0, []) := rfl
theorem el_409 : pm_at_pc pd_law 409 = some (.iadd, 1, 0, 0, 0, []) := rfl
theorem el_410 : pm_at_pc pd_law 410 = some (.iaload, 1, 0, 0, 0, []) := rfl
theorem el_411 : pm_at_pc pd_law 411 = some (.invokevirtual 49, 3, 194, 0, 0, [(7, 77), (7, 78), (7, 79)]) := rfl
theorem el_414 : pm_at_pc pd_law 414 = some (.if_icmp .eq 595, 3, 1009, 0, 0, []) := rfl
theorem el_417 : pm_at_pc pd_law 417 = some (.iconst 0, 1, 0, 0, 0, []) := rfl
theorem el_418 : pm_at_pc pd_law 418 = some (.ireturn, 1, 0, 0, 0, []) := rfl
theorem el_419 : pm_at_pc pd_law 419 = some (.aload_n 1, 1, 0, 0, 0, []) := rfl
theorem el_420 : pm_at_pc pd_law 420 = some (.aload_n 0, 1, 0, 0, 0, []) := rfl
theorem el_421 : pm_at_pc pd_law 421 = some (.iload_n 3, 1, 0, 0, 0, []) := rfl
theorem el_422 : pm_at_pc pd_law 422 = some (.iconst 1, 1, 0, 0, 0, []) := rfl
theorem el_423 : pm_at_pc pd_law 423 = some (.iadd, 1, 0, 0, 0, []) := rfl
theorem el_424 : pm_at_pc pd_law 424 = some (.iaload, 1, 0, 0, 0, []) := rfl
theorem el_425 : pm_at_pc pd_law 425 = some (.invokevirtual 50, 3, 111, 0, 0, [(4, 37), (4, 38), (4, 39)]) := rfl
theorem el_428 : pm_at_pc pd_law 428 = some (.aload_n 2, 1, 0, 0, 0, []) := rfl
theorem el_429 : pm_at_pc pd_law 429 = some (.aload_n 0, 1, 0, 0, 0, []) := rfl
theorem el_430 : pm_at_pc pd_law 430 = some (.iload_n 3, 1, 0, 0, 0, []) := rfl
theorem el_431 : pm_at_pc pd_law 431 = some (.iconst 1, 1, 0, 0, 0, []) := rfl
theorem el_432 : pm_at_pc pd_law 432 = some (.iadd, 1, 0, 0, 0, []) := rfl
theorem el_433 : pm_at_pc pd_law 433 = some (.iaload, 1, 0, 0, 0, []) := rfl
theorem el_434 : pm_at_pc pd_law 434 = some (.invokevirtual 53, 3, 202, 0, 0, [(7, 85), (7, 86), (7, 87)]) := rfl
theorem el_437 : pm_at_pc pd_law 437 = some (.if_icmp .eq 572, 3, 1009, 0, 0, []) := rfl
theorem el_440 : pm_at_pc pd_law 440 = some (.iconst 0, 1, 0, 0, 0, []) := rfl
theorem el_441 : pm_at_pc pd_law 441 = some (.ireturn, 1, 0, 0, 0, []) := rfl
theorem el_442 : pm_at_pc pd_law 442 = some (.aload_n 1, 1, 0, 0, 0, []) := rfl
theorem el_443 : pm_at_pc pd_law 443 = some (.aload_n 0, 1, 0, 0, 0, []) := rfl
theorem el_444 : pm_at_pc pd_law 444 = some (.iload_n 3, 1, 0, 0, 0, []) := rfl
theorem el_445 : pm_at_pc pd_law 445 = some (.iconst 1, 1, 0, 0, 0, []) := rfl
theorem el_446 : pm_at_pc pd_law 446 = some (.iadd, 1, 0, 0, 0, []) := rfl
theorem el_447 : pm_at_pc pd_law 447 = some (.iaload, 1, 0, 0, 0, []) := rfl
theorem el_448 : pm_at_pc pd_law 448 = some (.aload_n 0, 1, 0, 0, 0, []) := rfl
theorem el_449 : pm_at_pc pd_law 449 = some (.iload_n 3, 1, 0, 0, 0, []) := rfl
theorem el_450 : pm_at_pc pd_law 450 = some (.iconst 2, 1, 0, 0, 0, []) := rfl
theorem el_451 : pm_at_pc pd_law 451 = some (.iadd, 1, 0, 0, 0, []) := rfl
theorem el_452 : pm_at_pc pd_law 452 = some (.iaload, 1, 0, 0, 0, []) := rfl
theorem el_453 : pm_at_pc pd_law 453 = some (.invokevirtual 54, 3, 112, 0, 0, [(4, 45), (4, 46), (4, 47)]) := rfl
theorem el_456 : pm_at_pc pd_law 456 = some (.aload_n 2, 1, 0, 0, 0, []) := rfl
theorem el_457 : pm_at_pc pd_law 457 = some (.aload_n 0, 1, 0, 0, 0, []) := rfl
theorem el_458 : pm_at_pc pd_law 458 = some (.iload_n 3, 1, 0, 0, 0, []) := rfl
theorem el_459 : pm_at_pc pd_law 459 = some (.iconst 1, 1, 0, 0, 0, []) := rfl
theorem el_460 : pm_at_pc pd_law 460 = some (.iadd, 1, 0, 0, 0, []) := rfl
theorem el_461 : pm_at_pc pd_law 461 = some (.iaload, 1, 0, 0, 0, []) := rfl
theorem el_462 : pm_at_pc pd_law 462 = some (.aload_n 0, 1, 0, 0, 0, []) := rfl
theorem el_463 : pm_at_pc pd_law 463 = some (.iload_n 3, 1, 0, 0, 0, []) := rfl
theorem el_464 : pm_at_pc pd_law 464 = some (.iconst 2, 1, 0, 0, 0, []) := rfl
theorem el_465 : pm_at_pc pd_law 465 = some (.iadd, 1, 0, 0, 0, []) := rfl
theorem el_466 : pm_at_pc pd_law 466 = some (.iaload, 1, 0, 0, 0, []) := rfl
theorem el_467 : pm_at_pc pd_law 467 = some (.invokevirtual 57, 3, 203, 0, 0, [(7, 89), (7, 90), (7, 91)]) := rfl
theorem el_470 : pm_at_pc pd_law 470 = some (.if_icmp .eq 539, 3, 1009, 0, 0, []) := rfl
theorem el_473 : pm_at_pc pd_law 473 = some (.iconst 0, 1, 0, 0, 0, []) := rfl
theorem el_474 : pm_at_pc pd_law 474 = some (.ireturn, 1, 0, 0, 0, []) := rfl
theorem el_475 : pm_at_pc pd_law 475 = some (.aload_n 1, 1, 0, 0, 0, []) := rfl
theorem el_476 : pm_at_pc pd_law 476 = some (.aload_n 0, 1, 0, 0, 0, []) := rfl
theorem el_477 : pm_at_pc pd_law 477 = some (.iload_n 3, 1, 0, 0, 0, []) := rfl
theorem el_478 : pm_at_pc pd_law 478 = some (.iconst 1, 1, 0, 0, 0, []) := rfl
theorem el_479 : pm_at_pc pd_law 479 = some (.iadd, 1, 0, 0, 0, []) := rfl
theorem el_480 : pm_at_pc pd_law 480 = some (.iaload, 1, 0, 0, 0, []) := rfl
theorem el_481 : pm_at_pc pd_law 481 = some (.aload_n 0, 1, 0, 0, 0, []) := rfl
theorem el_482 : pm_at_pc pd_law 482 = some (.iload_n 3, 1, 0, 0, 0, []) := rfl
theorem el_483 : pm_at_pc pd_law 483 = some (.iconst 2, 1, 0, 0, 0, []) := rfl
theorem el_484 : pm_at_pc pd_law 484 = some (.iadd, 1, 0, 0, 0, []) := rfl
theorem el_485 : pm_at_pc pd_law 485 = some (.iaload, 1, 0, 0, 0, []) := rfl
theorem el_486 : pm_at_pc pd_law 486 = some (.invokevirtual 58, 3, 113, 0, 0, [(4, 53), (4, 54), (4, 55)]) := rfl
theorem el_489 : pm_at_pc pd_law 489 = some (.aload_n 2, 1, 0, 0, 0, []) := rfl
theorem el_490 : pm_at_pc pd_law 490 = some (.aload_n 0, 1, 0, 0, 0, []) := rfl
theorem el_491 : pm_at_pc pd_law 491 = some (.iload_n 3, 1, 0, 0, 0, []) := rfl
theorem el_492 : pm_at_pc pd_law 492 = some (.iconst 1, 1, 0, 0, 0, []) := rfl
theorem el_493 : pm_at_pc pd_law 493 = some (.iadd, 1, 0, 0, 0, []) := rfl
theorem el_494 : pm_at_pc pd_law 494 = some (.iaload, 1, 0, 0, 0, []) := rfl
theorem el_495 : pm_at_pc pd_law 495 = some (.aload_n 0, 1, 0, 0, 0, []) := rfl
theorem el_496 : pm_at_pc pd_law 496 = some (.iload_n 3, 1, 0, 0, 0, []) := rfl
theorem el_497 : pm_at_pc pd_law 497 = some (.iconst 2, 1, 0, 0, 0, []) := rfl
theorem el_498 : pm_at_pc pd_law 498 = some (.iadd, 1, 0, 0, 0, []) := rfl
theorem el_499 : pm_at_pc pd_law 499 = some (.iaload, 1, 0, 0, 0, []) := rfl
theorem el_500 : pm_at_pc pd_law 500 = some (.invokevirtual 61, 3, 215, 0, 0, [(7, 93), (7, 94), (7, 95)]) := rfl
theorem el_503 : pm_at_pc pd_law 503 = some (.lcmp, 1, 0, 0, 0, []) := rfl
theorem el_504 : pm_at_pc pd_law 504 = some (.ifCond .eq 505, 3, 1009, 0, 0, []) := rfl
theorem el_507 : pm_at_pc pd_law 507 = some (.iconst 0, 1, 0, 0, 0, []) := rfl
theorem el_508 : pm_at_pc pd_law 508 = some (.ireturn, 1, 0, 0, 0, []) := rfl
theorem el_509 : pm_at_pc pd_law 509 = some (.aload_n 1, 1, 0, 0, 0, []) := rfl
theorem el_510 : pm_at_pc pd_law 510 = some (.aload_n 0, 1, 0, 0, 0, []) := rfl
theorem el_511 : pm_at_pc pd_law 511 = some (.iload_n 3, 1, 0, 0, 0, []) := rfl
theorem el_512 : pm_at_pc pd_law 512 = some (.iconst 1, 1, 0, 0, 0, []) := rfl
theorem el_513 : pm_at_pc pd_law 513 = some (.iadd, 1, 0, 0, 0, []) := rfl
theorem el_514 : pm_at_pc pd_law 514 = some (.iaload, 1, 0, 0, 0, []) := rfl
theorem el_515 : pm_at_pc pd_law 515 = some (.aload_n 0, 1, 0, 0, 0, []) := rfl
theorem el_516 : pm_at_pc pd_law 516 = some (.iload_n 3, 1, 0, 0, 0, []) := rfl
theorem el_517 : pm_at_pc pd_law 517 = some (.iconst 2, 1, 0, 0, 0, []) := rfl
theorem el_518 : pm_at_pc pd_law 518 = some (.iadd, 1, 0, 0, 0, []) := rfl
theorem el_519 : pm_at_pc pd_law 519 = some (.iaload, 1, 0, 0, 0, []) := rfl
theorem el_520 : pm_at_pc pd_law 520 = some (.invokevirtual 62, 3, 114, 0, 0, [(4, 87), (4, 88), (4, 89)]) := rfl
theorem el_523 : pm_at_pc pd_law 523 = some (.aload_n 2, 1, 0, 0, 0, []) := rfl
theorem el_524 : pm_at_pc pd_law 524 = some (.aload_n 0, 1, 0, 0, 0, []) := rfl
theorem el_525 : pm_at_pc pd_law 525 = some (.iload_n 3, 1, 0, 0, 0, []) := rfl
theorem el_526 : pm_at_pc pd_law 526 = some (.iconst 1, 1, 0, 0, 0, []) := rfl
theorem el_527 : pm_at_pc pd_law 527 = some (.iadd, 1, 0, 0, 0, []) := rfl
theorem el_528 : pm_at_pc pd_law 528 = some (.iaload, 1, 0, 0, 0, []) := rfl
theorem el_529 : pm_at_pc pd_law 529 = some (.aload_n 0, 1, 0, 0, 0, []) := rfl
theorem el_530 : pm_at_pc pd_law 530 = some (.iload_n 3, 1, 0, 0, 0, []) := rfl
theorem el_531 : pm_at_pc pd_law 531 = some (.iconst 2, 1, 0, 0, 0, []) := rfl
theorem el_532 : pm_at_pc pd_law 532 = some (.iadd, 1, 0, 0, 0, []) := rfl
theorem el_533 : pm_at_pc pd_law 533 = some (.iaload, 1, 0, 0, 0, []) := rfl
theorem el_534 : pm_at_pc pd_law 534 = some (.invokevirtual 65, 3, 217, 0, 0, [(7, 123), (7, 124), (7, 125)]) := rfl
theorem el_537 : pm_at_pc pd_law 537 = some (.if_icmp .eq 472, 3, 1009, 0, 0, []) := rfl
theorem el_540 : pm_at_pc pd_law 540 = some (.iconst 0, 1, 0, 0, 0, []) := rfl
theorem el_541 : pm_at_pc pd_law 541 = some (.ireturn, 1, 0, 0, 0, []) := rfl
theorem el_542 : pm_at_pc pd_law 542 = some (.aload_n 1, 1, 0, 0, 0, []) := rfl
theorem el_543 : pm_at_pc pd_law 543 = some (.aload_n 0, 1, 0, 0, 0, []) := rfl
theorem el_544 : pm_at_pc pd_law 544 = some (.iload_n 3, 1, 0, 0, 0, []) := rfl
theorem el_545 : pm_at_pc pd_law 545 = some (.iconst 1, 1, 0, 0, 0, []) := rfl
theorem el_546 : pm_at_pc pd_law 546 = some (.iadd, 1, 0, 0, 0, []) := rfl
theorem el_547 : pm_at_pc pd_law 547 = some (.iaload, 1, 0, 0, 0, []) := rfl
theorem el_548 : pm_at_pc pd_law 548 = some (.invokevirtual 66, 3, 115, 0, 0, [(4, 102), (4, 103), (4, 104)]) := rfl
theorem el_551 : pm_at_pc pd_law 551 = some (.aload_n 2, 1, 0, 0, 0, []) := rfl
theorem el_552 : pm_at_pc pd_law 552 = some (.aload_n 0, 1, 0, 0, 0, []) := rfl
theorem el_553 : pm_at_pc pd_law 553 = some (.iload_n 3, 1, 0, 0, 0, []) := rfl
theorem el_554 : pm_at_pc pd_law 554 = some (.iconst 1, 1, 0, 0, 0, []) := rfl
theorem el_555 : pm_at_pc pd_law 555 = some (.iadd, 1, 0, 0, 0, []) := rfl
theorem el_556 : pm_at_pc pd_law 556 = some (.iaload, 1, 0, 0, 0, []) := rfl
theorem el_557 : pm_at_pc pd_law 557 = some (.invokevirtual 69, 3, 220, 0, 0, [(7, 132), (7, 133), (7, 134)]) := rfl
theorem el_560 : pm_at_pc pd_law 560 = some (.if_icmp .eq 449, 3, 1009, 0, 0, []) := rfl
theorem el_563 : pm_at_pc pd_law 563 = some (.iconst 0, 1, 0, 0, 0, []) := rfl
theorem el_564 : pm_at_pc pd_law 564 = some (.ireturn, 1, 0, 0, 0, []) := rfl
theorem el_565 : pm_at_pc pd_law 565 = some (.aload_n 1, 1, 0, 0, 0, []) := rfl
theorem el_566 : pm_at_pc pd_law 566 = some (.aload_n 0, 1, 0, 0, 0, []) := rfl
theorem el_567 : pm_at_pc pd_law 567 = some (.iload_n 3, 1, 0, 0, 0, []) := rfl
theorem el_568 : pm_at_pc pd_law 568 = some (.iconst 1, 1, 0, 0, 0, []) := rfl
theorem el_569 : pm_at_pc pd_law 569 = some (.iadd, 1, 0, 0, 0, []) := rfl
theorem el_570 : pm_at_pc pd_law 570 = some (.iaload, 1, 0, 0, 0, []) := rfl
theorem el_571 : pm_at_pc pd_law 571 = some (.aload_n 0, 1, 0, 0, 0, []) := rfl
theorem el_572 : pm_at_pc pd_law 572 = some (.iload_n 3, 1, 0, 0, 0, []) := rfl
theorem el_573 : pm_at_pc pd_law 573 = some (.iconst 2, 1, 0, 0, 0, []) := rfl
theorem el_574 : pm_at_pc pd_law 574 = some (.iadd, 1, 0, 0, 0, []) := rfl
theorem el_575 : pm_at_pc pd_law 575 = some (.iaload, 1, 0, 0, 0, []) := rfl
theorem el_576 : pm_at_pc pd_law 576 = some (.invokevirtual 70, 3, 116, 0, 0, [(4, 137), (4, 138), (4, 139)]) := rfl
theorem el_579 : pm_at_pc pd_law 579 = some (.aload_n 2, 1, 0, 0, 0, []) := rfl
theorem el_580 : pm_at_pc pd_law 580 = some (.aload_n 0, 1, 0, 0, 0, []) := rfl
theorem el_581 : pm_at_pc pd_law 581 = some (.iload_n 3, 1, 0, 0, 0, []) := rfl
theorem el_582 : pm_at_pc pd_law 582 = some (.iconst 1, 1, 0, 0, 0, []) := rfl
theorem el_583 : pm_at_pc pd_law 583 = some (.iadd, 1, 0, 0, 0, []) := rfl
theorem el_584 : pm_at_pc pd_law 584 = some (.iaload, 1, 0, 0, 0, []) := rfl
theorem el_585 : pm_at_pc pd_law 585 = some (.aload_n 0, 1, 0, 0, 0, []) := rfl
theorem el_586 : pm_at_pc pd_law 586 = some (.iload_n 3, 1, 0, 0, 0, []) := rfl
theorem el_587 : pm_at_pc pd_law 587 = some (.iconst 2, 1, 0, 0, 0, []) := rfl
theorem el_588 : pm_at_pc pd_law 588 = some (.iadd, 1, 0, 0, 0, []) := rfl
theorem el_589 : pm_at_pc pd_law 589 = some (.iaload, 1, 0, 0, 0, []) := rfl
theorem el_590 : pm_at_pc pd_law 590 = some (.invokevirtual 73, 3, 221, 0, 0, [(7, 164), (7, 165), (7, 166)]) := rfl
theorem el_593 : pm_at_pc pd_law 593 = some (.if_icmp .eq 416, 3, 1009, 0, 0, []) := rfl
theorem el_596 : pm_at_pc pd_law 596 = some (.iconst 0, 1, 0, 0, 0, []) := rfl
theorem el_597 : pm_at_pc pd_law 597 = some (.ireturn, 1, 0, 0, 0, []) := rfl
theorem el_598 : pm_at_pc pd_law 598 = some (.aload_n 1, 1, 0, 0, 0, []) := rfl
theorem el_599 : pm_at_pc pd_law 599 = some (.aload_n 0, 1, 0, 0, 0, []) := rfl
theorem el_600 : pm_at_pc pd_law 600 = some (.iload_n 3, 1, 0, 0, 0, []) := rfl
theorem el_601 : pm_at_pc pd_law 601 = some (.iconst 1, 1, 0, 0, 0, []) := rfl
theorem el_602 : pm_at_pc pd_law 602 = some (.iadd, 1, 0, 0, 0, []) := rfl
theorem el_603 : pm_at_pc pd_law 603 = some (.iaload, 1, 0, 0, 0, []) := rfl
theorem el_604 : pm_at_pc pd_law 604 = some (.invokevirtual 74, 3, 117, 0, 0, [(4, 141), (4, 142), (4, 143)]) := rfl
theorem el_607 : pm_at_pc pd_law 607 = some (.aload_n 2, 1, 0, 0, 0, []) := rfl
theorem el_608 : pm_at_pc pd_law 608 = some (.aload_n 0, 1, 0, 0, 0, []) := rfl
theorem el_609 : pm_at_pc pd_law 609 = some (.iload_n 3, 1, 0, 0, 0, []) := rfl
theorem el_610 : pm_at_pc pd_law 610 = some (.iconst 1, 1, 0, 0, 0, []) := rfl
theorem el_611 : pm_at_pc pd_law 611 = some (.iadd, 1, 0, 0, 0, []) := rfl
theorem el_612 : pm_at_pc pd_law 612 = some (.iaload, 1, 0, 0, 0, []) := rfl
theorem el_613 : pm_at_pc pd_law 613 = some (.invokevirtual 77, 3, 223, 0, 0, [(7, 168), (7, 169), (7, 170)]) := rfl
theorem el_616 : pm_at_pc pd_law 616 = some (.if_icmp .eq 393, 3, 1009, 0, 0, []) := rfl
theorem el_619 : pm_at_pc pd_law 619 = some (.iconst 0, 1, 0, 0, 0, []) := rfl
theorem el_620 : pm_at_pc pd_law 620 = some (.ireturn, 1, 0, 0, 0, []) := rfl
theorem el_621 : pm_at_pc pd_law 621 = some (.aload_n 1, 1, 0, 0, 0, []) := rfl
theorem el_622 : pm_at_pc pd_law 622 = some (.aload_n 0, 1, 0, 0, 0, []) := rfl
theorem el_623 : pm_at_pc pd_law 623 = some (.iload_n 3, 1, 0, 0, 0, []) := rfl
theorem el_624 : pm_at_pc pd_law 624 = some (.iconst 1, 1, 0, 0, 0, []) := rfl
theorem el_625 : pm_at_pc pd_law 625 = some (.iadd, 1, 0, 0, 0, []) := rfl
theorem el_626 : pm_at_pc pd_law 626 = some (.iaload, 1, 0, 0, 0, []) := rfl
theorem el_627 : pm_at_pc pd_law 627 = some (.aload_n 0, 1, 0, 0, 0, []) := rfl
theorem el_628 : pm_at_pc pd_law 628 = some (.iload_n 3, 1, 0, 0, 0, []) := rfl
theorem el_629 : pm_at_pc pd_law 629 = some (.iconst 2, 1, 0, 0, 0, []) := rfl
theorem el_630 : pm_at_pc pd_law 630 = some (.iadd, 1, 0, 0, 0, []) := rfl
theorem el_631 : pm_at_pc pd_law 631 = some (.iaload, 1, 0, 0, 0, []) := rfl
theorem el_632 : pm_at_pc pd_law 632 = some (.aload_n 0, 1, 0, 0, 0, []) := rfl
theorem el_633 : pm_at_pc pd_law 633 = some (.iload_n 3, 1, 0, 0, 0, []) := rfl
theorem el_634 : pm_at_pc pd_law 634 = some (.iconst 3, 1, 0, 0, 0, []) := rfl
theorem el_635 : pm_at_pc pd_law 635 = some (.iadd, 1, 0, 0, 0, []) := rfl
theorem el_636 : pm_at_pc pd_law 636 = some (.iaload, 1, 0, 0, 0, []) := rfl
theorem el_637 : pm_at_pc pd_law 637 = some (.invokevirtual 78, 3, 118, 0, 0, [(4, 145), (4, 146), (4, 147)]) := rfl
theorem el_640 : pm_at_pc pd_law 640 = some (.aload_n 2, 1, 0, 0, 0, []) := rfl
theorem el_641 : pm_at_pc pd_law 641 = some (.aload_n 0, 1, 0, 0, 0, []) := rfl
theorem el_642 : pm_at_pc pd_law 642 = some (.iload_n 3, 1, 0, 0, 0, []) := rfl
theorem el_643 : pm_at_pc pd_law 643 = some (.iconst 1, 1, 0, 0, 0, []) := rfl
theorem el_644 : pm_at_pc pd_law 644 = some (.iadd, 1, 0, 0, 0, []) := rfl
theorem el_645 : pm_at_pc pd_law 645 = some (.iaload, 1, 0, 0, 0, []) := rfl
theorem el_646 : pm_at_pc pd_law 646 = some (.aload_n 0, 1, 0, 0, 0, []) := rfl
theorem el_647 : pm_at_pc pd_law 647 = some (.iload_n 3, 1, 0, 0, 0, []) := rfl
theorem el_648 : pm_at_pc pd_law 648 = some (.iconst 2, 1, 0, 0, 0, []) := rfl
theorem el_649 : pm_at_pc pd_law 649 = some (.iadd, 1, 0, 0, 0, []) := rfl
theorem el_650 : pm_at_pc pd_law 650 = some (.iaload, 1, 0, 0, 0, []) := rfl
theorem el_651 : pm_at_pc pd_law 651 = some (.aload_n 0, 1, 0, 0, 0, []) := rfl
theorem el_652 : pm_at_pc pd_law 652 = some (.iload_n 3, 1, 0, 0, 0, []) := rfl
theorem el_653 : pm_at_pc pd_law 653 = some (.iconst 3, 1, 0, 0, 0, []) := rfl
theorem el_654 : pm_at_pc pd_law 654 = some (.iadd, 1, 0, 0, 0, []) := rfl
theorem el_655 : pm_at_pc pd_law 655 = some (.iaload, 1, 0, 0, 0, []) := rfl
theorem el_656 : pm_at_pc pd_law 656 = some (.invokevirtual 82, 3, 224, 0, 0, [(7, 176), (7, 177), (7, 178)]) := rfl
theorem el_659 : pm_at_pc pd_law 659 = some (.lcmp, 1, 0, 0, 0, []) := rfl
theorem el_660 : pm_at_pc pd_law 660 = some (.ifCond .eq 349, 3, 1009, 0, 0, []) := rfl
theorem el_663 : pm_at_pc pd_law 663 = some (.iconst 0, 1, 0, 0, 0, []) := rfl
theorem el_664 : pm_at_pc pd_law 664 = some (.ireturn, 1, 0, 0, 0, []) := rfl
theorem el_665 : pm_at_pc pd_law 665 = some (.aload_n 1, 1, 0, 0, 0, []) := rfl
theorem el_666 : pm_at_pc pd_law 666 = some (.aload_n 0, 1, 0, 0, 0, []) := rfl
theorem el_667 : pm_at_pc pd_law 667 = some (.iload_n 3, 1, 0, 0, 0, []) := rfl
theorem el_668 : pm_at_pc pd_law 668 = some (.iconst 1, 1, 0, 0, 0, []) := rfl
theorem el_669 : pm_at_pc pd_law 669 = some (.iadd, 1, 0, 0, 0, []) := rfl
theorem el_670 : pm_at_pc pd_law 670 = some (.iaload, 1, 0, 0, 0, []) := rfl
theorem el_671 : pm_at_pc pd_law 671 = some (.aload_n 0, 1, 0, 0, 0, []) := rfl
theorem el_672 : pm_at_pc pd_law 672 = some (.iload_n 3, 1, 0, 0, 0, []) := rfl
theorem el_673 : pm_at_pc pd_law 673 = some (.iconst 2, 1, 0, 0, 0, []) := rfl
theorem el_674 : pm_at_pc pd_law 674 = some (.iadd, 1, 0, 0, 0, []) := rfl
theorem el_675 : pm_at_pc pd_law 675 = some (.iaload, 1, 0, 0, 0, []) := rfl
theorem el_676 : pm_at_pc pd_law 676 = some (.aload_n 0, 1, 0, 0, 0, []) := rfl
theorem el_677 : pm_at_pc pd_law 677 = some (.iload_n 3, 1, 0, 0, 0, []) := rfl
theorem el_678 : pm_at_pc pd_law 678 = some (.iconst 3, 1, 0, 0, 0, []) := rfl
theorem el_679 : pm_at_pc pd_law 679 = some (.iadd, 1, 0, 0, 0, []) := rfl
theorem el_680 : pm_at_pc pd_law 680 = some (.iaload, 1, 0, 0, 0, []) := rfl
theorem el_681 : pm_at_pc pd_law 681 = some (.aload_n 0, 1, 0, 0, 0, []) := rfl
theorem el_682 : pm_at_pc pd_law 682 = some (.iload_n 3, 1, 0, 0, 0, []) := rfl
theorem el_683 : pm_at_pc pd_law 683 = some (.iconst 4, 1, 0, 0, 0, []) := rfl
theorem el_684 : pm_at_pc pd_law 684 = some (.iadd, 1, 0, 0, 0, []) := rfl
theorem el_685 : pm_at_pc pd_law 685 = some (.iaload, 1, 0, 0, 0, []) := rfl
theorem el_686 : pm_at_pc pd_law 686 = some (.invokevirtual 83, 3, 119, 0, 0, [(4, 155), (4, 156), (4, 157)]) := rfl
theorem el_689 : pm_at_pc pd_law 689 = some (.aload_n 2, 1, 0, 0, 0, []) := rfl
theorem el_690 : pm_at_pc pd_law 690 = some (.aload_n 0, 1, 0, 0, 0, []) := rfl
theorem el_691 : pm_at_pc pd_law 691 = some (.iload_n 3, 1, 0, 0, 0, []) := rfl
theorem el_692 : pm_at_pc pd_law 692 = some (.iconst 1, 1, 0, 0, 0, []) := rfl
theorem el_693 : pm_at_pc pd_law 693 = some (.iadd, 1, 0, 0, 0, []) := rfl
theorem el_694 : pm_at_pc pd_law 694 = some (.iaload, 1, 0, 0, 0, []) := rfl
theorem el_695 : pm_at_pc pd_law 695 = some (.aload_n 0, 1, 0, 0, 0, []) := rfl
theorem el_696 : pm_at_pc pd_law 696 = some (.iload_n 3, 1, 0, 0, 0, []) := rfl
theorem el_697 : pm_at_pc pd_law 697 = some (.iconst 2, 1, 0, 0, 0, []) := rfl
theorem el_698 : pm_at_pc pd_law 698 = some (.iadd, 1, 0, 0, 0, []) := rfl
theorem el_699 : pm_at_pc pd_law 699 = some (.iaload, 1, 0, 0, 0, []) := rfl
theorem el_700 : pm_at_pc pd_law 700 = some (.aload_n 0, 1, 0, 0, 0, []) := rfl
theorem el_701 : pm_at_pc pd_law 701 = some (.iload_n 3, 1, 0, 0, 0, []) := rfl
theorem el_702 : pm_at_pc pd_law 702 = some (.iconst 3, 1, 0, 0, 0, []) := rfl
theorem el_703 : pm_at_pc pd_law 703 = some (.iadd, 1, 0, 0, 0, []) := rfl
theorem el_704 : pm_at_pc pd_law 704 = some (.iaload, 1, 0, 0, 0, []) := rfl
theorem el_705 : pm_at_pc pd_law 705 = some (.aload_n 0, 1, 0, 0, 0, []) := rfl
theorem el_706 : pm_at_pc pd_law 706 = some (.iload_n 3, 1, 0, 0, 0, []) := rfl
theorem el_707 : pm_at_pc pd_law 707 = some (.iconst 4, 1, 0, 0, 0, []) := rfl
theorem el_708 : pm_at_pc pd_law 708 = some (.iadd, 1, 0, 0, 0, []) := rfl
theorem el_709 : pm_at_pc pd_law 709 = some (.iaload, 1, 0, 0, 0, []) := rfl
theorem el_710 : pm_at_pc pd_law 710 = some (.invokevirtual 87, 3, 226, 0, 0, [(7, 185), (7, 186), (7, 187)]) := rfl
theorem el_713 : pm_at_pc pd_law 713 = some (.if_icmp .eq 296, 3, 1009, 0, 0, []) := rfl
theorem el_716 : pm_at_pc pd_law 716 = some (.iconst 0, 1, 0, 0, 0, []) := rfl
theorem el_717 : pm_at_pc pd_law 717 = some (.ireturn, 1, 0, 0, 0, []) := rfl
theorem el_718 : pm_at_pc pd_law 718 = some (.aload_n 1, 1, 0, 0, 0, []) := rfl
theorem el_719 : pm_at_pc pd_law 719 = some (.aload_n 0, 1, 0, 0, 0, []) := rfl
theorem el_720 : pm_at_pc pd_law 720 = some (.iload_n 3, 1, 0, 0, 0, []) := rfl
theorem el_721 : pm_at_pc pd_law 721 = some (.iconst 1, 1, 0, 0, 0, []) := rfl
theorem el_722 : pm_at_pc pd_law 722 = some (.iadd, 1, 0, 0, 0, []) := rfl
theorem el_723 : pm_at_pc pd_law 723 = some (.iaload, 1, 0, 0, 0, []) := rfl
theorem el_724 : pm_at_pc pd_law 724 = some (.aload_n 0, 1, 0, 0, 0, []) := rfl
theorem el_725 : pm_at_pc pd_law 725 = some (.iload_n 3, 1, 0, 0, 0, []) := rfl
theorem el_726 : pm_at_pc pd_law 726 = some (.iconst 2, 1, 0, 0, 0, []) := rfl
theorem el_727 : pm_at_pc pd_law 727 = some (.iadd, 1, 0, 0, 0, []) := rfl
theorem el_728 : pm_at_pc pd_law 728 = some (.iaload, 1, 0, 0, 0, []) := rfl
theorem el_729 : pm_at_pc pd_law 729 = some (.aload_n 0, 1, 0, 0, 0, []) := rfl
theorem el_730 : pm_at_pc pd_law 730 = some (.iload_n 3, 1, 0, 0, 0, []) := rfl
theorem el_731 : pm_at_pc pd_law 731 = some (.iconst 3, 1, 0, 0, 0, []) := rfl
theorem el_732 : pm_at_pc pd_law 732 = some (.iadd, 1, 0, 0, 0, []) := rfl
theorem el_733 : pm_at_pc pd_law 733 = some (.iaload, 1, 0, 0, 0, []) := rfl
theorem el_734 : pm_at_pc pd_law 734 = some (.invokevirtual 88, 3, 120, 0, 0, [(4, 179), (4, 180), (4, 181)]) := rfl
theorem el_737 : pm_at_pc pd_law 737 = some (.aload_n 2, 1, 0, 0, 0, []) := rfl
theorem el_738 : pm_at_pc pd_law 738 = some (.aload_n 0, 1, 0, 0, 0, []) := rfl
theorem el_739 : pm_at_pc pd_law 739 = some (.iload_n 3, 1, 0, 0, 0, []) := rfl
theorem el_740 : pm_at_pc pd_law 740 = some (.iconst 1, 1, 0, 0, 0, []) := rfl
theorem el_741 : pm_at_pc pd_law 741 = some (.iadd, 1, 0, 0, 0, []) := rfl
theorem el_742 : pm_at_pc pd_law 742 = some (.iaload, 1, 0, 0, 0, []) := rfl
theorem el_743 : pm_at_pc pd_law 743 = some (.aload_n 0, 1, 0, 0, 0, []) := rfl
theorem el_744 : pm_at_pc pd_law 744 = some (.iload_n 3, 1, 0, 0, 0, []) := rfl
theorem el_745 : pm_at_pc pd_law 745 = some (.iconst 2, 1, 0, 0, 0, []) := rfl
theorem el_746 : pm_at_pc pd_law 746 = some (.iadd, 1, 0, 0, 0, []) := rfl
theorem el_747 : pm_at_pc pd_law 747 = some (.iaload, 1, 0, 0, 0, []) := rfl
theorem el_748 : pm_at_pc pd_law 748 = some (.aload_n 0, 1, 0, 0, 0, []) := rfl
theorem el_749 : pm_at_pc pd_law 749 = some (.iload_n 3, 1, 0, 0, 0, []) := rfl
theorem el_750 : pm_at_pc pd_law 750 = some (.iconst 3, 1, 0, 0, 0, []) := rfl
theorem el_751 : pm_at_pc pd_law 751 = some (.iadd, 1, 0, 0, 0, []) := rfl
theorem el_752 : pm_at_pc pd_law 752 = some (.iaload, 1, 0, 0, 0, []) := rfl
theorem el_753 : pm_at_pc pd_law 753 = some (.invokevirtual 92, 3, 230, 0, 0, [(7, 193), (7, 194), (7, 195)]) := rfl
theorem el_756 : pm_at_pc pd_law 756 = some (.if_icmp .eq 253, 3, 1009, 0, 0, []) := rfl
theorem el_759 : pm_at_pc pd_law 759 = some (.iconst 0, 1, 0, 0, 0, []) := rfl
theorem el_760 : pm_at_pc pd_law 760 = some (.ireturn, 1, 0, 0, 0, []) := rfl
theorem el_761 : pm_at_pc pd_law 761 = some (.aload_n 1, 1, 0, 0, 0, []) := rfl
theorem el_762 : pm_at_pc pd_law 762 = some (.aload_n 0, 1, 0, 0, 0, []) := rfl
theorem el_763 : pm_at_pc pd_law 763 = some (.iload_n 3, 1, 0, 0, 0, []) := rfl
theorem el_764 : pm_at_pc pd_law 764 = some (.iconst 1, 1, 0, 0, 0, []) := rfl
theorem el_765 : pm_at_pc pd_law 765 = some (.iadd, 1, 0, 0, 0, []) := rfl
theorem el_766 : pm_at_pc pd_law 766 = some (.iaload, 1, 0, 0, 0, []) := rfl
theorem el_767 : pm_at_pc pd_law 767 = some (.aload_n 0, 1, 0, 0, 0, []) := rfl
theorem el_768 : pm_at_pc pd_law 768 = some (.iload_n 3, 1, 0, 0, 0, []) := rfl
theorem el_769 : pm_at_pc pd_law 769 = some (.iconst 2, 1, 0, 0, 0, []) := rfl
theorem el_770 : pm_at_pc pd_law 770 = some (.iadd, 1, 0, 0, 0, []) := rfl
theorem el_771 : pm_at_pc pd_law 771 = some (.iaload, 1, 0, 0, 0, []) := rfl
theorem el_772 : pm_at_pc pd_law 772 = some (.invokevirtual 93, 3, 121, 0, 0, [(4, 202), (4, 203), (4, 204)]) := rfl
theorem el_775 : pm_at_pc pd_law 775 = some (.aload_n 2, 1, 0, 0, 0, []) := rfl
theorem el_776 : pm_at_pc pd_law 776 = some (.aload_n 0, 1, 0, 0, 0, []) := rfl
theorem el_777 : pm_at_pc pd_law 777 = some (.iload_n 3, 1, 0, 0, 0, []) := rfl
theorem el_778 : pm_at_pc pd_law 778 = some (.iconst 1, 1, 0, 0, 0, []) := rfl
theorem el_779 : pm_at_pc pd_law 779 = some (.iadd, 1, 0, 0, 0, []) := rfl
theorem el_780 : pm_at_pc pd_law 780 = some (.iaload, 1, 0, 0, 0, []) := rfl
theorem el_781 : pm_at_pc pd_law 781 = some (.aload_n 0, 1, 0, 0, 0, []) := rfl
theorem el_782 : pm_at_pc pd_law 782 = some (.iload_n 3, 1, 0, 0, 0, []) := rfl
theorem el_783 : pm_at_pc pd_law 783 = some (.iconst 2, 1, 0, 0, 0, []) := rfl
theorem el_784 : pm_at_pc pd_law 784 = some (.iadd, 1, 0, 0, 0, []) := rfl
theorem el_785 : pm_at_pc pd_law 785 = some (.iaload, 1, 0, 0, 0, []) := rfl
theorem el_786 : pm_at_pc pd_law 786 = some (.invokevirtual 96, 3, 235, 0, 0, [(7, 209), (7, 210), (7, 211)]) := rfl
theorem el_789 : pm_at_pc pd_law 789 = some (.if_icmp .eq 220, 3, 1009, 0, 0, []) := rfl
theorem el_792 : pm_at_pc pd_law 792 = some (.iconst 0, 1, 0, 0, 0, []) := rfl
theorem el_793 : pm_at_pc pd_law 793 = some (.ireturn, 1, 0, 0, 0, []) := rfl
theorem el_794 : pm_at_pc pd_law 794 = some (.aload_n 1, 1, 0, 0, 0, []) := rfl
theorem el_795 : pm_at_pc pd_law 795 = some (.aload_n 0, 1, 0, 0, 0, []) := rfl
theorem el_796 : pm_at_pc pd_law 796 = some (.iload_n 3, 1, 0, 0, 0, []) := rfl
theorem el_797 : pm_at_pc pd_law 797 = some (.iconst 1, 1, 0, 0, 0, []) := rfl
theorem el_798 : pm_at_pc pd_law 798 = some (.iadd, 1, 0, 0, 0, []) := rfl
theorem el_799 : pm_at_pc pd_law 799 = some (.iaload, 1, 0, 0, 0, []) := rfl
theorem el_800 : pm_at_pc pd_law 800 = some (.invokevirtual 97, 3, 122, 0, 0, [(4, 237), (4, 238), (4, 239)]) := rfl
theorem el_803 : pm_at_pc pd_law 803 = some (.aload_n 2, 1, 0, 0, 0, []) := rfl
theorem el_804 : pm_at_pc pd_law 804 = some (.aload_n 0, 1, 0, 0, 0, []) := rfl
theorem el_805 : pm_at_pc pd_law 805 = some (.iload_n 3, 1, 0, 0, 0, []) := rfl
theorem el_806 : pm_at_pc pd_law 806 = some (.iconst 1, 1, 0, 0, 0, []) := rfl
theorem el_807 : pm_at_pc pd_law 807 = some (.iadd, 1, 0, 0, 0, []) := rfl
theorem el_808 : pm_at_pc pd_law 808 = some (.iaload, 1, 0, 0, 0, []) := rfl
theorem el_809 : pm_at_pc pd_law 809 = some (.invokevirtual 100, 3, 238, 0, 0, [(7, 238), (7, 239), (8, 0)]) := rfl
theorem el_812 : pm_at_pc pd_law 812 = some (.if_icmp .eq 197, 3, 1009, 0, 0, []) := rfl
theorem el_815 : pm_at_pc pd_law 815 = some (.iconst 0, 1, 0, 0, 0, []) := rfl
theorem el_816 : pm_at_pc pd_law 816 = some (.ireturn, 1, 0, 0, 0, []) := rfl
theorem el_817 : pm_at_pc pd_law 817 = some (.aload_n 1, 1, 0, 0, 0, []) := rfl
theorem el_818 : pm_at_pc pd_law 818 = some (.aload_n 0, 1, 0, 0, 0, []) := rfl
theorem el_819 : pm_at_pc pd_law 819 = some (.iload_n 3, 1, 0, 0, 0, []) := rfl
theorem el_820 : pm_at_pc pd_law 820 = some (.iconst 1, 1, 0, 0, 0, []) := rfl
theorem el_821 : pm_at_pc pd_law 821 = some (.iadd, 1, 0, 0, 0, []) := rfl
theorem el_822 : pm_at_pc pd_law 822 = some (.iaload, 1, 0, 0, 0, []) := rfl
theorem el_823 : pm_at_pc pd_law 823 = some (.invokevirtual 101, 3, 123, 0, 0, [(5, 1), (5, 2), (5, 3)]) := rfl
theorem el_826 : pm_at_pc pd_law 826 = some (.aload_n 2, 1, 0, 0, 0, []) := rfl
theorem el_827 : pm_at_pc pd_law 827 = some (.aload_n 0, 1, 0, 0, 0, []) := rfl
theorem el_828 : pm_at_pc pd_law 828 = some (.iload_n 3, 1, 0, 0, 0, []) := rfl
theorem el_829 : pm_at_pc pd_law 829 = some (.iconst 1, 1, 0, 0, 0, []) := rfl
theorem el_830 : pm_at_pc pd_law 830 = some (.iadd, 1, 0, 0, 0, []) := rfl
theorem el_831 : pm_at_pc pd_law 831 = some (.iaload, 1, 0, 0, 0, []) := rfl
theorem el_832 : pm_at_pc pd_law 832 = some (.invokevirtual 105, 3, 242, 0, 0, [(8, 2), (8, 3), (8, 4)]) := rfl
theorem el_835 : pm_at_pc pd_law 835 = some (.lcmp, 1, 0, 0, 0, []) := rfl
theorem el_836 : pm_at_pc pd_law 836 = some (.ifCond .eq 173, 3, 1009, 0, 0, []) := rfl
theorem el_839 : pm_at_pc pd_law 839 = some (.iconst 0, 1, 0, 0, 0, []) := rfl
theorem el_840 : pm_at_pc pd_law 840 = some (.ireturn, 1, 0, 0, 0, []) := rfl
theorem el_841 : pm_at_pc pd_law 841 = some (.aload_n 1, 1, 0, 0, 0, []) := rfl
theorem el_842 : pm_at_pc pd_law 842 = some (.aload_n 0, 1, 0, 0, 0, []) := rfl
theorem el_843 : pm_at_pc pd_law 843 = some (.iload_n 3, 1, 0, 0, 0, []) := rfl
theorem el_844 : pm_at_pc pd_law 844 = some (.iconst 1, 1, 0, 0, 0, []) := rfl
theorem el_845 : pm_at_pc pd_law 845 = some (.iadd, 1, 0, 0, 0, []) := rfl
theorem el_846 : pm_at_pc pd_law 846 = some (.iaload, 1, 0, 0, 0, []) := rfl
theorem el_847 : pm_at_pc pd_law 847 = some (.aload_n 0, 1, 0, 0, 0, []) := rfl
theorem el_848 : pm_at_pc pd_law 848 = some (.iload_n 3, 1, 0, 0, 0, []) := rfl
theorem el_849 : pm_at_pc pd_law 849 = some (.iconst 2, 1, 0, 0, 0, []) := rfl
theorem el_850 : pm_at_pc pd_law 850 = some (.iadd, 1, 0, 0, 0, []) := rfl
theorem el_851 : pm_at_pc pd_law 851 = some (.iaload, 1, 0, 0, 0, []) := rfl
theorem el_852 : pm_at_pc pd_law 852 = some (.invokevirtual 106, 3, 124, 0, 0, [(5, 10), (5, 11), (5, 12)]) := rfl
theorem el_855 : pm_at_pc pd_law 855 = some (.aload_n 2, 1, 0, 0, 0, []) := rfl
theorem el_856 : pm_at_pc pd_law 856 = some (.aload_n 0, 1, 0, 0, 0, []) := rfl
theorem el_857 : pm_at_pc pd_law 857 = some (.iload_n 3, 1, 0, 0, 0, []) := rfl
theorem el_858 : pm_at_pc pd_law 858 = some (.iconst 1, 1, 0, 0, 0, []) := rfl
theorem el_859 : pm_at_pc pd_law 859 = some (.iadd, 1, 0, 0, 0, []) := rfl
theorem el_860 : pm_at_pc pd_law 860 = some (.iaload, 1, 0, 0, 0, []) := rfl
theorem el_861 : pm_at_pc pd_law 861 = some (.aload_n 0, 1, 0, 0, 0, []) := rfl
theorem el_862 : pm_at_pc pd_law 862 = some (.iload_n 3, 1, 0, 0, 0, []) := rfl
theorem el_863 : pm_at_pc pd_law 863 = some (.iconst 2, 1, 0, 0, 0, []) := rfl
theorem el_864 : pm_at_pc pd_law 864 = some (.iadd, 1, 0, 0, 0, []) := rfl
theorem el_865 : pm_at_pc pd_law 865 = some (.iaload, 1, 0, 0, 0, []) := rfl
theorem el_866 : pm_at_pc pd_law 866 = some (.invokevirtual 109, 3, 243, 0, 0, [(8, 18), (8, 19), (8, 20)]) := rfl
theorem el_869 : pm_at_pc pd_law 869 = some (.lcmp, 1, 0, 0, 0, []) := rfl
theorem el_870 : pm_at_pc pd_law 870 = some (.ifCond .eq 139, 3, 1009, 0, 0, []) := rfl
theorem el_873 : pm_at_pc pd_law 873 = some (.iconst 0, 1, 0, 0, 0, []) := rfl
theorem el_874 : pm_at_pc pd_law 874 = some (.ireturn, 1, 0, 0, 0, []) := rfl
theorem el_875 : pm_at_pc pd_law 875 = some (.aload_n 1, 1, 0, 0, 0, []) := rfl
theorem el_876 : pm_at_pc pd_law 876 = some (.aload_n 0, 1, 0, 0, 0, []) := rfl
theorem el_877 : pm_at_pc pd_law 877 = some (.iload_n 3, 1, 0, 0, 0, []) := rfl
theorem el_878 : pm_at_pc pd_law 878 = some (.iconst 1, 1, 0, 0, 0, []) := rfl
theorem el_879 : pm_at_pc pd_law 879 = some (.iadd, 1, 0, 0, 0, []) := rfl
theorem el_880 : pm_at_pc pd_law 880 = some (.iaload, 1, 0, 0, 0, []) := rfl
theorem el_881 : pm_at_pc pd_law 881 = some (.invokevirtual 110, 3, 125, 0, 0, [(5, 19), (5, 20), (5, 21)]) := rfl
theorem el_884 : pm_at_pc pd_law 884 = some (.aload_n 2, 1, 0, 0, 0, []) := rfl
theorem el_885 : pm_at_pc pd_law 885 = some (.aload_n 0, 1, 0, 0, 0, []) := rfl
theorem el_886 : pm_at_pc pd_law 886 = some (.iload_n 3, 1, 0, 0, 0, []) := rfl
theorem el_887 : pm_at_pc pd_law 887 = some (.iconst 1, 1, 0, 0, 0, []) := rfl
theorem el_888 : pm_at_pc pd_law 888 = some (.iadd, 1, 0, 0, 0, []) := rfl
theorem el_889 : pm_at_pc pd_law 889 = some (.iaload, 1, 0, 0, 0, []) := rfl
theorem el_890 : pm_at_pc pd_law 890 = some (.invokevirtual 113, 3, 244, 0, 0, [(8, 22), (8, 23), (8, 24)]) := rfl
theorem el_893 : pm_at_pc pd_law 893 = some (.lcmp, 1, 0, 0, 0, []) := rfl
theorem el_894 : pm_at_pc pd_law 894 = some (.ifCond .eq 115, 3, 1009, 0, 0, []) := rfl
theorem el_897 : pm_at_pc pd_law 897 = some (.iconst 0, 1, 0, 0, 0, []) := rfl
theorem el_898 : pm_at_pc pd_law 898 = some (.ireturn, 1, 0, 0, 0, []) := rfl
theorem el_899 : pm_at_pc pd_law 899 = some (.aload_n 1, 1, 0, 0, 0, []) := rfl
theorem el_900 : pm_at_pc pd_law 900 = some (.invokevirtual 114, 3, 127, 0, 0, [(5, 23), (5, 24), (5, 25)]) := rfl
theorem el_903 : pm_at_pc pd_law 903 = some (.aload_n 2, 1, 0, 0, 0, []) := rfl
theorem el_904 : pm_at_pc pd_law 904 = some (.invokevirtual 118, 3, 246, 0, 0, [(8, 26), (8, 27), (8, 28)]) := rfl
theorem el_907 : pm_at_pc pd_law 907 = some (.if_icmp .eq 102, 3, 1009, 0, 0, []) := rfl
theorem el_910 : pm_at_pc pd_law 910 = some (.iconst 0, 1, 0, 0, 0, []) := rfl
theorem el_911 : pm_at_pc pd_law 911 = some (.ireturn, 1, 0, 0, 0, []) := rfl
theorem el_912 : pm_at_pc pd_law 912 = some (.aload_n 1, 1, 0, 0, 0, []) := rfl
theorem el_913 : pm_at_pc pd_law 913 = some (.invokevirtual 119, 3, 128, 0, 0, [(5, 31), (5, 32), (5, 33)]) := rfl
theorem el_916 : pm_at_pc pd_law 916 = some (.aload_n 2, 1, 0, 0, 0, []) := rfl
theorem el_917 : pm_at_pc pd_law 917 = some (.invokevirtual 122, 3, 247, 0, 0, [(8, 34), (8, 35), (8, 36)]) := rfl
theorem el_920 : pm_at_pc pd_law 920 = some (.if_icmp .eq 89, 3, 1009, 0, 0, []) := rfl
theorem el_923 : pm_at_pc pd_law 923 = some (.iconst 0, 1, 0, 0, 0, []) := rfl
theorem el_924 : pm_at_pc pd_law 924 = some (.ireturn, 1, 0, 0, 0, []) := rfl
theorem el_925 : pm_at_pc pd_law 925 = some (.aload_n 1, 1, 0, 0, 0, []) := rfl
theorem el_926 : pm_at_pc pd_law 926 = some (.invokevirtual 123, 3, 129, 0, 0, [(5, 39), (5, 40), (5, 41)]) := rfl
theorem el_929 : pm_at_pc pd_law 929 = some (.aload_n 2, 1, 0, 0, 0, []) := rfl
theorem el_930 : pm_at_pc pd_law 930 = some (.invokevirtual 126, 3, 253, 0, 0, [(8, 38), (8, 39), (8, 40)]) := rfl
theorem el_933 : pm_at_pc pd_law 933 = some (.if_icmp .eq 76, 3, 1009, 0, 0, []) := rfl
theorem el_936 : pm_at_pc pd_law 936 = some (.iconst 0, 1, 0, 0, 0, []) := rfl
theorem el_937 : pm_at_pc pd_law 937 = some (.ireturn, 1, 0, 0, 0, []) := rfl
theorem el_938 : pm_at_pc pd_law 938 = some (.aload_n 1, 1, 0, 0, 0, []) := rfl
theorem el_939 : pm_at_pc pd_law 939 = some (.aload_n 0, 1, 0, 0, 0, []) := rfl
theorem el_940 : pm_at_pc pd_law 940 = some (.iload_n 3, 1, 0, 0, 0, []) := rfl
theorem el_941 : pm_at_pc pd_law 941 = some (.iconst 1, 1, 0, 0, 0, []) := rfl
theorem el_942 : pm_at_pc pd_law 942 = some (.iadd, 1, 0, 0, 0, []) := rfl
theorem el_943 : pm_at_pc pd_law 943 = some (.iaload, 1, 0, 0, 0, []) := rfl
theorem el_944 : pm_at_pc pd_law 944 = some (.invokevirtual 127, 3, 130, 0, 0, [(5, 79), (5, 80), (5, 81)]) := rfl
theorem el_947 : pm_at_pc pd_law 947 = some (.aload_n 2, 1, 0, 0, 0, []) := rfl
theorem el_948 : pm_at_pc pd_law 948 = some (.aload_n 0, 1, 0, 0, 0, []) := rfl
theorem el_949 : pm_at_pc pd_law 949 = some (.iload_n 3, 1, 0, 0, 0, []) := rfl
theorem el_950 : pm_at_pc pd_law 950 = some (.iconst 1, 1, 0, 0, 0, []) := rfl
theorem el_951 : pm_at_pc pd_law 951 = some (.iadd, 1, 0, 0, 0, []) := rfl
theorem el_952 : pm_at_pc pd_law 952 = some (.iaload, 1, 0, 0, 0, []) := rfl
theorem el_953 : pm_at_pc pd_law 953 = some (.invokevirtual 130, 3, 255, 0, 0, [(8, 62), (8, 63), (8, 64)]) := rfl
theorem el_956 : pm_at_pc pd_law 956 = some (.lcmp, 1, 0, 0, 0, []) := rfl
theorem el_957 : pm_at_pc pd_law 957 = some (.ifCond .eq 52, 3, 1009, 0, 0, []) := rfl
theorem el_960 : pm_at_pc pd_law 960 = some (.iconst 0, 1, 0, 0, 0, []) := rfl
theorem el_961 : pm_at_pc pd_law 961 = some (.ireturn, 1, 0, 0, 0, []) := rfl
theorem el_962 : pm_at_pc pd_law 962 = some (.aload_n 1, 1, 0, 0, 0, []) := rfl
theorem el_963 : pm_at_pc pd_law 963 = some (.aload_n 0, 1, 0, 0, 0, []) := rfl
theorem el_964 : pm_at_pc pd_law 964 = some (.iload_n 3, 1, 0, 0, 0, []) := rfl
theorem el_965 : pm_at_pc pd_law 965 = some (.iconst 1, 1, 0, 0, 0, []) := rfl
theorem el_966 : pm_at_pc pd_law 966 = some (.iadd, 1, 0, 0, 0, []) := rfl
theorem el_967 : pm_at_pc pd_law 967 = some (.iaload, 1, 0, 0, 0, []) := rfl
theorem el_968 : pm_at_pc pd_law 968 = some (.invokevirtual 131, 3, 131, 0, 0, [(5, 83), (5, 84), (5, 85)]) := rfl
theorem el_971 : pm_at_pc pd_law 971 = some (.aload_n 2, 1, 0, 0, 0, []) := rfl
theorem el_972 : pm_at_pc pd_law 972 = some (.aload_n 0, 1, 0, 0, 0, []) := rfl
theorem el_973 : pm_at_pc pd_law 973 = some (.iload_n 3, 1, 0, 0, 0, []) := rfl
theorem el_974 : pm_at_pc pd_law 974 = some (.iconst 1, 1, 0, 0, 0, []) := rfl
theorem el_975 : pm_at_pc pd_law 975 = some (.iadd, 1, 0, 0, 0, []) := rfl
theorem el_976 : pm_at_pc pd_law 976 = some (.iaload, 1, 0, 0, 0, []) := rfl
theorem el_977 : pm_at_pc pd_law 977 = some (.invokevirtual 134, 3, 256, 0, 0, [(8, 69), (8, 70), (8, 71)]) := rfl
theorem el_980 : pm_at_pc pd_law 980 = some (.lcmp, 1, 0, 0, 0, []) := rfl
theorem el_981 : pm_at_pc pd_law 981 = some (.ifCond .eq 28, 3, 1009, 0, 0, []) := rfl
theorem el_984 : pm_at_pc pd_law 984 = some (.iconst 0, 1, 0, 0, 0, []) := rfl
theorem el_985 : pm_at_pc pd_law 985 = some (.ireturn, 1, 0, 0, 0, []) := rfl
theorem el_986 : pm_at_pc pd_law 986 = some (.aload_n 1, 1, 0, 0, 0, []) := rfl
theorem el_987 : pm_at_pc pd_law 987 = some (.aload_n 0, 1, 0, 0, 0, []) := rfl
theorem el_988 : pm_at_pc pd_law 988 = some (.iload_n 3, 1, 0, 0, 0, []) := rfl
theorem el_989 : pm_at_pc pd_law 989 = some (.iconst 1, 1, 0, 0, 0, []) := rfl
theorem el_990 : pm_at_pc pd_law 990 = some (.iadd, 1, 0, 0, 0, []) := rfl
theorem el_991 : pm_at_pc pd_law 991 = some (.iaload, 1, 0, 0, 0, []) := rfl
theorem el_992 : pm_at_pc pd_law 992 = some (.invokevirtual 135, 3, 132, 0, 0, [(5, 87), (5, 88), (5, 89)]) := rfl
theorem el_995 : pm_at_pc pd_law 995 = some (.aload_n 2, 1, 0, 0, 0, []) := rfl
theorem el_996 : pm_at_pc pd_law 996 = some (.aload_n 0, 1, 0, 0, 0, []) := rfl
theorem el_997 : pm_at_pc pd_law 997 = some (.iload_n 3, 1, 0, 0, 0, []) := rfl
theorem el_998 : pm_at_pc pd_law 998 = some (.iconst 1, 1, 0, 0, 0, []) := rfl
theorem el_999 : pm_at_pc pd_law 999 = some (.iadd, 1, 0, 0, 0, []) := rfl
theorem el_1000 : pm_at_pc pd_law 1000 = some (.iaload, 1, 0, 0, 0, []) := rfl
theorem el_1001 : pm_at_pc pd_law 1001 = some (.invokevirtual 138, 3, 257, 0, 0, [(8, 73), (8, 74), (8, 75)]) := rfl
theorem el_1004 : pm_at_pc pd_law 1004 = some (.if_icmp .eq 5, 3, 1009, 0, 0, []) := rfl
theorem el_1007 : pm_at_pc pd_law 1007 = some (.iconst 0, 1, 0, 0, 0, []) := rfl
theorem el_1008 : pm_at_pc pd_law 1008 = some (.ireturn, 1, 0, 0, 0, []) := rfl
theorem el_1009 : pm_at_pc pd_law 1009 = some (.iinc 3 6, 3, 0, 0, 0, []) := rfl
theorem el_1012 : pm_at_pc pd_law 1012 = some (.goto (-994), 3, 18, 0, 0, []) := rfl
theorem el_1015 : pm_at_pc pd_law 1015 = some (.iconst 1, 1, 0, 0, 0, []) := rfl
theorem el_1016 : pm_at_pc pd_law 1016 = some (.ireturn, 1, 0, 0, 0, []) := rfl
theorem lm_101 : pm_ms 101 = some (yX10_init, cX10_init, 1, none, 0, 10) := rfl
theorem lm_102 : pm_ms 102 = some (yX10_feed, cX10_feed, 6, (some .int), 5, 10) := rfl
theorem lm_104 : pm_ms 104 = some (yX10_end, cX10_end, 2, (some .int), 1, 10) := rfl
theorem lm_105 : pm_ms 105 = some (yX10_ground, cX10_ground, 4, (some .int), 0, 10) := rfl
theorem lm_106 : pm_ms 106 = some (yX10_fault, cX10_fault, 2, (some .int), 1, 10) := rfl
theorem lm_107 : pm_ms 107 = some (yX10_point, cX10_point, 3, (some .int), 2, 10) := rfl
theorem lm_108 : pm_ms 108 = some (yX10_number, cX10_number, 4, (some .long), 2, 10) := rfl
theorem lm_109 : pm_ms 109 = some (yX10_loops, cX10_loops, 4, (some .int), 2, 10) := rfl
theorem lm_110 : pm_ms 110 = some (yX10_traced, cX10_traced, 4, (some .int), 2, 10) := rfl
theorem lm_111 : pm_ms 111 = some (yX10_flips, cX10_flips, 3, (some .int), 1, 10) := rfl
theorem lm_112 : pm_ms 112 = some (yX10_flip, cX10_flip, 4, (some .int), 2, 10) := rfl
theorem lm_113 : pm_ms 113 = some (yX10_cross, cX10_cross, 4, (some .long), 2, 10) := rfl
theorem lm_114 : pm_ms 114 = some (yX10_across, cX10_across, 5, (some .int), 2, 10) := rfl
theorem lm_115 : pm_ms 115 = some (yX10_kept, cX10_kept, 4, (some .int), 1, 10) := rfl
theorem lm_116 : pm_ms 116 = some (yX10_alike, cX10_alike, 6, (some .int), 2, 10) := rfl
theorem lm_117 : pm_ms 117 = some (yX10_order, cX10_order, 5, (some .int), 1, 10) := rfl
theorem lm_118 : pm_ms 118 = some (yX10_stretch, cX10_stretch, 6, (some .long), 3, 10) := rfl
theorem lm_119 : pm_ms 119 = some (yX10_table, cX10_table, 5, (some .int), 4, 10) := rfl
theorem lm_120 : pm_ms 120 = some (yX10_polynomial, cX10_polynomial, 4, (some .int), 3, 10) := rfl
theorem lm_121 : pm_ms 121 = some (yX10_least, cX10_least, 4, (some .int), 2, 10) := rfl
theorem lm_122 : pm_ms 122 = some (yX10_lies, cX10_lies, 2, (some .int), 1, 10) := rfl
theorem lm_123 : pm_ms 123 = some (yX10_lay, cX10_lay, 2, (some .long), 1, 10) := rfl
theorem lm_124 : pm_ms 124 = some (yX10_twist, cX10_twist, 3, (some .long), 2, 10) := rfl
theorem lm_125 : pm_ms 125 = some (yX10_go, cX10_go, 2, (some .long), 1, 10) := rfl
theorem lm_127 : pm_ms 127 = some (yX10_undo, cX10_undo, 1, (some .boolean), 0, 10) := rfl
theorem lm_128 : pm_ms 128 = some (yX10_redo, cX10_redo, 1, (some .boolean), 0, 10) := rfl
theorem lm_129 : pm_ms 129 = some (yX10_sketch, cX10_sketch, 2, (some .int), 0, 10) := rfl
theorem lm_130 : pm_ms 130 = some (yX10_image, cX10_image, 2, (some .long), 1, 10) := rfl
theorem lm_131 : pm_ms 131 = some (yX10_back, cX10_back, 2, (some .long), 1, 10) := rfl
theorem lm_132 : pm_ms 132 = some (yX10_about, cX10_about, 2, (some .int), 1, 10) := rfl
theorem lm_145 : pm_ms 145 = some (yX11_init, cX11_init, 1, none, 0, 11) := rfl
theorem lm_146 : pm_ms 146 = some (yX11_feed, cX11_feed, 6, (some .int), 5, 11) := rfl
theorem lm_148 : pm_ms 148 = some (yX11_end, cX11_end, 2, (some .int), 1, 11) := rfl
theorem lm_171 : pm_ms 171 = some (yX11_ground, cX11_ground, 2, (some .int), 0, 11) := rfl
theorem lm_172 : pm_ms 172 = some (yX11_fault, cX11_fault, 2, (some .int), 1, 11) := rfl
theorem lm_179 : pm_ms 179 = some (yX11_point, cX11_point, 3, (some .int), 2, 11) := rfl
theorem lm_191 : pm_ms 191 = some (yX11_number, cX11_number, 3, (some .long), 2, 11) := rfl
theorem lm_192 : pm_ms 192 = some (yX11_loops, cX11_loops, 3, (some .int), 2, 11) := rfl
theorem lm_194 : pm_ms 194 = some (yX11_traced, cX11_traced, 3, (some .int), 2, 11) := rfl
theorem lm_202 : pm_ms 202 = some (yX11_flips, cX11_flips, 2, (some .int), 1, 11) := rfl
theorem lm_203 : pm_ms 203 = some (yX11_flip, cX11_flip, 3, (some .int), 2, 11) := rfl
theorem lm_215 : pm_ms 215 = some (yX11_cross, cX11_cross, 11, (some .long), 2, 11) := rfl
theorem lm_217 : pm_ms 217 = some (yX11_across, cX11_across, 5, (some .int), 2, 11) := rfl
theorem lm_220 : pm_ms 220 = some (yX11_kept, cX11_kept, 4, (some .int), 1, 11) := rfl
theorem lm_221 : pm_ms 221 = some (yX11_alike, cX11_alike, 6, (some .int), 2, 11) := rfl
theorem lm_223 : pm_ms 223 = some (yX11_order, cX11_order, 6, (some .int), 1, 11) := rfl
theorem lm_224 : pm_ms 224 = some (yX11_stretch, cX11_stretch, 7, (some .long), 3, 11) := rfl
theorem lm_226 : pm_ms 226 = some (yX11_table, cX11_table, 5, (some .int), 4, 11) := rfl
theorem lm_230 : pm_ms 230 = some (yX11_polynomial, cX11_polynomial, 4, (some .int), 3, 11) := rfl
theorem lm_235 : pm_ms 235 = some (yX11_least, cX11_least, 6, (some .int), 2, 11) := rfl
theorem lm_238 : pm_ms 238 = some (yX11_lies, cX11_lies, 2, (some .int), 1, 11) := rfl
theorem lm_242 : pm_ms 242 = some (yX11_lay, cX11_lay, 2, (some .long), 1, 11) := rfl
theorem lm_243 : pm_ms 243 = some (yX11_twist, cX11_twist, 3, (some .long), 2, 11) := rfl
theorem lm_244 : pm_ms 244 = some (yX11_go, cX11_go, 2, (some .long), 1, 11) := rfl
theorem lm_246 : pm_ms 246 = some (yX11_undo, cX11_undo, 1, (some .boolean), 0, 11) := rfl
theorem lm_247 : pm_ms 247 = some (yX11_redo, cX11_redo, 1, (some .boolean), 0, 11) := rfl
theorem lm_253 : pm_ms 253 = some (yX11_sketch, cX11_sketch, 2, (some .int), 0, 11) := rfl
theorem lm_255 : pm_ms 255 = some (yX11_image, cX11_image, 3, (some .long), 1, 11) := rfl
theorem lm_256 : pm_ms 256 = some (yX11_back, cX11_back, 3, (some .long), 1, 11) := rfl
theorem lm_257 : pm_ms 257 = some (yX11_about, cX11_about, 2, (some .int), 1, 11) := rfl
