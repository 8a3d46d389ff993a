/-! the law: a run of calls -/
theorem el_0 : pm_at_pc pd_law 0 = some (.new 7, 3, 10, 0, 0, [(1, 14), (1, 15), (1, 1)]) := rfl
theorem el_3 : pm_at_pc pd_law 3 = some (.dup, 1, 0, 0, 0, []) := rfl
theorem el_4 : pm_at_pc pd_law 4 = some (.invokespecial 9, 3, 101, 0, 0, [(14, 0)]) := rfl
theorem el_7 : pm_at_pc pd_law 7 = some (.astore_n 1, 1, 0, 0, 0, []) := rfl
theorem el_8 : pm_at_pc pd_law 8 = some (.new 10, 3, 11, 0, 0, [(5, 91), (5, 92), (1, 12)]) := rfl
theorem el_11 : pm_at_pc pd_law 11 = some (.dup, 1, 0, 0, 0, []) := rfl
theorem el_12 : pm_at_pc pd_law 12 = some (.invokespecial 12, 3, 145, 0, 0, [(14, 1)]) := rfl
theorem el_15 : pm_at_pc pd_law 15 = some (.astore_n 2, 1, 0, 0, 0, []) := rfl
theorem el_16 : pm_at_pc pd_law 16 = some (.iconst 0, 1, 0, 0, 0, []) := rfl
theorem el_17 : pm_at_pc pd_law 17 = some (.istore_n 3, 1, 0, 0, 0, []) := rfl
theorem el_18 : pm_at_pc pd_law 18 = some (.iload_n 3, 1, 0, 0, 0, []) := rfl
theorem el_19 : pm_at_pc pd_law 19 = some (.aload_n 0, 1, 0, 0, 0, []) := rfl
theorem el_20 : pm_at_pc pd_law 20 = some (.arraylength, 1, 0, 0, 0, []) := rfl
theorem el_21 : pm_at_pc pd_law 21 = some (.bipush 6, 2, 0, 0, 0, []) := rfl
theorem el_23 : pm_at_pc pd_law 23 = some (.isub, 1, 0, 0, 0, []) := rfl
theorem el_24 : pm_at_pc pd_law 24 = some (.if_icmp .gt 983, 3, 1007, 0, 0, []) := rfl
theorem el_27 : pm_at_pc pd_law 27 = some (.aload_n 0, 1, 0, 0, 0, []) := rfl
theorem el_28 : pm_at_pc pd_law 28 = some (.iload_n 3, 1, 0, 0, 0, []) := rfl
theorem el_29 : pm_at_pc pd_law 29 = some (.iaload, 1, 0, 0, 0, []) := rfl
theorem el_30 : pm_at_pc pd_law 30 = some (.bipush 31, 2, 0, 0, 0, []) := rfl
theorem el_32 : pm_at_pc pd_law 32 = some (.iand, 1, 0, 0, 0, []) := rfl
theorem el_33 : pm_at_pc pd_law 33 = some (.tableswitch 968 0 28 #[131, 194, 217, 230, 253, 286, 319, 352, 385, 408, 441, 474, 507, 530, 563, 586, 629, 682, 725, 758, 781, 804, 837, 860, 873, 886, 899, 922, 945], 131, 0, 0, 0, []) := rfl
theorem el_164 : pm_at_pc pd_law 164 = some (.aload_n 1, 1, 0, 0, 0, []) := rfl
theorem el_165 : pm_at_pc pd_law 165 = some (.aload_n 0, 1, 0, 0, 0, []) := rfl
theorem el_166 : pm_at_pc pd_law 166 = some (.iload_n 3, 1, 0, 0, 0, []) := rfl
theorem el_167 : pm_at_pc pd_law 167 = some (.iconst 1, 1, 0, 0, 0, []) := rfl
theorem el_168 : pm_at_pc pd_law 168 = some (.iadd, 1, 0, 0, 0, []) := rfl
theorem el_169 : pm_at_pc pd_law 169 = some (.iaload, 1, 0, 0, 0, []) := rfl
theorem el_170 : pm_at_pc pd_law 170 = some (.aload_n 0, 1, 0, 0, 0, []) := rfl
theorem el_171 : pm_at_pc pd_law 171 = some (.iload_n 3, 1, 0, 0, 0, []) := rfl
theorem el_172 : pm_at_pc pd_law 172 = some (.iconst 2, 1, 0, 0, 0, []) := rfl
theorem el_173 : pm_at_pc pd_law 173 = some (.iadd, 1, 0, 0, 0, []) := rfl
theorem el_174 : pm_at_pc pd_law 174 = some (.iaload, 1, 0, 0, 0, []) := rfl
theorem el_175 : pm_at_pc pd_law 175 = some (.aload_n 0, 1, 0, 0, 0, []) := rfl
theorem el_176 : pm_at_pc pd_law 176 = some (.iload_n 3, 1, 0, 0, 0, []) := rfl
theorem el_177 : pm_at_pc pd_law 177 = some (.iconst 3, 1, 0, 0, 0, []) := rfl
theorem el_178 : pm_at_pc pd_law 178 = some (.iadd, 1, 0, 0, 0, []) := rfl
theorem el_179 : pm_at_pc pd_law 179 = some (.iaload, 1, 0, 0, 0, []) := rfl
theorem el_180 : pm_at_pc pd_law 180 = some (.aload_n 0, 1, 0, 0, 0, []) := rfl
theorem el_181 : pm_at_pc pd_law 181 = some (.iload_n 3, 1, 0, 0, 0, []) := rfl
theorem el_182 : pm_at_pc pd_law 182 = some (.iconst 4, 1, 0, 0, 0, []) := rfl
theorem el_183 : pm_at_pc pd_law 183 = some (.iadd, 1, 0, 0, 0, []) := rfl
theorem el_184 : pm_at_pc pd_law 184 = some (.iaload, 1, 0, 0, 0, []) := rfl
theorem el_185 : pm_at_pc pd_law 185 = some (.aload_n 0, 1, 0, 0, 0, []) := rfl
theorem el_186 : pm_at_pc pd_law 186 = some (.iload_n 3, 1, 0, 0, 0, []) := rfl
theorem el_187 : pm_at_pc pd_law 187 = some (.iconst 5, 1, 0, 0, 0, []) := rfl
theorem el_188 : pm_at_pc pd_law 188 = some (.iadd, 1, 0, 0, 0, []) := rfl
theorem el_189 : pm_at_pc pd_law 189 = some (.iaload, 1, 0, 0, 0, []) := rfl
theorem el_190 : pm_at_pc pd_law 190 = some (.invokevirtual 13, 3, 102, 0, 0, [(14, 2)]) := rfl
theorem el_193 : pm_at_pc pd_law 193 = some (.pop, 1, 0, 0, 0, []) := rfl
theorem el_194 : pm_at_pc pd_law 194 = some (.aload_n 2, 1, 0, 0, 0, []) := rfl
theorem el_195 : pm_at_pc pd_law 195 = some (.aload_n 0, 1, 0, 0, 0, []) := rfl
theorem el_196 : pm_at_pc pd_law 196 = some (.iload_n 3, 1, 0, 0, 0, []) := rfl
theorem el_197 : pm_at_pc pd_law 197 = some (.iconst 1, 1, 0, 0, 0, []) := rfl
theorem el_198 : pm_at_pc pd_law 198 = some (.iadd, 1, 0, 0, 0, []) := rfl
theorem el_199 : pm_at_pc pd_law 199 = some (.iaload, 1, 0, 0, 0, []) := rfl
theorem el_200 : pm_at_pc pd_law 200 = some (.aload_n 0, 1, 0, 0, 0, []) := rfl
theorem el_201 : pm_at_pc pd_law 201 = some (.iload_n 3, 1, 0, 0, 0, []) := rfl
theorem el_202 : pm_at_pc pd_law 202 = some (.iconst 2, 1, 0, 0, 0, []) := rfl
theorem el_203 : pm_at_pc pd_law 203 = some (.iadd, 1, 0, 0, 0, []) := rfl
theorem el_204 : pm_at_pc pd_law 204 = some (.iaload, 1, 0, 0, 0, []) := rfl
theorem el_205 : pm_at_pc pd_law 205 = some (.aload_n 0, 1, 0, 0, 0, []) := rfl
theorem el_206 : pm_at_pc pd_law 206 = some (.iload_n 3, 1, 0, 0, 0, []) := rfl
theorem el_207 : pm_at_pc pd_law 207 = some (.iconst 3, 1, 0, 0, 0, []) := rfl
theorem el_208 : pm_at_pc pd_law 208 = some (.iadd, 1, 0, 0, 0, []) := rfl
theorem el_209 : pm_at_pc pd_law 209 = some (.iaload, 1, 0, 0, 0, []) := rfl
theorem el_210 : pm_at_pc pd_law 210 = some (.aload_n 0, 1, 0, 0, 0, []) := rfl
theorem el_211 : pm_at_pc pd_law 211 = some (.iload_n 3, 1, 0, 0, 0, []) := rfl
theorem el_212 : pm_at_pc pd_law 212 = some (.iconst 4, 1, 0, 0, 0, []) := rfl
theorem el_213 : pm_at_pc pd_law 213 = some (.iadd, 1, 0, 0, 0, []) := rfl
theorem el_214 : pm_at_pc pd_law 214 = some (.iaload, 1, 0, 0, 0, []) := rfl
theorem el_215 : pm_at_pc pd_law 215 = some (.aload_n 0, 1, 0, 0, 0, []) := rfl
theorem el_216 : pm_at_pc pd_law 216 = some (.iload_n 3, 1, 0, 0, 0, []) := rfl
theorem el_217 : pm_at_pc pd_law 217 = some (.iconst 5, 1, 0, 0, 0, []) := rfl
theorem el_218 : pm_at_pc pd_law 218 = some (.iadd, 1, 0, 0, 0, []) := rfl
theorem el_219 : pm_at_pc pd_law 219 = some (.iaload, 1, 0, 0, 0, []) := rfl
theorem el_220 : pm_at_pc pd_law 220 = some (.invokevirtual 17, 3, 146, 0, 0, [(14, 3)]) := rfl
theorem el_223 : pm_at_pc pd_law 223 = some (.pop, 1, 0, 0, 0, []) := rfl
theorem el_224 : pm_at_pc pd_law 224 = some (.goto 777, 3, 1001, 0, 0, []) := rfl
theorem el_227 : pm_at_pc pd_law 227 = some (.aload_n 1, 1, 0, 0, 0, []) := rfl
theorem el_228 : pm_at_pc pd_law 228 = some (.aload_n 0, 1, 0, 0, 0, []) := rfl
theorem el_229 : pm_at_pc pd_law 229 = some (.iload_n 3, 1, 0, 0, 0, []) := rfl
theorem el_230 : pm_at_pc pd_law 230 = some (.iconst 1, 1, 0, 0, 0, []) := rfl
theorem el_231 : pm_at_pc pd_law 231 = some (.iadd, 1, 0, 0, 0, []) := rfl
theorem el_232 : pm_at_pc pd_law 232 = some (.iaload, 1, 0, 0, 0, []) := rfl
theorem el_233 : pm_at_pc pd_law 233 = some (.invokevirtual 18, 3, 104, 0, 0, [(14, 4)]) := rfl
theorem el_236 : pm_at_pc pd_law 236 = some (.pop, 1, 0, 0, 0, []) := rfl
theorem el_237 : pm_at_pc pd_law 237 = some (.aload_n 2, 1, 0, 0, 0, []) := rfl
theorem el_238 : pm_at_pc pd_law 238 = some (.aload_n 0, 1, 0, 0, 0, []) := rfl
theorem el_239 : pm_at_pc pd_law 239 = some (.iload_n 3, 1, 0, 0, 0, []) := rfl
theorem el_240 : pm_at_pc pd_law 240 = some (.iconst 1, 1, 0, 0, 0, []) := rfl
theorem el_241 : pm_at_pc pd_law 241 = some (.iadd, 1, 0, 0, 0, []) := rfl
theorem el_242 : pm_at_pc pd_law 242 = some (.iaload, 1, 0, 0, 0, []) := rfl
theorem el_243 : pm_at_pc pd_law 243 = some (.invokevirtual 22, 3, 148, 0, 0, [(14, 5)]) := rfl
theorem el_246 : pm_at_pc pd_law 246 = some (.pop, 1, 0, 0, 0, []) := rfl
theorem el_247 : pm_at_pc pd_law 247 = some (.goto 754, 3, 1001, 0, 0, []) := rfl
theorem el_250 : pm_at_pc pd_law 250 = some (.aload_n 1, 1, 0, 0, 0, []) := rfl
theorem el_251 : pm_at_pc pd_law 251 = some (.invokevirtual 23, 3, 105, 0, 0, [(14, 6)]) := rfl
theorem el_254 : pm_at_pc pd_law 254 = some (.pop, 1, 0, 0, 0, []) := rfl
theorem el_255 : pm_at_pc pd_law 255 = some (.aload_n 2, 1, 0, 0, 0, []) := rfl
theorem el_256 : pm_at_pc pd_law 256 = some (.invokevirtual 27, 3, 171, 0, 0, [(14, 7)]) := rfl
theorem el_259 : pm_at_pc pd_law 259 = some (.pop, 1, 0, 0, 0, []) := rfl
theorem el_260 : pm_at_pc pd_law 260 = some (.goto 741, 3, 1001, 0, 0, []) := rfl
theorem el_263 : pm_at_pc pd_law 263 = some (.aload_n 1, 1, 0, 0, 0, []) := rfl
theorem el_264 : pm_at_pc pd_law 264 = some (.aload_n 0, 1, 0, 0, 0, []) := rfl
theorem el_265 : pm_at_pc pd_law 265 = some (.iload_n 3, 1, 0, 0, 0, []) := rfl
theorem el_266 : pm_at_pc pd_law 266 = some (.iconst 1, 1, 0, 0, 0, []) := rfl
theorem el_267 : pm_at_pc pd_law 267 = some (.iadd, 1, 0, 0, 0, []) := rfl
theorem el_268 : pm_at_pc pd_law 268 = some (.iaload, 1, 0, 0, 0, []) := rfl
theorem el_269 : pm_at_pc pd_law 269 = some (.invokevirtual 28, 3, 106, 0, 0, [(14, 8)]) := rfl
theorem el_272 : pm_at_pc pd_law 272 = some (.pop, 1, 0, 0, 0, []) := rfl
theorem el_273 : pm_at_pc pd_law 273 = some (.aload_n 2, 1, 0, 0, 0, []) := rfl
theorem el_274 : pm_at_pc pd_law 274 = some (.aload_n 0, 1, 0, 0, 0, []) := rfl
theorem el_275 : pm_at_pc pd_law 275 = some (.iload_n 3, 1, 0, 0, 0, []) := rfl
theorem el_276 : pm_at_pc pd_law 276 = some (.iconst 1, 1, 0, 0, 0, []) := rfl
theorem el_277 : pm_at_pc pd_law 277 = some (.iadd, 1, 0, 0, 0, []) := rfl
theorem el_278 : pm_at_pc pd_law 278 = some (.iaload, 1, 0, 0, 0, []) := rfl
theorem el_279 : pm_at_pc pd_law 279 = some (.invokevirtual 31, 3, 172, 0, 0, [(14, 9)]) := rfl
theorem el_282 : pm_at_pc pd_law 282 = some (.pop, 1, 0, 0, 0, []) := rfl
theorem el_283 : pm_at_pc pd_law 283 = some (.goto 718, 3, 1001, 0, 0, []) := rfl
theorem el_286 : pm_at_pc pd_law 286 = some (.aload_n 1, 1, 0, 0, 0, []) := rfl
theorem el_287 : pm_at_pc pd_law 287 = some (.aload_n 0, 1, 0, 0, 0, []) := rfl
theorem el_288 : pm_at_pc pd_law 288 = some (.iload_n 3, 1, 0, 0, 0, []) := rfl
theorem el_289 : pm_at_pc pd_law 289 = some (.iconst 1, 1, 0, 0, 0, []) := rfl
theorem el_290 : pm_at_pc pd_law 290 = some (.iadd, 1, 0, 0, 0, []) := rfl
theorem el_291 : pm_at_pc pd_law 291 = some (.iaload, 1, 0, 0, 0, []) := rfl
theorem el_292 : pm_at_pc pd_law 292 = some (.aload_n 0, 1, 0, 0, 0, []) := rfl
theorem el_293 : pm_at_pc pd_law 293 = some (.iload_n 3, 1, 0, 0, 0, []) := rfl
theorem el_294 : pm_at_pc pd_law 294 = some (.iconst 2, 1, 0, 0, 0, []) := rfl
theorem el_295 : pm_at_pc pd_law 295 = some (.iadd, 1, 0, 0, 0, []) := rfl
theorem el_296 : pm_at_pc pd_law 296 = some (.iaload, 1, 0, 0, 0, []) := rfl
theorem el_297 : pm_at_pc pd_law 297 = some (.invokevirtual 32, 3, 107, 0, 0, [(14, 10)]) := rfl
theorem el_300 : pm_at_pc pd_law 300 = some (.pop, 1, 0, 0, 0, []) := rfl
theorem el_301 : pm_at_pc pd_law 301 = some (.aload_n 2, 1, 0, 0, 0, []) := rfl
theorem el_302 : pm_at_pc pd_law 302 = some (.aload_n 0, 1, 0, 0, 0, []) := rfl
theorem el_303 : pm_at_pc pd_law 303 = some (.iload_n 3, 1, 0, 0, 0, []) := rfl
theorem el_304 : pm_at_pc pd_law 304 = some (.iconst 1, 1, 0, 0, 0, []) := rfl
theorem el_305 : pm_at_pc pd_law 305 = some (.iadd, 1, 0, 0, 0, []) := rfl
theorem el_306 : pm_at_pc pd_law 306 = some (.iaload, 1, 0, 0, 0, []) := rfl
theorem el_307 : pm_at_pc pd_law 307 = some (.aload_n 0, 1, 0, 0, 0, []) := rfl
theorem el_308 : pm_at_pc pd_law 308 = some (.iload_n 3, 1, 0, 0, 0, []) := rfl
theorem el_309 : pm_at_pc pd_law 309 = some (.iconst 2, 1, 0, 0, 0, []) := rfl
theorem el_310 : pm_at_pc pd_law 310 = some (.iadd, 1, 0, 0, 0, []) := rfl
theorem el_311 : pm_at_pc pd_law 311 = some (.iaload, 1, 0, 0, 0, []) := rfl
theorem el_312 : pm_at_pc pd_law 312 = some (.invokevirtual 36, 3, 179, 0, 0, [(14, 11)]) := rfl
theorem el_315 : pm_at_pc pd_law 315 = some (.pop, 1, 0, 0, 0, []) := rfl
theorem el_316 : pm_at_pc pd_law 316 = some (.goto 685, 3, 1001, 0, 0, []) := rfl
theorem el_319 : pm_at_pc pd_law 319 = some (.aload_n 1, 1, 0, 0, 0, []) := rfl
theorem el_320 : pm_at_pc pd_law 320 = some (.aload_n 0, 1, 0, 0, 0, []) := rfl
theorem el_321 : pm_at_pc pd_law 321 = some (.iload_n 3, 1, 0, 0, 0, []) := rfl
theorem el_322 : pm_at_pc pd_law 322 = some (.iconst 1, 1, 0, 0, 0, []) := rfl
theorem el_323 : pm_at_pc pd_law 323 = some (.iadd, 1, 0, 0, 0, []) := rfl
theorem el_324 : pm_at_pc pd_law 324 = some (.iaload, 1, 0, 0, 0, []) := rfl
theorem el_325 : pm_at_pc pd_law 325 = some (.aload_n 0, 1, 0, 0, 0, []) := rfl
theorem el_326 : pm_at_pc pd_law 326 = some (.iload_n 3, 1, 0, 0, 0, []) := rfl
theorem el_327 : pm_at_pc pd_law 327 = some (.iconst 2, 1, 0, 0, 0, []) := rfl
theorem el_328 : pm_at_pc pd_law 328 = some (.iadd, 1, 0, 0, 0, []) := rfl
theorem el_329 : pm_at_pc pd_law 329 = some (.iaload, 1, 0, 0, 0, []) := rfl
theorem el_330 : pm_at_pc pd_law 330 = some (.invokevirtual 37, 3, 108, 0, 0, [(14, 12)]) := rfl
theorem el_333 : pm_at_pc pd_law 333 = some (.pop2, 1, 0, 0, 0, []) := rfl
theorem el_334 : pm_at_pc pd_law 334 = some (.aload_n 2, 1, 0, 0, 0, []) := rfl
theorem el_335 : pm_at_pc pd_law 335 = some (.aload_n 0, 1, 0, 0, 0, []) := rfl
theorem el_336 : pm_at_pc pd_law 336 = some (.iload_n 3, 1, 0, 0, 0, []) := rfl
theorem el_337 : pm_at_pc pd_law 337 = some (.iconst 1, 1, 0, 0, 0, []) := rfl
theorem el_338 : pm_at_pc pd_law 338 = some (.iadd, 1, 0, 0, 0, []) := rfl
theorem el_339 : pm_at_pc pd_law 339 = some (.iaload, 1, 0, 0, 0, []) := rfl
theorem el_340 : pm_at_pc pd_law 340 = some (.aload_n 0, 1, 0, 0, 0, []) := rfl
theorem el_341 : pm_at_pc pd_law 341 = some (.iload_n 3, 1, 0, 0, 0, []) := rfl
theorem el_342 : pm_at_pc pd_law 342 = some (.iconst 2, 1, 0, 0, 0, []) := rfl
theorem el_343 : pm_at_pc pd_law 343 = some (.iadd, 1, 0, 0, 0, []) := rfl
theorem el_344 : pm_at_pc pd_law 344 = some (.iaload, 1, 0, 0, 0, []) := rfl
theorem el_345 : pm_at_pc pd_law 345 = some (.invokevirtual 41, 3, 191, 0, 0, [(14, 13)]) := rfl
theorem el_348 : pm_at_pc pd_law 348 = some (.pop2, 1, 0, 0, 0, []) := rfl
theorem el_349 : pm_at_pc pd_law 349 = some (.goto 652, 3, 1001, 0, 0, []) := rfl
theorem el_352 : pm_at_pc pd_law 352 = some (.aload_n 1, 1, 0, 0, 0, []) := rfl
theorem el_353 : pm_at_pc pd_law 353 = some (.aload_n 0, 1, 0, 0, 0, []) := rfl
theorem el_354 : pm_at_pc pd_law 354 = some (.iload_n 3, 1, 0, 0, 0, []) := rfl
theorem el_355 : pm_at_pc pd_law 355 = some (.iconst 1, 1, 0, 0, 0, []) := rfl
theorem el_356 : pm_at_pc pd_law 356 = some (.iadd, 1, 0, 0, 0, []) := rfl
theorem el_357 : pm_at_pc pd_law 357 = some (.iaload, 1, 0, 0, 0, []) := rfl
theorem el_358 : pm_at_pc pd_law 358 = some (.aload_n 0, 1, 0, 0, 0, []) := rfl
theorem el_359 : pm_at_pc pd_law 359 = some (.iload_n 3, 1, 0, 0, 0, []) := rfl
theorem el_360 : pm_at_pc pd_law 360 = some (.iconst 2, 1, 0, 0, 0, []) := rfl
theorem el_361 : pm_at_pc pd_law 361 = some (.iadd, 1, 0, 0, 0, []) := rfl
theorem el_362 : pm_at_pc pd_law 362 = some (.iaload, 1, 0, 0, 0, []) := rfl
theorem el_363 : pm_at_pc pd_law 363 = some (.invokevirtual 42, 3, 109, 0, 0, [(14, 14)]) := rfl
theorem el_366 : pm_at_pc pd_law 366 = some (.pop, 1, 0, 0, 0, []) := rfl
theorem el_367 : pm_at_pc pd_law 367 = some (.aload_n 2, 1, 0, 0, 0, []) := rfl
theorem el_368 : pm_at_pc pd_law 368 = some (.aload_n 0, 1, 0, 0, 0, []) := rfl
theorem el_369 : pm_at_pc pd_law 369 = some (.iload_n 3, 1, 0, 0, 0, []) := rfl
theorem el_370 : pm_at_pc pd_law 370 = some (.iconst 1, 1, 0, 0, 0, []) := rfl
theorem el_371 : pm_at_pc pd_law 371 = some (.iadd, 1, 0, 0, 0, []) := rfl
theorem el_372 : pm_at_pc pd_law 372 = some (.iaload, 1, 0, 0, 0, []) := rfl
theorem el_373 : pm_at_pc pd_law 373 = some (.aload_n 0, 1, 0, 0, 0, []) := rfl
theorem el_374 : pm_at_pc pd_law 374 = some (.iload_n 3, 1, 0, 0, 0, []) := rfl
theorem el_375 : pm_at_pc pd_law 375 = some (.iconst 2, 1, 0, 0, 0, []) := rfl
theorem el_376 : pm_at_pc pd_law 376 = some (.iadd, 1, 0, 0, 0, []) := rfl
theorem el_377 : pm_at_pc pd_law 377 = some (.iaload, 1, 0, 0, 0, []) := rfl
theorem el_378 : pm_at_pc pd_law 378 = some (.invokevirtual 45, 3, 192, 0, 0, [(14, 15)]) := rfl
theorem el_381 : pm_at_pc pd_law 381 = some (.pop, 1, 0, 0, 0, []) := rfl
theorem el_382 : pm_at_pc pd_law 382 = some (.goto 619, 3, 1001, 0, 0, []) := rfl
theorem el_385 : pm_at_pc pd_law 385 = some (.aload_n 1, 1, 0, 0, 0, []) := rfl
theorem el_386 : pm_at_pc pd_law 386 = some (.aload_n 0, 1, 0, 0, 0, []) := rfl
theorem el_387 : pm_at_pc pd_law 387 = some (.iload_n 3, 1, 0, 0, 0, []) := rfl
theorem el_388 : pm_at_pc pd_law 388 = some (.iconst 1, 1, 0, 0, 0, []) := rfl
theorem el_389 : pm_at_pc pd_law 389 = some (.iadd, 1, 0, 0, 0, []) := rfl
theorem el_390 : pm_at_pc pd_law 390 = some (.iaload, 1, 0, 0, 0, []) := rfl
theorem el_391 : pm_at_pc pd_law 391 = some (.aload_n 0, 1, 0, 0, 0, []) := rfl
theorem el_392 : pm_at_pc pd_law 392 = some (.iload_n 3, 1, 0, 0, 0, []) := rfl
theorem el_393 : pm_at_pc pd_law 393 = some (.iconst 2, 1, 0, 0, 0, []) := rfl
theorem el_394 : pm_at_pc pd_law 394 = some (.iadd, 1, 0, 0, 0, []) := rfl
theorem el_395 : pm_at_pc pd_law 395 = some (.iaload, 1, 0, 0, 0, []) := rfl
theorem el_396 : pm_at_pc pd_law 396 = some (.invokevirtual 46, 3, 110, 0, 0, [(15, 0)]) := rfl
theorem el_399 : pm_at_pc pd_law 399 = some (.pop, 1, 0, 0, 0, []) := rfl
theorem el_400 : pm_at_pc pd_law 400 = some (.aload_n 2, 1, 0, 0, 0, []) := rfl
theorem el_401 : pm_at_pc pd_law 401 = some (.aload_n 0, 1, 0, 0, 0, []) := rfl
theorem el_402 : pm_at_pc pd_law 402 = some (.iload_n 3, 1, 0, 0, 0, []) := rfl
theorem el_403 : pm_at_pc pd_law 403 = some (.iconst 1, 1, 0, 0, 0, []) := rfl
theorem el_404 : pm_at_pc pd_law 404 = some (.iadd, 1, 0, 0, 0, []) := rfl
theorem el_405 : pm_at_pc pd_law 405 = some (.iaload, 1, 0, 0, 0, []) := rfl
theorem el_406 : pm_at_pc pd_law 406 = some (.aload_n 0, 1, 0, 0, 0, []) := rfl
theorem el_407 : pm_at_pc pd_law 407 = some (.iload_n 3, 1, 0, 0, 0, []) := rfl
theorem el_408 : pm_at_pc pd_law 408 = some (.iconst 2, 1, 0, 0, 0, []) := rfl
theorem el_409 : pm_at_pc pd_law 409 = some (.iadd, 1, 0, 0, 0, []) := rfl
theorem el_410 : pm_at_pc pd_law 410 = some (.iaload, 1, 0, 0, 0, []) := rfl
theorem el_411 : pm_at_pc pd_law 411 = some (.invokevirtual 49, 3, 194, 0, 0, [(15, 1)]) := rfl
theorem el_414 : pm_at_pc pd_law 414 = some (.pop, 1, 0, 0, 0, []) := rfl
theorem el_415 : pm_at_pc pd_law 415 = some (.goto 586, 3, 1001, 0, 0, []) := rfl
theorem el_418 : pm_at_pc pd_law 418 = some (.aload_n 1, 1, 0, 0, 0, []) := rfl
theorem el_419 : pm_at_pc pd_law 419 = some (.aload_n 0, 1, 0, 0, 0, []) := rfl
theorem el_420 : pm_at_pc pd_law 420 = some (.iload_n 3, 1, 0, 0, 0, []) := rfl
theorem el_421 : pm_at_pc pd_law 421 = some (.iconst 1, 1, 0, 0, 0, []) := rfl
theorem el_422 : pm_at_pc pd_law 422 = some (.iadd, 1, 0, 0, 0, []) := rfl
theorem el_423 : pm_at_pc pd_law 423 = some (.iaload, 1, 0, 0, 0, []) := rfl
theorem el_424 : pm_at_pc pd_law 424 = some (.invokevirtual 50, 3, 111, 0, 0, [(15, 2)]) := rfl
theorem el_427 : pm_at_pc pd_law 427 = some (.pop, 1, 0, 0, 0, []) := rfl
theorem el_428 : pm_at_pc pd_law 428 = some (.aload_n 2, 1, 0, 0, 0, []) := rfl
theorem el_429 : pm_at_pc pd_law 429 = some (.aload_n 0, 1, 0, 0, 0, []) := rfl
theorem el_430 : pm_at_pc pd_law 430 = some (.iload_n 3, 1, 0, 0, 0, []) := rfl
theorem el_431 : pm_at_pc pd_law 431 = some (.iconst 1, 1, 0, 0, 0, []) := rfl
theorem el_432 : pm_at_pc pd_law 432 = some (.iadd, 1, 0, 0, 0, []) := rfl
theorem el_433 : pm_at_pc pd_law 433 = some (.iaload, 1, 0, 0, 0, []) := rfl
theorem el_434 : pm_at_pc pd_law 434 = some (.invokevirtual 53, 3, 202, 0, 0, [(15, 3)]) := rfl
theorem el_437 : pm_at_pc pd_law 437 = some (.pop, 1, 0, 0, 0, []) := rfl
theorem el_438 : pm_at_pc pd_law 438 = some (.goto 563, 3, 1001, 0, 0, []) := rfl
theorem el_441 : pm_at_pc pd_law 441 = some (.aload_n 1, 1, 0, 0, 0, []) := rfl
theorem el_442 : pm_at_pc pd_law 442 = some (.aload_n 0, 1, 0, 0, 0, []) := rfl
theorem el_443 : pm_at_pc pd_law 443 = some (.iload_n 3, 1, 0, 0, 0, []) := rfl
theorem el_444 : pm_at_pc pd_law 444 = some (.iconst 1, 1, 0, 0, 0, []) := rfl
theorem el_445 : pm_at_pc pd_law 445 = some (.iadd, 1, 0, 0, 0, []) := rfl
theorem el_446 : pm_at_pc pd_law 446 = some (.iaload, 1, 0, 0, 0, []) := rfl
theorem el_447 : pm_at_pc pd_law 447 = some (.aload_n 0, 1, 0, 0, 0, []) := rfl
theorem el_448 : pm_at_pc pd_law 448 = some (.iload_n 3, 1, 0, 0, 0, []) := rfl
theorem el_449 : pm_at_pc pd_law 449 = some (.iconst 2, 1, 0, 0, 0, []) := rfl
theorem el_450 : pm_at_pc pd_law 450 = some (.iadd, 1, 0, 0, 0, []) := rfl
theorem el_451 : pm_at_pc pd_law 451 = some (.iaload, 1, 0, 0, 0, []) := rfl
theorem el_452 : pm_at_pc pd_law 452 = some (.invokevirtual 54, 3, 112, 0, 0, [(15, 4)]) := rfl
theorem el_455 : pm_at_pc pd_law 455 = some (.pop, 1, 0, 0, 0, []) := rfl
theorem el_456 : pm_at_pc pd_law 456 = some (.aload_n 2, 1, 0, 0, 0, []) := rfl
theorem el_457 : pm_at_pc pd_law 457 = some (.aload_n 0, 1, 0, 0, 0, []) := rfl
theorem el_458 : pm_at_pc pd_law 458 = some (.iload_n 3, 1, 0, 0, 0, []) := rfl
theorem el_459 : pm_at_pc pd_law 459 = some (.iconst 1, 1, 0, 0, 0, []) := rfl
theorem el_460 : pm_at_pc pd_law 460 = some (.iadd, 1, 0, 0, 0, []) := rfl
theorem el_461 : pm_at_pc pd_law 461 = some (.iaload, 1, 0, 0, 0, []) := rfl
theorem el_462 : pm_at_pc pd_law 462 = some (.aload_n 0, 1, 0, 0, 0, []) := rfl
theorem el_463 : pm_at_pc pd_law 463 = some (.iload_n 3, 1, 0, 0, 0, []) := rfl
theorem el_464 : pm_at_pc pd_law 464 = some (.iconst 2, 1, 0, 0, 0, []) := rfl
theorem el_465 : pm_at_pc pd_law 465 = some (.iadd, 1, 0, 0, 0, []) := rfl
theorem el_466 : pm_at_pc pd_law 466 = some (.iaload, 1, 0, 0, 0, []) := rfl
theorem el_467 : pm_at_pc pd_law 467 = some (.invokevirtual 57, 3, 203, 0, 0, [(15, 5)]) := rfl
theorem el_470 : pm_at_pc pd_law 470 = some (.pop, 1, 0, 0, 0, []) := rfl
theorem el_471 : pm_at_pc pd_law 471 = some (.goto 530, 3, 1001, 0, 0, []) := rfl
theorem el_474 : pm_at_pc pd_law 474 = some (.aload_n 1, 1, 0, 0, 0, []) := rfl
theorem el_475 : pm_at_pc pd_law 475 = some (.aload_n 0, 1, 0, 0, 0, []) := rfl
theorem el_476 : pm_at_pc pd_law 476 = some (.iload_n 3, 1, 0, 0, 0, []) := rfl
theorem el_477 : pm_at_pc pd_law 477 = some (.iconst 1, 1, 0, 0, 0, []) := rfl
theorem el_478 : pm_at_pc pd_law 478 = some (.iadd, 1, 0, 0, 0, []) := rfl
theorem el_479 : pm_at_pc pd_law 479 = some (.iaload, 1, 0, 0, 0, []) := rfl
theorem el_480 : pm_at_pc pd_law 480 = some (.aload_n 0, 1, 0, 0, 0, []) := rfl
theorem el_481 : pm_at_pc pd_law 481 = some (.iload_n 3, 1, 0, 0, 0, []) := rfl
theorem el_482 : pm_at_pc pd_law 482 = some (.iconst 2, 1, 0, 0, 0, []) := rfl
theorem el_483 : pm_at_pc pd_law 483 = some (.iadd, 1, 0, 0, 0, []) := rfl
theorem el_484 : pm_at_pc pd_law 484 = some (.iaload, 1, 0, 0, 0, []) := rfl
theorem el_485 : pm_at_pc pd_law 485 = some (.invokevirtual 58, 3, 113, 0, 0, [(15, 6)]) := rfl
theorem el_488 : pm_at_pc pd_law 488 = some (.pop2, 1, 0, 0, 0, []) := rfl
theorem el_489 : pm_at_pc pd_law 489 = some (.aload_n 2, 1, 0, 0, 0, []) := rfl
theorem el_490 : pm_at_pc pd_law 490 = some (.aload_n 0, 1, 0, 0, 0, []) := rfl
theorem el_491 : pm_at_pc pd_law 491 = some (.iload_n 3, 1, 0, 0, 0, []) := rfl
theorem el_492 : pm_at_pc pd_law 492 = some (.iconst 1, 1, 0, 0, 0, []) := rfl
theorem el_493 : pm_at_pc pd_law 493 = some (.iadd, 1, 0, 0, 0, []) := rfl
theorem el_494 : pm_at_pc pd_law 494 = some (.iaload, 1, 0, 0, 0, []) := rfl
theorem el_495 : pm_at_pc pd_law 495 = some (.aload_n 0, 1, 0, 0, 0, []) := rfl
theorem el_496 : pm_at_pc pd_law 496 = some (.iload_n 3, 1, 0, 0, 0, []) := rfl
theorem el_497 : pm_at_pc pd_law 497 = some (.iconst 2, 1, 0, 0, 0, []) := rfl
theorem el_498 : pm_at_pc pd_law 498 = some (.iadd, 1, 0, 0, 0, []) := rfl
theorem el_499 : pm_at_pc pd_law 499 = some (.iaload, 1, 0, 0, 0, []) := rfl
theorem el_500 : pm_at_pc pd_law 500 = some (.invokevirtual 61, 3, 215, 0, 0, [(15, 7)]) := rfl
theorem el_503 : pm_at_pc pd_law 503 = some (.pop2, 1, 0, 0, 0, []) := rfl
theorem el_504 : pm_at_pc pd_law 504 = some (.goto 497, 3, 1001, 0, 0, []) := rfl
theorem el_507 : pm_at_pc pd_law 507 = some (.aload_n 1, 1, 0, 0, 0, []) := rfl
theorem el_508 : pm_at_pc pd_law 508 = some (.aload_n 0, 1, 0, 0, 0, []) := rfl
theorem el_509 : pm_at_pc pd_law 509 = some (.iload_n 3, 1, 0, 0, 0, []) := rfl
theorem el_510 : pm_at_pc pd_law 510 = some (.iconst 1, 1, 0, 0, 0, []) := rfl
theorem el_511 : pm_at_pc pd_law 511 = some (.iadd, 1, 0, 0, 0, []) := rfl
theorem el_512 : pm_at_pc pd_law 512 = some (.iaload, 1, 0, 0, 0, []) := rfl
theorem el_513 : pm_at_pc pd_law 513 = some (.aload_n 0, 1, 0, 0, 0, []) := rfl
theorem el_514 : pm_at_pc pd_law 514 = some (.iload_n 3, 1, 0, 0, 0, []) := rfl
theorem el_515 : pm_at_pc pd_law 515 = some (.iconst 2, 1, 0, 0, 0, []) := rfl
theorem el_516 : pm_at_pc pd_law 516 = some (.iadd, 1, 0, 0, 0, []) := rfl
theorem el_517 : pm_at_pc pd_law 517 = some (.iaload, 1, 0, 0, 0, []) := rfl
theorem el_518 : pm_at_pc pd_law 518 = some (.invokevirtual 62, 3, 114, 0, 0, [(15, 8)]) := rfl
theorem el_521 : pm_at_pc pd_law 521 = some (.pop, 1, 0, 0, 0, []) := rfl
theorem el_522 : pm_at_pc pd_law 522 = some (.aload_n 2, 1, 0, 0, 0, []) := rfl
theorem el_523 : pm_at_pc pd_law 523 = some (.aload_n 0, 1, 0, 0, 0, []) := rfl
theorem el_524 : pm_at_pc pd_law 524 = some (.iload_n 3, 1, 0, 0, 0, []) := rfl
theorem el_525 : pm_at_pc pd_law 525 = some (.iconst 1, 1, 0, 0, 0, []) := rfl
theorem el_526 : pm_at_pc pd_law 526 = some (.iadd, 1, 0, 0, 0, []) := rfl
theorem el_527 : pm_at_pc pd_law 527 = some (.iaload, 1, 0, 0, 0, []) := rfl
theorem el_528 : pm_at_pc pd_law 528 = some (.aload_n 0, 1, 0, 0, 0, []) := rfl
theorem el_529 : pm_at_pc pd_law 529 = some (.iload_n 3, 1, 0, 0, 0, []) := rfl
theorem el_530 : pm_at_pc pd_law 530 = some (.iconst 2, 1, 0, 0, 0, []) := rfl
theorem el_531 : pm_at_pc pd_law 531 = some (.iadd, 1, 0, 0, 0, []) := rfl
theorem el_532 : pm_at_pc pd_law 532 = some (.iaload, 1, 0, 0, 0, []) := rfl
theorem el_533 : pm_at_pc pd_law 533 = some (.invokevirtual 65, 3, 217, 0, 0, [(15, 9)]) := rfl
theorem el_536 : pm_at_pc pd_law 536 = some (.pop, 1, 0, 0, 0, []) := rfl
theorem el_537 : pm_at_pc pd_law 537 = some (.goto 464, 3, 1001, 0, 0, []) := rfl
theorem el_540 : pm_at_pc pd_law 540 = some (.aload_n 1, 1, 0, 0, 0, []) := rfl
theorem el_541 : pm_at_pc pd_law 541 = some (.aload_n 0, 1, 0, 0, 0, []) := rfl
theorem el_542 : pm_at_pc pd_law 542 = some (.iload_n 3, 1, 0, 0, 0, []) := rfl
theorem el_543 : pm_at_pc pd_law 543 = some (.iconst 1, 1, 0, 0, 0, []) := rfl
theorem el_544 : pm_at_pc pd_law 544 = some (.iadd, 1, 0, 0, 0, []) := rfl
theorem el_545 : pm_at_pc pd_law 545 = some (.iaload, 1, 0, 0, 0, []) := rfl
theorem el_546 : pm_at_pc pd_law 546 = some (.invokevirtual 66, 3, 115, 0, 0, [(15, 10)]) := rfl
theorem el_549 : pm_at_pc pd_law 549 = some (.pop, 1, 0, 0, 0, []) := rfl
theorem el_550 : pm_at_pc pd_law 550 = some (.aload_n 2, 1, 0, 0, 0, []) := rfl
theorem el_551 : pm_at_pc pd_law 551 = some (.aload_n 0, 1, 0, 0, 0, []) := rfl
theorem el_552 : pm_at_pc pd_law 552 = some (.iload_n 3, 1, 0, 0, 0, []) := rfl
theorem el_553 : pm_at_pc pd_law 553 = some (.iconst 1, 1, 0, 0, 0, []) := rfl
theorem el_554 : pm_at_pc pd_law 554 = some (.iadd, 1, 0, 0, 0, []) := rfl
theorem el_555 : pm_at_pc pd_law 555 = some (.iaload, 1, 0, 0, 0, []) := rfl
theorem el_556 : pm_at_pc pd_law 556 = some (.invokevirtual 69, 3, 220, 0, 0, [(15, 11)]) := rfl
theorem el_559 : pm_at_pc pd_law 559 = some (.pop, 1, 0, 0, 0, []) := rfl
theorem el_560 : pm_at_pc pd_law 560 = some (.goto 441, 3, 1001, 0, 0, []) := rfl
theorem el_563 : pm_at_pc pd_law 563 = some (.aload_n 1, 1, 0, 0, 0, []) := rfl
theorem el_564 : pm_at_pc pd_law 564 = some (.aload_n 0, 1, 0, 0, 0, []) := rfl
theorem el_565 : pm_at_pc pd_law 565 = some (.iload_n 3, 1, 0, 0, 0, []) := rfl
theorem el_566 : pm_at_pc pd_law 566 = some (.iconst 1, 1, 0, 0, 0, []) := rfl
theorem el_567 : pm_at_pc pd_law 567 = some (.iadd, 1, 0, 0, 0, []) := rfl
theorem el_568 : pm_at_pc pd_law 568 = some (.iaload, 1, 0, 0, 0, []) := rfl
theorem el_569 : pm_at_pc pd_law 569 = some (.aload_n 0, 1, 0, 0, 0, []) := rfl
theorem el_570 : pm_at_pc pd_law 570 = some (.iload_n 3, 1, 0, 0, 0, []) := rfl
theorem el_571 : pm_at_pc pd_law 571 = some (.iconst 2, 1, 0, 0, 0, []) := rfl
theorem el_572 : pm_at_pc pd_law 572 = some (.iadd, 1, 0, 0, 0, []) := rfl
theorem el_573 : pm_at_pc pd_law 573 = some (.iaload, 1, 0, 0, 0, []) := rfl
theorem el_574 : pm_at_pc pd_law 574 = some (.invokevirtual 70, 3, 116, 0, 0, [(15, 12)]) := rfl
theorem el_577 : pm_at_pc pd_law 577 = some (.pop, 1, 0, 0, 0, []) := rfl
theorem el_578 : pm_at_pc pd_law 578 = some (.aload_n 2, 1, 0, 0, 0, []) := rfl
theorem el_579 : pm_at_pc pd_law 579 = some (.aload_n 0, 1, 0, 0, 0, []) := rfl
theorem el_580 : pm_at_pc pd_law 580 = some (.iload_n 3, 1, 0, 0, 0, []) := rfl
theorem el_581 : pm_at_pc pd_law 581 = some (.iconst 1, 1, 0, 0, 0, []) := rfl
theorem el_582 : pm_at_pc pd_law 582 = some (.iadd, 1, 0, 0, 0, []) := rfl
theorem el_583 : pm_at_pc pd_law 583 = some (.iaload, 1, 0, 0, 0, []) := rfl
theorem el_584 : pm_at_pc pd_law 584 = some (.aload_n 0, 1, 0, 0, 0, []) := rfl
theorem el_585 : pm_at_pc pd_law 585 = some (.iload_n 3, 1, 0, 0, 0, []) := rfl
theorem el_586 : pm_at_pc pd_law 586 = some (.iconst 2, 1, 0, 0, 0, []) := rfl
theorem el_587 : pm_at_pc pd_law 587 = some (.iadd, 1, 0, 0, 0, []) := rfl
theorem el_588 : pm_at_pc pd_law 588 = some (.iaload, 1, 0, 0, 0, []) := rfl
theorem el_589 : pm_at_pc pd_law 589 = some (.invokevirtual 73, 3, 221, 0, 0, [(15, 13)]) := rfl
theorem el_592 : pm_at_pc pd_law 592 = some (.pop, 1, 0, 0, 0, []) := rfl
theorem el_593 : pm_at_pc pd_law 593 = some (.goto 408, 3, 1001, 0, 0, []) := rfl
theorem el_596 : pm_at_pc pd_law 596 = some (.aload_n 1, 1, 0, 0, 0, []) := rfl
theorem el_597 : pm_at_pc pd_law 597 = some (.aload_n 0, 1, 0, 0, 0, []) := rfl
theorem el_598 : pm_at_pc pd_law 598 = some (.iload_n 3, 1, 0, 0, 0, []) := rfl
theorem el_599 : pm_at_pc pd_law 599 = some (.iconst 1, 1, 0, 0, 0, []) := rfl
theorem el_600 : pm_at_pc pd_law 600 = some (.iadd, 1, 0, 0, 0, []) := rfl
theorem el_601 : pm_at_pc pd_law 601 = some (.iaload, 1, 0, 0, 0, []) := rfl
theorem el_602 : pm_at_pc pd_law 602 = some (.invokevirtual 74, 3, 117, 0, 0, [(15, 14)]) := rfl
theorem el_605 : pm_at_pc pd_law 605 = some (.pop, 1, 0, 0, 0, []) := rfl
theorem el_606 : pm_at_pc pd_law 606 = some (.aload_n 2, 1, 0, 0, 0, []) := rfl
theorem el_607 : pm_at_pc pd_law 607 = some (.aload_n 0, 1, 0, 0, 0, []) := rfl
theorem el_608 : pm_at_pc pd_law 608 = some (.iload_n 3, 1, 0, 0, 0, []) := rfl
theorem el_609 : pm_at_pc pd_law 609 = some (.iconst 1, 1, 0, 0, 0, []) := rfl
theorem el_610 : pm_at_pc pd_law 610 = some (.iadd, 1, 0, 0, 0, []) := rfl
theorem el_611 : pm_at_pc pd_law 611 = some (.iaload, 1, 0, 0, 0, []) := rfl
theorem el_612 : pm_at_pc pd_law 612 = some (.invokevirtual 77, 3, 223, 0, 0, [(15, 15)]) := rfl
theorem el_615 : pm_at_pc pd_law 615 = some (.pop, 1, 0, 0, 0, []) := rfl
theorem el_616 : pm_at_pc pd_law 616 = some (.goto 385, 3, 1001, 0, 0, []) := rfl
theorem el_619 : pm_at_pc pd_law 619 = some (.aload_n 1, 1, 0, 0, 0, []) := rfl
theorem el_620 : pm_at_pc pd_law 620 = some (.aload_n 0, 1, 0, 0, 0, []) := rfl
theorem el_621 : pm_at_pc pd_law 621 = some (.iload_n 3, 1, 0, 0, 0, []) := rfl
theorem el_622 : pm_at_pc pd_law 622 = some (.iconst 1, 1, 0, 0, 0, []) := rfl
theorem el_623 : pm_at_pc pd_law 623 = some (.iadd, 1, 0, 0, 0, []) := rfl
theorem el_624 : pm_at_pc pd_law 624 = some (.iaload, 1, 0, 0, 0, []) := rfl
theorem el_625 : pm_at_pc pd_law 625 = some (.aload_n 0, 1, 0, 0, 0, []) := rfl
theorem el_626 : pm_at_pc pd_law 626 = some (.iload_n 3, 1, 0, 0, 0, []) := rfl
theorem el_627 : pm_at_pc pd_law 627 = some (.iconst 2, 1, 0, 0, 0, []) := rfl
theorem el_628 : pm_at_pc pd_law 628 = some (.iadd, 1, 0, 0, 0, []) := rfl
theorem el_629 : pm_at_pc pd_law 629 = some (.iaload, 1, 0, 0, 0, []) := rfl
theorem el_630 : pm_at_pc pd_law 630 = some (.aload_n 0, 1, 0, 0, 0, []) := rfl
theorem el_631 : pm_at_pc pd_law 631 = some (.iload_n 3, 1, 0, 0, 0, []) := rfl
theorem el_632 : pm_at_pc pd_law 632 = some (.iconst 3, 1, 0, 0, 0, []) := rfl
theorem el_633 : pm_at_pc pd_law 633 = some (.iadd, 1, 0, 0, 0, []) := rfl
theorem el_634 : pm_at_pc pd_law 634 = some (.iaload, 1, 0, 0, 0, []) := rfl
theorem el_635 : pm_at_pc pd_law 635 = some (.invokevirtual 78, 3, 118, 0, 0, [(16, 0)]) := rfl
theorem el_638 : pm_at_pc pd_law 638 = some (.pop2, 1, 0, 0, 0, []) := rfl
theorem el_639 : pm_at_pc pd_law 639 = some (.aload_n 2, 1, 0, 0, 0, []) := rfl
theorem el_640 : pm_at_pc pd_law 640 = some (.aload_n 0, 1, 0, 0, 0, []) := rfl
theorem el_641 : pm_at_pc pd_law 641 = some (.iload_n 3, 1, 0, 0, 0, []) := rfl
theorem el_642 : pm_at_pc pd_law 642 = some (.iconst 1, 1, 0, 0, 0, []) := rfl
theorem el_643 : pm_at_pc pd_law 643 = some (.iadd, 1, 0, 0, 0, []) := rfl
theorem el_644 : pm_at_pc pd_law 644 = some (.iaload, 1, 0, 0, 0, []) := rfl
theorem el_645 : pm_at_pc pd_law 645 = some (.aload_n 0, 1, 0, 0, 0, []) := rfl
theorem el_646 : pm_at_pc pd_law 646 = some (.iload_n 3, 1, 0, 0, 0, []) := rfl
theorem el_647 : pm_at_pc pd_law 647 = some (.iconst 2, 1, 0, 0, 0, []) := rfl
theorem el_648 : pm_at_pc pd_law 648 = some (.iadd, 1, 0, 0, 0, []) := rfl
theorem el_649 : pm_at_pc pd_law 649 = some (.iaload, 1, 0, 0, 0, []) := rfl
theorem el_650 : pm_at_pc pd_law 650 = some (.aload_n 0, 1, 0, 0, 0, []) := rfl
theorem el_651 : pm_at_pc pd_law 651 = some (.iload_n 3, 1, 0, 0, 0, []) := rfl
theorem el_652 : pm_at_pc pd_law 652 = some (.iconst 3, 1, 0, 0, 0, []) := rfl
theorem el_653 : pm_at_pc pd_law 653 = some (.iadd, 1, 0, 0, 0, []) := rfl
theorem el_654 : pm_at_pc pd_law 654 = some (.iaload, 1, 0, 0, 0, []) := rfl
theorem el_655 : pm_at_pc pd_law 655 = some (.invokevirtual 82, 3, 224, 0, 0, [(16, 1)]) := rfl
theorem el_658 : pm_at_pc pd_law 658 = some (.pop2, 1, 0, 0, 0, []) := rfl
theorem el_659 : pm_at_pc pd_law 659 = some (.goto 342, 3, 1001, 0, 0, []) := rfl
theorem el_662 : pm_at_pc pd_law 662 = some (.aload_n 1, 1, 0, 0, 0, []) := rfl
theorem el_663 : pm_at_pc pd_law 663 = some (.aload_n 0, 1, 0, 0, 0, []) := rfl
theorem el_664 : pm_at_pc pd_law 664 = some (.iload_n 3, 1, 0, 0, 0, []) := rfl
theorem el_665 : pm_at_pc pd_law 665 = some (.iconst 1, 1, 0, 0, 0, []) := rfl
theorem el_666 : pm_at_pc pd_law 666 = some (.iadd, 1, 0, 0, 0, []) := rfl
theorem el_667 : pm_at_pc pd_law 667 = some (.iaload, 1, 0, 0, 0, []) := rfl
theorem el_668 : pm_at_pc pd_law 668 = some (.aload_n 0, 1, 0, 0, 0, []) := rfl
theorem el_669 : pm_at_pc pd_law 669 = some (.iload_n 3, 1, 0, 0, 0, []) := rfl
theorem el_670 : pm_at_pc pd_law 670 = some (.iconst 2, 1, 0, 0, 0, []) := rfl
theorem el_671 : pm_at_pc pd_law 671 = some (.iadd, 1, 0, 0, 0, []) := rfl
theorem el_672 : pm_at_pc pd_law 672 = some (.iaload, 1, 0, 0, 0, []) := rfl
theorem el_673 : pm_at_pc pd_law 673 = some (.aload_n 0, 1, 0, 0, 0, []) := rfl
theorem el_674 : pm_at_pc pd_law 674 = some (.iload_n 3, 1, 0, 0, 0, []) := rfl
theorem el_675 : pm_at_pc pd_law 675 = some (.iconst 3, 1, 0, 0, 0, []) := rfl
theorem el_676 : pm_at_pc pd_law 676 = some (.iadd, 1, 0, 0, 0, []) := rfl
theorem el_677 : pm_at_pc pd_law 677 = some (.iaload, 1, 0, 0, 0, []) := rfl
theorem el_678 : pm_at_pc pd_law 678 = some (.aload_n 0, 1, 0, 0, 0, []) := rfl
theorem el_679 : pm_at_pc pd_law 679 = some (.iload_n 3, 1, 0, 0, 0, []) := rfl
theorem el_680 : pm_at_pc pd_law 680 = some (.iconst 4, 1, 0, 0, 0, []) := rfl
theorem el_681 : pm_at_pc pd_law 681 = some (.iadd, 1, 0, 0, 0, []) := rfl
theorem el_682 : pm_at_pc pd_law 682 = some (.iaload, 1, 0, 0, 0, []) := rfl
theorem el_683 : pm_at_pc pd_law 683 = some (.invokevirtual 83, 3, 119, 0, 0, [(16, 2)]) := rfl
theorem el_686 : pm_at_pc pd_law 686 = some (.pop, 1, 0, 0, 0, []) := rfl
theorem el_687 : pm_at_pc pd_law 687 = some (.aload_n 2, 1, 0, 0, 0, []) := rfl
theorem el_688 : pm_at_pc pd_law 688 = some (.aload_n 0, 1, 0, 0, 0, []) := rfl
theorem el_689 : pm_at_pc pd_law 689 = some (.iload_n 3, 1, 0, 0, 0, []) := rfl
theorem el_690 : pm_at_pc pd_law 690 = some (.iconst 1, 1, 0, 0, 0, []) := rfl
theorem el_691 : pm_at_pc pd_law 691 = some (.iadd, 1, 0, 0, 0, []) := rfl
theorem el_692 : pm_at_pc pd_law 692 = some (.iaload, 1, 0, 0, 0, []) := rfl
theorem el_693 : pm_at_pc pd_law 693 = some (.aload_n 0, 1, 0, 0, 0, []) := rfl
theorem el_694 : pm_at_pc pd_law 694 = some (.iload_n 3, 1, 0, 0, 0, []) := rfl
theorem el_695 : pm_at_pc pd_law 695 = some (.iconst 2, 1, 0, 0, 0, []) := rfl
theorem el_696 : pm_at_pc pd_law 696 = some (.iadd, 1, 0, 0, 0, []) := rfl
theorem el_697 : pm_at_pc pd_law 697 = some (.iaload, 1, 0, 0, 0, []) := rfl
theorem el_698 : pm_at_pc pd_law 698 = some (.aload_n 0, 1, 0, 0, 0, []) := rfl
theorem el_699 : pm_at_pc pd_law 699 = some (.iload_n 3, 1, 0, 0, 0, []) := rfl
theorem el_700 : pm_at_pc pd_law 700 = some (.iconst 3, 1, 0, 0, 0, []) := rfl
theorem el_701 : pm_at_pc pd_law 701 = some (.iadd, 1, 0, 0, 0, []) := rfl
theorem el_702 : pm_at_pc pd_law 702 = some (.iaload, 1, 0, 0, 0, []) := rfl
theorem el_703 : pm_at_pc pd_law 703 = some (.aload_n 0, 1, 0, 0, 0, []) := rfl
theorem el_704 : pm_at_pc pd_law 704 = some (.iload_n 3, 1, 0, 0, 0, []) := rfl
theorem el_705 : pm_at_pc pd_law 705 = some (.iconst 4, 1, 0, 0, 0, []) := rfl
theorem el_706 : pm_at_pc pd_law 706 = some (.iadd, 1, 0, 0, 0, []) := rfl
theorem el_707 : pm_at_pc pd_law 707 = some (.iaload, 1, 0, 0, 0, []) := rfl
theorem el_708 : pm_at_pc pd_law 708 = some (.invokevirtual 87, 3, 226, 0, 0, [(16, 3)]) := rfl
theorem el_711 : pm_at_pc pd_law 711 = some (.pop, 1, 0, 0, 0, []) := rfl
theorem el_712 : pm_at_pc pd_law 712 = some (.goto 289, 3, 1001, 0, 0, []) := rfl
theorem el_715 : pm_at_pc pd_law 715 = some (.aload_n 1, 1, 0, 0, 0, []) := rfl
theorem el_716 : pm_at_pc pd_law 716 = some (.aload_n 0, 1, 0, 0, 0, []) := rfl
theorem el_717 : pm_at_pc pd_law 717 = some (.iload_n 3, 1, 0, 0, 0, []) := rfl
theorem el_718 : pm_at_pc pd_law 718 = some (.iconst 1, 1, 0, 0, 0, []) := rfl
theorem el_719 : pm_at_pc pd_law 719 = some (.iadd, 1, 0, 0, 0, []) := rfl
theorem el_720 : pm_at_pc pd_law 720 = some (.iaload, 1, 0, 0, 0, []) := rfl
theorem el_721 : pm_at_pc pd_law 721 = some (.aload_n 0, 1, 0, 0, 0, []) := rfl
theorem el_722 : pm_at_pc pd_law 722 = some (.iload_n 3, 1, 0, 0, 0, []) := rfl
theorem el_723 : pm_at_pc pd_law 723 = some (.iconst 2, 1, 0, 0, 0, []) := rfl
theorem el_724 : pm_at_pc pd_law 724 = some (.iadd, 1, 0, 0, 0, []) := rfl
theorem el_725 : pm_at_pc pd_law 725 = some (.iaload, 1, 0, 0, 0, []) := rfl
theorem el_726 : pm_at_pc pd_law 726 = some (.aload_n 0, 1, 0, 0, 0, []) := rfl
theorem el_727 : pm_at_pc pd_law 727 = some (.iload_n 3, 1, 0, 0, 0, []) := rfl
theorem el_728 : pm_at_pc pd_law 728 = some (.iconst 3, 1, 0, 0, 0, []) := rfl
theorem el_729 : pm_at_pc pd_law 729 = some (.iadd, 1, 0, 0, 0, []) := rfl
theorem el_730 : pm_at_pc pd_law 730 = some (.iaload, 1, 0, 0, 0, []) := rfl
theorem el_731 : pm_at_pc pd_law 731 = some (.invokevirtual 88, 3, 120, 0, 0, [(16, 4)]) := rfl
theorem el_734 : pm_at_pc pd_law 734 = some (.pop, 1, 0, 0, 0, []) := rfl
theorem el_735 : pm_at_pc pd_law 735 = some (.aload_n 2, 1, 0, 0, 0, []) := rfl
theorem el_736 : pm_at_pc pd_law 736 = some (.aload_n 0, 1, 0, 0, 0, []) := rfl
theorem el_737 : pm_at_pc pd_law 737 = some (.iload_n 3, 1, 0, 0, 0, []) := rfl
theorem el_738 : pm_at_pc pd_law 738 = some (.iconst 1, 1, 0, 0, 0, []) := rfl
theorem el_739 : pm_at_pc pd_law 739 = some (.iadd, 1, 0, 0, 0, []) := rfl
theorem el_740 : pm_at_pc pd_law 740 = some (.iaload, 1, 0, 0, 0, []) := rfl
theorem el_741 : pm_at_pc pd_law 741 = some (.aload_n 0, 1, 0, 0, 0, []) := rfl
theorem el_742 : pm_at_pc pd_law 742 = some (.iload_n 3, 1, 0, 0, 0, []) := rfl
theorem el_743 : pm_at_pc pd_law 743 = some (.iconst 2, 1, 0, 0, 0, []) := rfl
theorem el_744 : pm_at_pc pd_law 744 = some (.iadd, 1, 0, 0, 0, []) := rfl
theorem el_745 : pm_at_pc pd_law 745 = some (.iaload, 1, 0, 0, 0, []) := rfl
theorem el_746 : pm_at_pc pd_law 746 = some (.aload_n 0, 1, 0, 0, 0, []) := rfl
theorem el_747 : pm_at_pc pd_law 747 = some (.iload_n 3, 1, 0, 0, 0, []) := rfl
theorem el_748 : pm_at_pc pd_law 748 = some (.iconst 3, 1, 0, 0, 0, []) := rfl
theorem el_749 : pm_at_pc pd_law 749 = some (.iadd, 1, 0, 0, 0, []) := rfl
theorem el_750 : pm_at_pc pd_law 750 = some (.iaload, 1, 0, 0, 0, []) := rfl
theorem el_751 : pm_at_pc pd_law 751 = some (.invokevirtual 92, 3, 230, 0, 0, [(16, 5)]) := rfl
theorem el_754 : pm_at_pc pd_law 754 = some (.pop, 1, 0, 0, 0, []) := rfl
theorem el_755 : pm_at_pc pd_law 755 = some (.goto 246, 3, 1001, 0, 0, []) := rfl
theorem el_758 : pm_at_pc pd_law 758 = some (.aload_n 1, 1, 0, 0, 0, []) := rfl
theorem el_759 : pm_at_pc pd_law 759 = some (.aload_n 0, 1, 0, 0, 0, []) := rfl
theorem el_760 : pm_at_pc pd_law 760 = some (.iload_n 3, 1, 0, 0, 0, []) := rfl
theorem el_761 : pm_at_pc pd_law 761 = some (.iconst 1, 1, 0, 0, 0, []) := rfl
theorem el_762 : pm_at_pc pd_law 762 = some (.iadd, 1, 0, 0, 0, []) := rfl
theorem el_763 : pm_at_pc pd_law 763 = some (.iaload, 1, 0, 0, 0, []) := rfl
theorem el_764 : pm_at_pc pd_law 764 = some (.aload_n 0, 1, 0, 0, 0, []) := rfl
theorem el_765 : pm_at_pc pd_law 765 = some (.iload_n 3, 1, 0, 0, 0, []) := rfl
theorem el_766 : pm_at_pc pd_law 766 = some (.iconst 2, 1, 0, 0, 0, []) := rfl
theorem el_767 : pm_at_pc pd_law 767 = some (.iadd, 1, 0, 0, 0, []) := rfl
theorem el_768 : pm_at_pc pd_law 768 = some (.iaload, 1, 0, 0, 0, []) := rfl
theorem el_769 : pm_at_pc pd_law 769 = some (.invokevirtual 93, 3, 121, 0, 0, [(16, 6)]) := rfl
theorem el_772 : pm_at_pc pd_law 772 = some (.pop, 1, 0, 0, 0, []) := rfl
theorem el_773 : pm_at_pc pd_law 773 = some (.aload_n 2, 1, 0, 0, 0, []) := rfl
theorem el_774 : pm_at_pc pd_law 774 = some (.aload_n 0, 1, 0, 0, 0, []) := rfl
theorem el_775 : pm_at_pc pd_law 775 = some (.iload_n 3, 1, 0, 0, 0, []) := rfl
theorem el_776 : pm_at_pc pd_law 776 = some (.iconst 1, 1, 0, 0, 0, []) := rfl
theorem el_777 : pm_at_pc pd_law 777 = some (.iadd, 1, 0, 0, 0, []) := rfl
theorem el_778 : pm_at_pc pd_law 778 = some (.iaload, 1, 0, 0, 0, []) := rfl
theorem el_779 : pm_at_pc pd_law 779 = some (.aload_n 0, 1, 0, 0, 0, []) := rfl
theorem el_780 : pm_at_pc pd_law 780 = some (.iload_n 3, 1, 0, 0, 0, []) := rfl
theorem el_781 : pm_at_pc pd_law 781 = some (.iconst 2, 1, 0, 0, 0, []) := rfl
theorem el_782 : pm_at_pc pd_law 782 = some (.iadd, 1, 0, 0, 0, []) := rfl
theorem el_783 : pm_at_pc pd_law 783 = some (.iaload, 1, 0, 0, 0, []) := rfl
theorem el_784 : pm_at_pc pd_law 784 = some (.invokevirtual 96, 3, 235, 0, 0, [(16, 7)]) := rfl
theorem el_787 : pm_at_pc pd_law 787 = some (.pop, 1, 0, 0, 0, []) := rfl
theorem el_788 : pm_at_pc pd_law 788 = some (.goto 213, 3, 1001, 0, 0, []) := rfl
theorem el_791 : pm_at_pc pd_law 791 = some (.aload_n 1, 1, 0, 0, 0, []) := rfl
theorem el_792 : pm_at_pc pd_law 792 = some (.aload_n 0, 1, 0, 0, 0, []) := rfl
theorem el_793 : pm_at_pc pd_law 793 = some (.iload_n 3, 1, 0, 0, 0, []) := rfl
theorem el_794 : pm_at_pc pd_law 794 = some (.iconst 1, 1, 0, 0, 0, []) := rfl
theorem el_795 : pm_at_pc pd_law 795 = some (.iadd, 1, 0, 0, 0, []) := rfl
theorem el_796 : pm_at_pc pd_law 796 = some (.iaload, 1, 0, 0, 0, []) := rfl
theorem el_797 : pm_at_pc pd_law 797 = some (.invokevirtual 97, 3, 122, 0, 0, [(16, 8)]) := rfl
theorem el_800 : pm_at_pc pd_law 800 = some (.pop, 1, 0, 0, 0, []) := rfl
theorem el_801 : pm_at_pc pd_law 801 = some (.aload_n 2, 1, 0, 0, 0, []) := rfl
theorem el_802 : pm_at_pc pd_law 802 = some (.aload_n 0, 1, 0, 0, 0, []) := rfl
theorem el_803 : pm_at_pc pd_law 803 = some (.iload_n 3, 1, 0, 0, 0, []) := rfl
theorem el_804 : pm_at_pc pd_law 804 = some (.iconst 1, 1, 0, 0, 0, []) := rfl
theorem el_805 : pm_at_pc pd_law 805 = some (.iadd, 1, 0, 0, 0, []) := rfl
theorem el_806 : pm_at_pc pd_law 806 = some (.iaload, 1, 0, 0, 0, []) := rfl
theorem el_807 : pm_at_pc pd_law 807 = some (.invokevirtual 100, 3, 238, 0, 0, [(16, 9)]) := rfl
theorem el_810 : pm_at_pc pd_law 810 = some (.pop, 1, 0, 0, 0, []) := rfl
theorem el_811 : pm_at_pc pd_law 811 = some (.goto 190, 3, 1001, 0, 0, []) := rfl
theorem el_814 : pm_at_pc pd_law 814 = some (.aload_n 1, 1, 0, 0, 0, []) := rfl
theorem el_815 : pm_at_pc pd_law 815 = some (.aload_n 0, 1, 0, 0, 0, []) := rfl
theorem el_816 : pm_at_pc pd_law 816 = some (.iload_n 3, 1, 0, 0, 0, []) := rfl
theorem el_817 : pm_at_pc pd_law 817 = some (.iconst 1, 1, 0, 0, 0, []) := rfl
theorem el_818 : pm_at_pc pd_law 818 = some (.iadd, 1, 0, 0, 0, []) := rfl
theorem el_819 : pm_at_pc pd_law 819 = some (.iaload, 1, 0, 0, 0, []) := rfl
theorem el_820 : pm_at_pc pd_law 820 = some (.invokevirtual 101, 3, 123, 0, 0, [(16, 10)]) := rfl
theorem el_823 : pm_at_pc pd_law 823 = some (.pop2, 1, 0, 0, 0, []) := rfl
theorem el_824 : pm_at_pc pd_law 824 = some (.aload_n 2, 1, 0, 0, 0, []) := rfl
theorem el_825 : pm_at_pc pd_law 825 = some (.aload_n 0, 1, 0, 0, 0, []) := rfl
theorem el_826 : pm_at_pc pd_law 826 = some (.iload_n 3, 1, 0, 0, 0, []) := rfl
theorem el_827 : pm_at_pc pd_law 827 = some (.iconst 1, 1, 0, 0, 0, []) := rfl
theorem el_828 : pm_at_pc pd_law 828 = some (.iadd, 1, 0, 0, 0, []) := rfl
theorem el_829 : pm_at_pc pd_law 829 = some (.iaload, 1, 0, 0, 0, []) := rfl
theorem el_830 : pm_at_pc pd_law 830 = some (.invokevirtual 105, 3, 242, 0, 0, [(16, 11)]) := rfl
theorem el_833 : pm_at_pc pd_law 833 = some (.pop2, 1, 0, 0, 0, []) := rfl
theorem el_834 : pm_at_pc pd_law 834 = some (.goto 167, 3, 1001, 0, 0, []) := rfl
theorem el_837 : pm_at_pc pd_law 837 = some (.aload_n 1, 1, 0, 0, 0, []) := rfl
theorem el_838 : pm_at_pc pd_law 838 = some (.aload_n 0, 1, 0, 0, 0, []) := rfl
theorem el_839 : pm_at_pc pd_law 839 = some (.iload_n 3, 1, 0, 0, 0, []) := rfl
theorem el_840 : pm_at_pc pd_law 840 = some (.iconst 1, 1, 0, 0, 0, []) := rfl
theorem el_841 : pm_at_pc pd_law 841 = some (.iadd, 1, 0, 0, 0, []) := rfl
theorem el_842 : pm_at_pc pd_law 842 = some (.iaload, 1, 0, 0, 0, []) := rfl
theorem el_843 : pm_at_pc pd_law 843 = some (.aload_n 0, 1, 0, 0, 0, []) := rfl
theorem el_844 : pm_at_pc pd_law 844 = some (.iload_n 3, 1, 0, 0, 0, []) := rfl
theorem el_845 : pm_at_pc pd_law 845 = some (.iconst 2, 1, 0, 0, 0, []) := rfl
theorem el_846 : pm_at_pc pd_law 846 = some (.iadd, 1, 0, 0, 0, []) := rfl
theorem el_847 : pm_at_pc pd_law 847 = some (.iaload, 1, 0, 0, 0, []) := rfl
theorem el_848 : pm_at_pc pd_law 848 = some (.invokevirtual 106, 3, 124, 0, 0, [(16, 12)]) := rfl
theorem el_851 : pm_at_pc pd_law 851 = some (.pop2, 1, 0, 0, 0, []) := rfl
theorem el_852 : pm_at_pc pd_law 852 = some (.aload_n 2, 1, 0, 0, 0, []) := rfl
theorem el_853 : pm_at_pc pd_law 853 = some (.aload_n 0, 1, 0, 0, 0, []) := rfl
theorem el_854 : pm_at_pc pd_law 854 = some (.iload_n 3, 1, 0, 0, 0, []) := rfl
theorem el_855 : pm_at_pc pd_law 855 = some (.iconst 1, 1, 0, 0, 0, []) := rfl
theorem el_856 : pm_at_pc pd_law 856 = some (.iadd, 1, 0, 0, 0, []) := rfl
theorem el_857 : pm_at_pc pd_law 857 = some (.iaload, 1, 0, 0, 0, []) := rfl
theorem el_858 : pm_at_pc pd_law 858 = some (.aload_n 0, 1, 0, 0, 0, []) := rfl
theorem el_859 : pm_at_pc pd_law 859 = some (.iload_n 3, 1, 0, 0, 0, []) := rfl
theorem el_860 : pm_at_pc pd_law 860 = some (.iconst 2, 1, 0, 0, 0, []) := rfl
theorem el_861 : pm_at_pc pd_law 861 = some (.iadd, 1, 0, 0, 0, []) := rfl
theorem el_862 : pm_at_pc pd_law 862 = some (.iaload, 1, 0, 0, 0, []) := rfl
theorem el_863 : pm_at_pc pd_law 863 = some (.invokevirtual 109, 3, 243, 0, 0, [(16, 13)]) := rfl
theorem el_866 : pm_at_pc pd_law 866 = some (.pop2, 1, 0, 0, 0, []) := rfl
theorem el_867 : pm_at_pc pd_law 867 = some (.goto 134, 3, 1001, 0, 0, []) := rfl
theorem el_870 : pm_at_pc pd_law 870 = some (.aload_n 1, 1, 0, 0, 0, []) := rfl
theorem el_871 : pm_at_pc pd_law 871 = some (.aload_n 0, 1, 0, 0, 0, []) := rfl
theorem el_872 : pm_at_pc pd_law 872 = some (.iload_n 3, 1, 0, 0, 0, []) := rfl
theorem el_873 : pm_at_pc pd_law 873 = some (.iconst 1, 1, 0, 0, 0, []) := rfl
theorem el_874 : pm_at_pc pd_law 874 = some (.iadd, 1, 0, 0, 0, []) := rfl
theorem el_875 : pm_at_pc pd_law 875 = some (.iaload, 1, 0, 0, 0, []) := rfl
theorem el_876 : pm_at_pc pd_law 876 = some (.invokevirtual 110, 3, 125, 0, 0, [(16, 14)]) := rfl
theorem el_879 : pm_at_pc pd_law 879 = some (.pop2, 1, 0, 0, 0, []) := rfl
theorem el_880 : pm_at_pc pd_law 880 = some (.aload_n 2, 1, 0, 0, 0, []) := rfl
theorem el_881 : pm_at_pc pd_law 881 = some (.aload_n 0, 1, 0, 0, 0, []) := rfl
theorem el_882 : pm_at_pc pd_law 882 = some (.iload_n 3, 1, 0, 0, 0, []) := rfl
theorem el_883 : pm_at_pc pd_law 883 = some (.iconst 1, 1, 0, 0, 0, []) := rfl
theorem el_884 : pm_at_pc pd_law 884 = some (.iadd, 1, 0, 0, 0, []) := rfl
theorem el_885 : pm_at_pc pd_law 885 = some (.iaload, 1, 0, 0, 0, []) := rfl
theorem el_886 : pm_at_pc pd_law 886 = some (.invokevirtual 113, 3, 244, 0, 0, [(16, 15)]) := rfl
theorem el_889 : pm_at_pc pd_law 889 = some (.pop2, 1, 0, 0, 0, []) := rfl
theorem el_890 : pm_at_pc pd_law 890 = some (.goto 111, 3, 1001, 0, 0, []) := rfl
theorem el_893 : pm_at_pc pd_law 893 = some (.aload_n 1, 1, 0, 0, 0, []) := rfl
theorem el_894 : pm_at_pc pd_law 894 = some (.invokevirtual 114, 3, 127, 0, 0, [(17, 0)]) := rfl
theorem el_897 : pm_at_pc pd_law 897 = some (.pop, 1, 0, 0, 0, []) := rfl
theorem el_898 : pm_at_pc pd_law 898 = some (.aload_n 2, 1, 0, 0, 0, []) := rfl
theorem el_899 : pm_at_pc pd_law 899 = some (.invokevirtual 118, 3, 246, 0, 0, [(17, 1)]) := rfl
theorem el_902 : pm_at_pc pd_law 902 = some (.pop, 1, 0, 0, 0, []) := rfl
theorem el_903 : pm_at_pc pd_law 903 = some (.goto 98, 3, 1001, 0, 0, []) := rfl
theorem el_906 : pm_at_pc pd_law 906 = some (.aload_n 1, 1, 0, 0, 0, []) := rfl
theorem el_907 : pm_at_pc pd_law 907 = some (.invokevirtual 119, 3, 128, 0, 0, [(17, 2)]) := rfl
theorem el_910 : pm_at_pc pd_law 910 = some (.pop, 1, 0, 0, 0, []) := rfl
theorem el_911 : pm_at_pc pd_law 911 = some (.aload_n 2, 1, 0, 0, 0, []) := rfl
theorem el_912 : pm_at_pc pd_law 912 = some (.invokevirtual 122, 3, 247, 0, 0, [(17, 3)]) := rfl
theorem el_915 : pm_at_pc pd_law 915 = some (.pop, 1, 0, 0, 0, []) := rfl
theorem el_916 : pm_at_pc pd_law 916 = some (.goto 85, 3, 1001, 0, 0, []) := rfl
theorem el_919 : pm_at_pc pd_law 919 = some (.aload_n 1, 1, 0, 0, 0, []) := rfl
theorem el_920 : pm_at_pc pd_law 920 = some (.invokevirtual 123, 3, 129, 0, 0, [(17, 4)]) := rfl
theorem el_923 : pm_at_pc pd_law 923 = some (.pop, 1, 0, 0, 0, []) := rfl
theorem el_924 : pm_at_pc pd_law 924 = some (.aload_n 2, 1, 0, 0, 0, []) := rfl
theorem el_925 : pm_at_pc pd_law 925 = some (.invokevirtual 126, 3, 253, 0, 0, [(17, 5)]) := rfl
theorem el_928 : pm_at_pc pd_law 928 = some (.pop, 1, 0, 0, 0, []) := rfl
theorem el_929 : pm_at_pc pd_law 929 = some (.goto 72, 3, 1001, 0, 0, []) := rfl
theorem el_932 : pm_at_pc pd_law 932 = some (.aload_n 1, 1, 0, 0, 0, []) := rfl
theorem el_933 : pm_at_pc pd_law 933 = some (.aload_n 0, 1, 0, 0, 0, []) := rfl
theorem el_934 : pm_at_pc pd_law 934 = some (.iload_n 3, 1, 0, 0, 0, []) := rfl
theorem el_935 : pm_at_pc pd_law 935 = some (.iconst 1, 1, 0, 0, 0, []) := rfl
theorem el_936 : pm_at_pc pd_law 936 = some (.iadd, 1, 0, 0, 0, []) := rfl
theorem el_937 : pm_at_pc pd_law 937 = some (.iaload, 1, 0, 0, 0, []) := rfl
theorem el_938 : pm_at_pc pd_law 938 = some (.invokevirtual 127, 3, 130, 0, 0, [(17, 6)]) := rfl
theorem el_941 : pm_at_pc pd_law 941 = some (.pop2, 1, 0, 0, 0, []) := rfl
theorem el_942 : pm_at_pc pd_law 942 = some (.aload_n 2, 1, 0, 0, 0, []) := rfl
theorem el_943 : pm_at_pc pd_law 943 = some (.aload_n 0, 1, 0, 0, 0, []) := rfl
theorem el_944 : pm_at_pc pd_law 944 = some (.iload_n 3, 1, 0, 0, 0, []) := rfl
theorem el_945 : pm_at_pc pd_law 945 = some (.iconst 1, 1, 0, 0, 0, []) := rfl
theorem el_946 : pm_at_pc pd_law 946 = some (.iadd, 1, 0, 0, 0, []) := rfl
theorem el_947 : pm_at_pc pd_law 947 = some (.iaload, 1, 0, 0, 0, []) := rfl
theorem el_948 : pm_at_pc pd_law 948 = some (.invokevirtual 130, 3, 255, 0, 0, [(17, 7)]) := rfl
theorem el_951 : pm_at_pc pd_law 951 = some (.pop2, 1, 0, 0, 0, []) := rfl
theorem el_952 : pm_at_pc pd_law 952 = some (.goto 49, 3, 1001, 0, 0, []) := rfl
theorem el_955 : pm_at_pc pd_law 955 = some (.aload_n 1, 1, 0, 0, 0, []) := rfl
theorem el_956 : pm_at_pc pd_law 956 = some (.aload_n 0, 1, 0, 0, 0, []) := rfl
theorem el_957 : pm_at_pc pd_law 957 = some (.iload_n 3, 1, 0, 0, 0, []) := rfl
theorem el_958 : pm_at_pc pd_law 958 = some (.iconst 1, 1, 0, 0, 0, []) := rfl
theorem el_959 : pm_at_pc pd_law 959 = some (.iadd, 1, 0, 0, 0, []) := rfl
theorem el_960 : pm_at_pc pd_law 960 = some (.iaload, 1, 0, 0, 0, []) := rfl
theorem el_961 : pm_at_pc pd_law 961 = some (.invokevirtual 131, 3, 131, 0, 0, [(17, 8)]) := rfl
theorem el_964 : pm_at_pc pd_law 964 = some (.pop2, 1, 0, 0, 0, []) := rfl
theorem el_965 : pm_at_pc pd_law 965 = some (.aload_n 2, 1, 0, 0, 0, []) := rfl
theorem el_966 : pm_at_pc pd_law 966 = some (.aload_n 0, 1, 0, 0, 0, []) := rfl
theorem el_967 : pm_at_pc pd_law 967 = some (.iload_n 3, 1, 0, 0, 0, []) := rfl
theorem el_968 : pm_at_pc pd_law 968 = some (.iconst 1, 1, 0, 0, 0, []) := rfl
theorem el_969 : pm_at_pc pd_law 969 = some (.iadd, 1, 0, 0, 0, []) := rfl
theorem el_970 : pm_at_pc pd_law 970 = some (.iaload, 1, 0, 0, 0, []) := rfl
theorem el_971 : pm_at_pc pd_law 971 = some (.invokevirtual 134, 3, 256, 0, 0, [(17, 9)]) := rfl
theorem el_974 : pm_at_pc pd_law 974 = some (.pop2, 1, 0, 0, 0, []) := rfl
theorem el_975 : pm_at_pc pd_law 975 = some (.goto 26, 3, 1001, 0, 0, []) := rfl
theorem el_978 : pm_at_pc pd_law 978 = some (.aload_n 1, 1, 0, 0, 0, []) := rfl
theorem el_979 : pm_at_pc pd_law 979 = some (.aload_n 0, 1, 0, 0, 0, []) := rfl
theorem el_980 : pm_at_pc pd_law 980 = some (.iload_n 3, 1, 0, 0, 0, []) := rfl
theorem el_981 : pm_at_pc pd_law 981 = some (.iconst 1, 1, 0, 0, 0, []) := rfl
theorem el_982 : pm_at_pc pd_law 982 = some (.iadd, 1, 0, 0, 0, []) := rfl
theorem el_983 : pm_at_pc pd_law 983 = some (.iaload, 1, 0, 0, 0, []) := rfl
theorem el_984 : pm_at_pc pd_law 984 = some (.invokevirtual 135, 3, 132, 0, 0, [(17, 10)]) := rfl
theorem el_987 : pm_at_pc pd_law 987 = some (.aload_n 2, 1, 0, 0, 0, []) := rfl
theorem el_988 : pm_at_pc pd_law 988 = some (.aload_n 0, 1, 0, 0, 0, []) := rfl
theorem el_989 : pm_at_pc pd_law 989 = some (.iload_n 3, 1, 0, 0, 0, []) := rfl
theorem el_990 : pm_at_pc pd_law 990 = some (.iconst 1, 1, 0, 0, 0, []) := rfl
theorem el_991 : pm_at_pc pd_law 991 = some (.iadd, 1, 0, 0, 0, []) := rfl
theorem el_992 : pm_at_pc pd_law 992 = some (.iaload, 1, 0, 0, 0, []) := rfl
theorem el_993 : pm_at_pc pd_law 993 = some (.invokevirtual 138, 3, 257, 0, 0, [(17, 11)]) := rfl
theorem el_996 : pm_at_pc pd_law 996 = some (.if_icmp .eq 5, 3, 1001, 0, 0, []) := rfl
theorem el_999 : pm_at_pc pd_law 999 = some (.iconst 0, 1, 0, 0, 0, []) := rfl
theorem el_1000 : pm_at_pc pd_law 1000 = some (.ireturn, 1, 0, 0, 0, []) := rfl
theorem el_1001 : pm_at_pc pd_law 1001 = some (.iinc 3 6, 3, 0, 0, 0, []) := rfl
theorem el_1004 : pm_at_pc pd_law 1004 = some (.goto (-986), 3, 18, 0, 0, []) := rfl
theorem el_1007 : pm_at_pc pd_law 1007 = some (.iconst 1, 1, 0, 0, 0, []) := rfl
theorem el_1008 : pm_at_pc pd_law 1008 = some (.ireturn, 1, 0, 0, 0, []) := rfl
theorem lm_101 : pm_ms 101 = some (yX10_init, cX10_init, 1, none, 0, 10) := rfl
theorem lm_102 : pm_ms 102 = some (yX10_feed, cX10_feed, 6, (some .int), 5, 10) := rfl
theorem lm_104 : pm_ms 104 = some (yX10_end, cX10_end, 2, (some .int), 1, 10) := rfl
theorem lm_105 : pm_ms 105 = some (yX10_ground, cX10_ground, 4, (some .int), 0, 10) := rfl
theorem lm_106 : pm_ms 106 = some (yX10_fault, cX10_fault, 2, (some .int), 1, 10) := rfl
theorem lm_107 : pm_ms 107 = some (yX10_point, cX10_point, 3, (some .int), 2, 10) := rfl
theorem lm_108 : pm_ms 108 = some (yX10_number, cX10_number, 4, (some .long), 2, 10) := rfl
theorem lm_109 : pm_ms 109 = some (yX10_loops, cX10_loops, 4, (some .int), 2, 10) := rfl
theorem lm_110 : pm_ms 110 = some (yX10_traced, cX10_traced, 4, (some .int), 2, 10) := rfl
theorem lm_111 : pm_ms 111 = some (yX10_flips, cX10_flips, 3, (some .int), 1, 10) := rfl
theorem lm_112 : pm_ms 112 = some (yX10_flip, cX10_flip, 4, (some .int), 2, 10) := rfl
theorem lm_113 : pm_ms 113 = some (yX10_cross, cX10_cross, 4, (some .long), 2, 10) := rfl
theorem lm_114 : pm_ms 114 = some (yX10_across, cX10_across, 5, (some .int), 2, 10) := rfl
theorem lm_115 : pm_ms 115 = some (yX10_kept, cX10_kept, 4, (some .int), 1, 10) := rfl
theorem lm_116 : pm_ms 116 = some (yX10_alike, cX10_alike, 6, (some .int), 2, 10) := rfl
theorem lm_117 : pm_ms 117 = some (yX10_order, cX10_order, 5, (some .int), 1, 10) := rfl
theorem lm_118 : pm_ms 118 = some (yX10_stretch, cX10_stretch, 6, (some .long), 3, 10) := rfl
theorem lm_119 : pm_ms 119 = some (yX10_table, cX10_table, 5, (some .int), 4, 10) := rfl
theorem lm_120 : pm_ms 120 = some (yX10_polynomial, cX10_polynomial, 4, (some .int), 3, 10) := rfl
theorem lm_121 : pm_ms 121 = some (yX10_least, cX10_least, 4, (some .int), 2, 10) := rfl
theorem lm_122 : pm_ms 122 = some (yX10_lies, cX10_lies, 2, (some .int), 1, 10) := rfl
theorem lm_123 : pm_ms 123 = some (yX10_lay, cX10_lay, 2, (some .long), 1, 10) := rfl
theorem lm_124 : pm_ms 124 = some (yX10_twist, cX10_twist, 3, (some .long), 2, 10) := rfl
theorem lm_125 : pm_ms 125 = some (yX10_go, cX10_go, 2, (some .long), 1, 10) := rfl
theorem lm_127 : pm_ms 127 = some (yX10_undo, cX10_undo, 1, (some .boolean), 0, 10) := rfl
theorem lm_128 : pm_ms 128 = some (yX10_redo, cX10_redo, 1, (some .boolean), 0, 10) := rfl
theorem lm_129 : pm_ms 129 = some (yX10_sketch, cX10_sketch, 2, (some .int), 0, 10) := rfl
theorem lm_130 : pm_ms 130 = some (yX10_image, cX10_image, 2, (some .long), 1, 10) := rfl
theorem lm_131 : pm_ms 131 = some (yX10_back, cX10_back, 2, (some .long), 1, 10) := rfl
theorem lm_132 : pm_ms 132 = some (yX10_about, cX10_about, 2, (some .int), 1, 10) := rfl
theorem lm_145 : pm_ms 145 = some (yX11_init, cX11_init, 1, none, 0, 11) := rfl
theorem lm_146 : pm_ms 146 = some (yX11_feed, cX11_feed, 6, (some .int), 5, 11) := rfl
theorem lm_148 : pm_ms 148 = some (yX11_end, cX11_end, 2, (some .int), 1, 11) := rfl
theorem lm_171 : pm_ms 171 = some (yX11_ground, cX11_ground, 2, (some .int), 0, 11) := rfl
theorem lm_172 : pm_ms 172 = some (yX11_fault, cX11_fault, 2, (some .int), 1, 11) := rfl
theorem lm_179 : pm_ms 179 = some (yX11_point, cX11_point, 3, (some .int), 2, 11) := rfl
theorem lm_191 : pm_ms 191 = some (yX11_number, cX11_number, 3, (some .long), 2, 11) := rfl
theorem lm_192 : pm_ms 192 = some (yX11_loops, cX11_loops, 3, (some .int), 2, 11) := rfl
theorem lm_194 : pm_ms 194 = some (yX11_traced, cX11_traced, 3, (some .int), 2, 11) := rfl
theorem lm_202 : pm_ms 202 = some (yX11_flips, cX11_flips, 2, (some .int), 1, 11) := rfl
theorem lm_203 : pm_ms 203 = some (yX11_flip, cX11_flip, 3, (some .int), 2, 11) := rfl
theorem lm_215 : pm_ms 215 = some (yX11_cross, cX11_cross, 11, (some .long), 2, 11) := rfl
theorem lm_217 : pm_ms 217 = some (yX11_across, cX11_across, 5, (some .int), 2, 11) := rfl
theorem lm_220 : pm_ms 220 = some (yX11_kept, cX11_kept, 4, (some .int), 1, 11) := rfl
theorem lm_221 : pm_ms 221 = some (yX11_alike, cX11_alike, 6, (some .int), 2, 11) := rfl
theorem lm_223 : pm_ms 223 = some (yX11_order, cX11_order, 6, (some .int), 1, 11) := rfl
theorem lm_224 : pm_ms 224 = some (yX11_stretch, cX11_stretch, 7, (some .long), 3, 11) := rfl
theorem lm_226 : pm_ms 226 = some (yX11_table, cX11_table, 5, (some .int), 4, 11) := rfl
theorem lm_230 : pm_ms 230 = some (yX11_polynomial, cX11_polynomial, 4, (some .int), 3, 11) := rfl
theorem lm_235 : pm_ms 235 = some (yX11_least, cX11_least, 6, (some .int), 2, 11) := rfl
theorem lm_238 : pm_ms 238 = some (yX11_lies, cX11_lies, 2, (some .int), 1, 11) := rfl
theorem lm_242 : pm_ms 242 = some (yX11_lay, cX11_lay, 2, (some .long), 1, 11) := rfl
theorem lm_243 : pm_ms 243 = some (yX11_twist, cX11_twist, 3, (some .long), 2, 11) := rfl
theorem lm_244 : pm_ms 244 = some (yX11_go, cX11_go, 2, (some .long), 1, 11) := rfl
theorem lm_246 : pm_ms 246 = some (yX11_undo, cX11_undo, 1, (some .boolean), 0, 11) := rfl
theorem lm_247 : pm_ms 247 = some (yX11_redo, cX11_redo, 1, (some .boolean), 0, 11) := rfl
theorem lm_253 : pm_ms 253 = some (yX11_sketch, cX11_sketch, 2, (some .int), 0, 11) := rfl
theorem lm_255 : pm_ms 255 = some (yX11_image, cX11_image, 3, (some .long), 1, 11) := rfl
theorem lm_256 : pm_ms 256 = some (yX11_back, cX11_back, 3, (some .long), 1, 11) := rfl
theorem lm_257 : pm_ms 257 = some (yX11_about, cX11_about, 2, (some .int), 1, 11) := rfl
/-- more fuel, the same answer -/
theorem pm_inv_m {call call' : pm_C} (hc : ∀ k as h r, call k as h = some r → call' k as h = some r) {i : Instr} {k na ci : Nat} {st : List Value} {h : pm_H} {x : List Value × pm_H} (q : pm_inv call i k na ci st h = some x) : pm_inv call' i k na ci st h = some x := by
  cases i <;> simp only [pm_inv] at q ⊢ <;> try exact pm_no q
  case invokestatic =>
    split at q
    · rename_i e1
      split at q
      · rename_i e2 ec
        rw [e2, hc _ _ _ _ ec]; exact q
      · cases q
    · cases q
  case invokevirtual =>
    split at q
    · rename_i e1
      split at q
      · rename_i e2 e3 ec
        rw [e2, e3, hc _ _ _ _ ec]; exact q
      · cases q
    · cases q
  case invokespecial =>
    split at q
    · exact q
    · split at q
      · rename_i e1
        split at q
        · rename_i e2 ec
          rw [e2, hc _ _ _ _ ec]; exact q
        · cases q
      · cases q
theorem pm_step_m {cs : Nat → List Value} {ms : Nat → Option pm_M} {call call' : pm_C} (hc : ∀ k as h r, call k as h = some r → call' k as h = some r) {scr : pm_S} {nL : Nat} {rt : Option FieldType} {q : pm_I} {F : pm_F} {x : pm_F ⊕ pm_R} (s : pm_step cs ms call scr nL rt q F = some x) : pm_step cs ms call' scr nL rt q F = some x := by
  obtain ⟨i, n, r1, r2, cst, hh⟩ := q
  obtain ⟨pc, lv, st, h⟩ := F
  simp only [pm_step] at s ⊢
  generalize hg : pm_grp i = g at s ⊢
  rcases g with _ | _ | _ | _ | _ | _ | g
  · exact s
  · exact s
  · exact s
  · exact s
  · exact s
  · have s : pm_o4 (pc + 3) lv (pm_inv call i r1 (pm_na ms r1).1 (pm_na ms r1).2 st h) = some x := s
    obtain ⟨st', h', q1, rfl⟩ := pm_o4_s s
    show pm_o4 (pc + 3) lv (pm_inv call' i r1 (pm_na ms r1).1 (pm_na ms r1).2 st h) = _
    rw [pm_inv_m hc q1]
    rfl
  · exact s
theorem pm_run_m {step step' : pm_I → pm_F → pm_O} (hs : ∀ q F x, step q F = some x → step' q F = some x) {ins : Nat → Option pm_I} : ∀ (n : Nat) (F : pm_F) (r : pm_R), pm_run step ins n F = some r → ∀ k, pm_run step' ins (n + k) F = some r := by
  intro n
  induction n with
  | zero => intro F r q; cases q
  | succ n ih =>
    intro F r q k
    rw [show n + 1 + k = n + k + 1 by omega, pm_run_succ]
    rw [pm_run_succ] at q
    split at q
    · cases q
    · rename_i qi ei
      split at q
      · cases q
      · rename_i F' es
        rw [hs _ _ _ es]
        exact ih _ _ q k
      · rename_i r' es
        rw [hs _ _ _ es]
        exact q
theorem pm_call_m {cs : Nat → List Value} {ms : Nat → Option pm_M} {ins : Nat → Nat → Option pm_I} {f f' : Nat} (hf : f ≤ f') : ∀ (d k : Nat) (as : List Value) (h : pm_H) (r : pm_R), pm_call cs ms ins f d k as h = some r → pm_call cs ms ins f' d k as h = some r := by
  intro d
  induction d with
  | zero => intro k as h r q; cases q
  | succ d ih =>
    intro k as h r q
    rw [pm_call_succ] at q ⊢
    split at q
    · rename_i e1
      split at q
      · rename_i e2
        have k9 := pm_run_m (fun q F x s => pm_step_m ih s) _ _ _ q (f' - f)
        rw [show f + (f' - f) = f' by omega] at k9
        exact k9
      · cases q
    · cases q
noncomputable abbrev lS2 (f L : Nat) (xs : Nat → Int32) : pm_I → pm_F → pm_O := pm_step2 pm_cs pm_ms (pm_call pm_cs pm_ms pm_ins f 9) (some (L, xs)) 4 (some .boolean)
/-- from the frame F the law ends, with Q -/
def wl_ (L : Nat) (xs : Nat → Int32) (F : pm_F) (Q : pm_R → Prop) : Prop := ∃ (n g : Nat) (r : pm_R), (∀ f, g ≤ f → ∀ u, pm_run (lS2 f L xs) (pm_at_pc pd_law) (u + n) F = some r) ∧ Q r
section WL
variable {L : Nat} {xs : Nat → Int32} {Q : pm_R → Prop}
theorem wl_s {F F' : pm_F} {q : pm_I} (h1 : pm_at_pc pd_law F.1 = some q) (h2 : ∀ call, pm_step2 pm_cs pm_ms call (some (L, xs)) 4 (some .boolean) q F = some (.inl F')) (w : wl_ L xs F' Q) : wl_ L xs F Q := by
  obtain ⟨n, g, r, h3, h4⟩ := w
  exact ⟨n + 1, g, r, fun f hf u => pm_r h1 (h2 _) (h3 f hf u), h4⟩
theorem wl_i {F F' : pm_F} {q : pm_I} (h1 : pm_at_pc pd_law F.1 = some q) (h2 : ∀ f, 10000 ≤ f → lS2 f L xs q F = some (.inl F')) (w : wl_ L xs F' Q) : wl_ L xs F Q := by
  obtain ⟨n, g, r, h3, h4⟩ := w
  exact ⟨n + 1, max g 10000, r, fun f hf u => pm_r h1 (h2 f (by omega)) (h3 f (by omega) u), h4⟩
theorem wl_e {F : pm_F} {q : pm_I} {r : pm_R} (h1 : pm_at_pc pd_law F.1 = some q) (h2 : ∀ call, pm_step2 pm_cs pm_ms call (some (L, xs)) 4 (some .boolean) q F = some (.inr r)) (hq : Q r) : wl_ L xs F Q := ⟨1, 0, r, fun f _ u => pm_rE h1 (h2 _), hq⟩
theorem wl_v {pc len k' r2 x na ci a nl : Nat} {cst : Int} {hs : List (Nat × Nat)} {lv : pm_L} {st r as : List Value} {h : pm_H} {y : MethodName} {bs : ByteArray} {rt' : Option FieldType} {Qc : pm_R → Prop} (h1 : pm_at_pc pd_law pc = some (.invokevirtual x, len, k', r2, cst, hs)) (hm : pm_ms k' = some (y, bs, nl, rt', na, ci)) (hp : pm_pop_n na [] st = some (as, .ref a :: r)) (hw : Nat.ble (pm_wt r) 8 = true) (ho : pm_clsOk ci (pm_cell h a) = true) (hc : wc 9 k' (.ref a :: as) h Qc)
    (w : ∀ v h', Qc (v, h') → wl_ L xs (pc + 3, lv, v.toList ++ r, h') Q) : wl_ L xs (pc, lv, st, h) Q := by
  obtain ⟨f1, ⟨v, h'⟩, c1, c2⟩ := hc
  obtain ⟨n, g, r', h3, h4⟩ := w v h' c2
  refine ⟨n + 1, max g f1, r', fun f hf u => ?_, h4⟩
  exact pm_r h1 ((pm_step2_ne (by intro q; cases q)).trans (pm_sV hm hp hw ho (c1 f (by omega)))) (h3 f (by omega) u)
theorem wl_br {pc len t r2 : Nat} {cst : Int} {hs : List (Nat × Nat)} {i : Instr} {lv : pm_L} {st r : List Value} {h : pm_H} {P P' : Prop} {inst : Decidable P} (h1 : pm_at_pc pd_law pc = some (i, len, t, r2, cst, hs)) (hn : i ≠ .pop2) (hg : pm_grp i = 3) (hj : pm_jmp i pc t st = pm_if (decide P) t pc r) (he : P ↔ P') (wt : P' → wl_ L xs (t, lv, r, h) Q) (wf : ¬ P' → wl_ L xs (pc + 3, lv, r, h) Q) : wl_ L xs (pc, lv, st, h) Q := by
  by_cases hP : P
  · exact wl_s (F' := (t, lv, r, h)) h1 (fun call => (pm_step2_ne hn).trans (pm_sJ hg (hj.trans (pm_jt (decide_eq_true hP))))) (wt (he.mp hP))
  · exact wl_s (F' := (pc + 3, lv, r, h)) h1 (fun call => (pm_step2_ne hn).trans (pm_sJ hg (hj.trans (pm_jf (decide_eq_false hP))))) (wf (fun q => hP (he.mpr q)))
theorem wl_sw {pc len r1 r2 t : Nat} {cst dflt lo hi a : Int} {offs : Array Int} {hs : List (Nat × Nat)} {lv : pm_L} {r : List Value} {h : pm_H} (h1 : pm_at_pc pd_law pc = some (.tableswitch dflt lo hi offs, len, r1, r2, cst, hs)) (ha : inI a) (hj : (if a < lo ∨ hi < a then pm_sw pc dflt r else match offs[(a - lo).toNat]? with
      | some off => pm_sw pc off r
      | none => none) = some (t, r)) (w : wl_ L xs (t, lv, r, h) Q) : wl_ L xs (pc, lv, .int (Int32.ofInt a) :: r, h) Q := by
  refine wl_s (F' := (t, lv, r, h)) h1 (fun call => (pm_step2_ne (by intro q; cases q)).trans (pm_sJ rfl ?_)) w
  show (if (Int32.ofInt a).toInt < lo ∨ hi < (Int32.ofInt a).toInt then pm_sw pc dflt r else match offs[((Int32.ofInt a).toInt - lo).toNat]? with
      | some off => pm_sw pc off r
      | none => none) = some (t, r)
  rw [ofI_toInt ha]
  exact hj
abbrev lvs (i : Int) : pm_L := [(3, .int (Int32.ofInt i)), (2, .ref 225), (1, .ref 1), (0, .ref 0)]
theorem wl_x {pc n1 n2 n3 : Nat} {c3 : Int} {hs : List (Nat × Nat)} {e : Int} {lv : pm_L} {st : List Value} {h : pm_H} (h1 : pm_at_pc pd_law pc = some (.iaload, n1, n2, n3, c3, hs)) (hL : L ≤ 3072) (h0 : 0 ≤ e) (hi : e < L) (w : wl_ L xs (pc + 1, lv, .int (xs e.toNat) :: st, h) Q) : wl_ L xs (pc, lv, .int (Int32.ofInt e) :: .ref 0 :: st, h) Q := by
  refine wl_s (F' := (pc + 1, lv, .int (xs e.toNat) :: st, h)) h1 (fun _ => (pm_step2_ne (by intro q; cases q)).trans ?_) w
  have k : pm_scr (Int32.ofInt e) (some (L, xs)) = some (.int (xs e.toNat)) := by
    unfold pm_scr
    dsimp only
    rw [ofI_ix h0 hi (by omega)]
  show pm_o4 (pc + 1) lv (pm_psh h st (pm_scr (Int32.ofInt e) (some (L, xs)))) = _
  rw [k]
  rfl
theorem wl_rd {pc : Nat} {c i : Int} {st : List Value} {h : pm_H} (e0 : pm_at_pc pd_law pc = some (.aload_n 0, 1, 0, 0, 0, [])) (e1 : pm_at_pc pd_law (pc + 1) = some (.iload_n 3, 1, 0, 0, 0, [])) (e2 : pm_at_pc pd_law (pc + 1 + 1) = some (.iconst c, 1, 0, 0, 0, [])) (e3 : pm_at_pc pd_law (pc + 1 + 1 + 1) = some (.iadd, 1, 0, 0, 0, [])) (e4 : pm_at_pc pd_law (pc + 1 + 1 + 1 + 1) = some (.iaload, 1, 0, 0, 0, [])) (hL : L ≤ 3072) (h0 : 0 ≤ i + c) (hi : i + c < L) (w : wl_ L xs (pc + 1 + 1 + 1 + 1 + 1, lvs i, .int (xs (i + c).toNat) :: st, h) Q) : wl_ L xs (pc, lvs i, st, h) Q := by
  refine wl_s (F' := (pc + 1, lvs i, .ref 0 :: st, h)) e0 (fun _ => rfl) ?_
  refine wl_s (F' := (pc + 1 + 1, lvs i, .int (Int32.ofInt i) :: .ref 0 :: st, h)) e1 (fun _ => rfl) ?_
  refine wl_s (F' := (pc + 1 + 1 + 1, lvs i, .int (Int32.ofInt c) :: .int (Int32.ofInt i) :: .ref 0 :: st, h)) e2 (fun _ => rfl) ?_
  refine wl_s (F' := (pc + 1 + 1 + 1 + 1, lvs i, .int (Int32.ofInt i + Int32.ofInt c) :: .ref 0 :: st, h)) e3 (fun _ => rfl) ?_
  rw [ofI_add]
  exact wl_x e4 hL h0 hi w
end WL
def kqI (z w : mZ) (p : mP) : Prop := kqC z w p ∧ kqR z w ∧ z 1 15 = z 225 1 ∧ kqX z w p
theorem kqI_m {f : Int → Int} {S S' : mS} {z w z1 w1 z2 w2 : mZ} {p : mP} (I : z 1 15 = z 225 1) (hC : kqC z1 w1 p) (h15 : z1 1 15 = f (z 1 15)) (hs : st_ S z w z1 w1) (hl : kqlo S = true) (hR : kqR z2 w2) (h1 : z2 225 1 = f (z1 225 1)) (hs2 : st_ S' z1 w1 z2 w2) (hl2 : kqhi S' = true) (hX : kqX z2 w2 p) : kqI z2 w2 p :=
  ⟨kqC_f hs2 hl2 hC, hR, by rw [hs2.2.2.1 _ _ (hi_n hl2 (by omega)), h15, h1, hs.2.2.1 _ _ (lo_n hl (by omega)), I], hX⟩
theorem kqI_n {z w : mZ} {p : mP} (I : kqI z w p) : 0 ≤ z 225 1 := (rd_225_1 I.2.1.1).1
theorem kql_I {z z1 z2 : mZ} (a : z1 225 1 = z 225 1) (h1 : z2 225 1 = kqfI (z1 225 1)) : z2 225 1 ≤ z 225 1 := by unfold kqfI at h1; omega
theorem kql_0 {z z1 z2 : mZ} (n : 0 ≤ z 225 1) (h1 : z2 225 1 = kqf0 (z1 225 1)) : z2 225 1 ≤ z 225 1 := by unfold kqf0 at h1; omega
theorem kql_E {z z1 z2 : mZ} {e : Int} (a : z1 225 1 = z 225 1) (h1 : z2 225 1 = kqfE e (z1 225 1)) : z2 225 1 ≤ z 225 1 := by unfold kqfE at h1; split at h1 <;> omega
theorem cl_end2 {z w : mZ} {p : mP} (y1 : Int32) (h : kqC z w p) : wc 9 104 [.ref 1, .int y1] (mk z w p) (kqQ (kqfE y1.toInt) (kqgE y1.toInt) kqDK z w p) := by
  have k := cl_end y1.toInt (inI_toInt y1) h
  rw [Int32.ofInt_toInt] at k
  exact k
theorem rl_end2 {z w : mZ} {x y tx it mt tt ct : Option Nat} (y1 : Int32) (h : kqR z w) : wc 9 148 [.ref 225, .int y1] (mk z w (pq x y tx it mt tt ct)) (kqP (kqfE y1.toInt) (kqgE y1.toInt) kqDH z w (pq x y tx it mt tt ct)) := by
  have k := rl_end (x := x) (y := y) (tx := tx) (it := it) (mt := mt) (tt := tt) (ct := ct) y1.toInt (inI_toInt y1) h
  rw [Int32.ofInt_toInt] at k
  exact k
theorem lw_feed {L : Nat} {xs : Nat → Int32} {Q : pm_R → Prop} {i : Int} {z w : mZ} {p : mP} (hL : L ≤ 3072) (h0 : 0 ≤ i) (h6 : i + 6 ≤ L) (I : kqI z w p) (K : ∀ z' w' p', kqI z' w' p' → wl_ L xs (1001, lvs i, [], mk z' w' p') Q) : wl_ L xs (164, lvs i, [], mk z w p) Q := by
  refine wl_s (F' := (165, lvs i, [.ref 1], mk z w p)) el_164 (fun _ => rfl) ?_
  refine wl_rd el_165 el_166 el_167 el_168 el_169 hL (by omega) (by omega) ?_
  refine wl_rd el_170 el_171 el_172 el_173 el_174 hL (by omega) (by omega) ?_
  refine wl_rd el_175 el_176 el_177 el_178 el_179 hL (by omega) (by omega) ?_
  refine wl_rd el_180 el_181 el_182 el_183 el_184 hL (by omega) (by omega) ?_
  refine wl_rd el_185 el_186 el_187 el_188 el_189 hL (by omega) (by omega) ?_
  refine wl_v el_190 lm_102 rfl rfl (mk_cls sh_1) (cl_feed (xs (i + 1).toNat) (xs (i + 2).toNat) (xs (i + 3).toNat) (xs (i + 4).toNat) (xs (i + 5).toNat) I.1) ?_
  rintro v h1 ⟨v1, z1, w1, p1, S1, e, hv, hC, h15, hs, hl, hD⟩
  have hv : v1 = .int _ := hv
  subst hv
  cases e
  have hC2 := hC
  obtain ⟨t, u, tx, it, mt, tt, ct, -, -, -, rfl, -⟩ := hC2
  refine wl_s (F' := (194, lvs i, [], mk z1 w1 (pq (some t) (some u) tx it mt tt ct))) el_193 (fun _ => rfl) ?_
  refine wl_s (F' := (195, lvs i, [.ref 225], mk z1 w1 (pq (some t) (some u) tx it mt tt ct))) el_194 (fun _ => rfl) ?_
  refine wl_rd el_195 el_196 el_197 el_198 el_199 hL (by omega) (by omega) ?_
  refine wl_rd el_200 el_201 el_202 el_203 el_204 hL (by omega) (by omega) ?_
  refine wl_rd el_205 el_206 el_207 el_208 el_209 hL (by omega) (by omega) ?_
  refine wl_rd el_210 el_211 el_212 el_213 el_214 hL (by omega) (by omega) ?_
  refine wl_rd el_215 el_216 el_217 el_218 el_219 hL (by omega) (by omega) ?_
  refine wl_v el_220 lm_146 rfl rfl (mk_cls sh_225) (rl_feed (xs (i + 1).toNat) (xs (i + 2).toNat) (xs (i + 3).toNat) (xs (i + 4).toNat) (xs (i + 5).toNat) (kqR_f hs hl I.2.1)) ?_
  rintro v h2 ⟨v2, z2, w2, S2, e, hv, hR, h1, hs2, hl2, hD2⟩
  have ha5 : z1 225 1 = z 225 1 := hs.2.2.1 _ _ (lo_n hl (by omega))
  have hX := kqX_f I.2.2.2 I.2.2.1 (kqI_n I) hs hl hs2 hl2 hD hD2 h1
  have hv : v2 = .int _ := hv
  subst hv
  cases e
  refine wl_s (F' := (224, lvs i, [], mk z2 w2 (pq (some t) (some u) tx it mt tt ct))) el_223 (fun _ => rfl) ?_
  refine wl_s (F' := (1001, lvs i, [], mk z2 w2 (pq (some t) (some u) tx it mt tt ct))) el_224 (fun _ => rfl) ?_
  exact K _ _ _ (kqI_m I.2.2.1 hC h15 hs hl hR h1 hs2 hl2 hX)
theorem lw_end {L : Nat} {xs : Nat → Int32} {Q : pm_R → Prop} {i : Int} {z w : mZ} {p : mP} (hL : L ≤ 3072) (h0 : 0 ≤ i) (h6 : i + 6 ≤ L) (I : kqI z w p) (K : ∀ z' w' p', kqI z' w' p' → wl_ L xs (1001, lvs i, [], mk z' w' p') Q) : wl_ L xs (227, lvs i, [], mk z w p) Q := by
  refine wl_s (F' := (228, lvs i, [.ref 1], mk z w p)) el_227 (fun _ => rfl) ?_
  refine wl_rd el_228 el_229 el_230 el_231 el_232 hL (by omega) (by omega) ?_
  refine wl_v el_233 lm_104 rfl rfl (mk_cls sh_1) (cl_end2 (xs (i + 1).toNat) I.1) ?_
  rintro v h1 ⟨v1, z1, w1, p1, S1, e, hv, hC, h15, hs, hl, hD⟩
  have hv : v1 = .int _ := hv
  subst hv
  cases e
  have hC2 := hC
  obtain ⟨t, u, tx, it, mt, tt, ct, -, -, -, rfl, -⟩ := hC2
  refine wl_s (F' := (237, lvs i, [], mk z1 w1 (pq (some t) (some u) tx it mt tt ct))) el_236 (fun _ => rfl) ?_
  refine wl_s (F' := (238, lvs i, [.ref 225], mk z1 w1 (pq (some t) (some u) tx it mt tt ct))) el_237 (fun _ => rfl) ?_
  refine wl_rd el_238 el_239 el_240 el_241 el_242 hL (by omega) (by omega) ?_
  refine wl_v el_243 lm_148 rfl rfl (mk_cls sh_225) (rl_end2 (xs (i + 1).toNat) (kqR_f hs hl I.2.1)) ?_
  rintro v h2 ⟨v2, z2, w2, S2, e, hv, hR, h1, hs2, hl2, hD2⟩
  have ha5 : z1 225 1 = z 225 1 := hs.2.2.1 _ _ (lo_n hl (by omega))
  have hX := kqX_o I.2.2.2 hs hl hs2 hl2 hD hD2 (kql_E ha5 h1)
  have hv : v2 = .int _ := hv
  subst hv
  cases e
  refine wl_s (F' := (247, lvs i, [], mk z2 w2 (pq (some t) (some u) tx it mt tt ct))) el_246 (fun _ => rfl) ?_
  refine wl_s (F' := (1001, lvs i, [], mk z2 w2 (pq (some t) (some u) tx it mt tt ct))) el_247 (fun _ => rfl) ?_
  exact K _ _ _ (kqI_m I.2.2.1 hC h15 hs hl hR h1 hs2 hl2 hX)
theorem lw_ground {L : Nat} {xs : Nat → Int32} {Q : pm_R → Prop} {i : Int} {z w : mZ} {p : mP} (hL : L ≤ 3072) (h0 : 0 ≤ i) (h6 : i + 6 ≤ L) (I : kqI z w p) (K : ∀ z' w' p', kqI z' w' p' → wl_ L xs (1001, lvs i, [], mk z' w' p') Q) : wl_ L xs (250, lvs i, [], mk z w p) Q := by
  refine wl_s (F' := (251, lvs i, [.ref 1], mk z w p)) el_250 (fun _ => rfl) ?_
  refine wl_v el_251 lm_105 rfl rfl (mk_cls sh_1) (cl_ground  I.1) ?_
  rintro v h1 ⟨v1, z1, w1, p1, S1, e, ⟨x1, rfl⟩, hC, h15, hs, hl, hD⟩
  cases e
  have hC2 := hC
  obtain ⟨t, u, tx, it, mt, tt, ct, -, -, -, rfl, -⟩ := hC2
  refine wl_s (F' := (255, lvs i, [], mk z1 w1 (pq (some t) (some u) tx it mt tt ct))) el_254 (fun _ => rfl) ?_
  refine wl_s (F' := (256, lvs i, [.ref 225], mk z1 w1 (pq (some t) (some u) tx it mt tt ct))) el_255 (fun _ => rfl) ?_
  refine wl_v el_256 lm_171 rfl rfl (mk_cls sh_225) (rl_ground  (kqR_f hs hl I.2.1)) ?_
  rintro v h2 ⟨v2, z2, w2, S2, e, ⟨x2, rfl⟩, hR, h1, hs2, hl2, hD2⟩
  have ha5 : z1 225 1 = z 225 1 := hs.2.2.1 _ _ (lo_n hl (by omega))
  have hXv := kqX_g I.2.2.2 I.2.2.1 hs hl hs2 hl2 hD hD2 h1 (kqC_f hs2 hl2 hC) hR
  cases e
  refine wl_s (F' := (260, lvs i, [], mk z2 w2 (pq (some t) (some u) tx it mt tt ct))) el_259 (fun _ => rfl) ?_
  refine wl_s (F' := (1001, lvs i, [], mk z2 w2 (pq (some t) (some u) tx it mt tt ct))) el_260 (fun _ => rfl) ?_
  exact K _ _ _ (kqI_m I.2.2.1 hC h15 hs hl hR h1 hs2 hl2 hXv.1)
theorem lw_fault {L : Nat} {xs : Nat → Int32} {Q : pm_R → Prop} {i : Int} {z w : mZ} {p : mP} (hL : L ≤ 3072) (h0 : 0 ≤ i) (h6 : i + 6 ≤ L) (I : kqI z w p) (K : ∀ z' w' p', kqI z' w' p' → wl_ L xs (1001, lvs i, [], mk z' w' p') Q) : wl_ L xs (263, lvs i, [], mk z w p) Q := by
  refine wl_s (F' := (264, lvs i, [.ref 1], mk z w p)) el_263 (fun _ => rfl) ?_
  refine wl_rd el_264 el_265 el_266 el_267 el_268 hL (by omega) (by omega) ?_
  refine wl_v el_269 lm_106 rfl rfl (mk_cls sh_1) (cl_fault (xs (i + 1).toNat) I.1) ?_
  rintro v h1 ⟨v1, z1, w1, p1, S1, e, ⟨x1, rfl⟩, hC, h15, hs, hl, hD⟩
  cases e
  have hC2 := hC
  obtain ⟨t, u, tx, it, mt, tt, ct, -, -, -, rfl, -⟩ := hC2
  refine wl_s (F' := (273, lvs i, [], mk z1 w1 (pq (some t) (some u) tx it mt tt ct))) el_272 (fun _ => rfl) ?_
  refine wl_s (F' := (274, lvs i, [.ref 225], mk z1 w1 (pq (some t) (some u) tx it mt tt ct))) el_273 (fun _ => rfl) ?_
  refine wl_rd el_274 el_275 el_276 el_277 el_278 hL (by omega) (by omega) ?_
  refine wl_v el_279 lm_172 rfl rfl (mk_cls sh_225) (rl_fault (xs (i + 1).toNat) (kqR_f hs hl I.2.1)) ?_
  rintro v h2 ⟨v2, z2, w2, S2, e, ⟨x2, rfl⟩, hR, h1, hs2, hl2, hD2⟩
  have ha5 : z1 225 1 = z 225 1 := hs.2.2.1 _ _ (lo_n hl (by omega))
  have hX := kqX_o I.2.2.2 hs hl hs2 hl2 hD.2 hD2.2 (kql_I ha5 h1)
  cases e
  refine wl_s (F' := (283, lvs i, [], mk z2 w2 (pq (some t) (some u) tx it mt tt ct))) el_282 (fun _ => rfl) ?_
  refine wl_s (F' := (1001, lvs i, [], mk z2 w2 (pq (some t) (some u) tx it mt tt ct))) el_283 (fun _ => rfl) ?_
  exact K _ _ _ (kqI_m I.2.2.1 hC h15 hs hl hR h1 hs2 hl2 hX)
theorem lw_point {L : Nat} {xs : Nat → Int32} {Q : pm_R → Prop} {i : Int} {z w : mZ} {p : mP} (hL : L ≤ 3072) (h0 : 0 ≤ i) (h6 : i + 6 ≤ L) (I : kqI z w p) (K : ∀ z' w' p', kqI z' w' p' → wl_ L xs (1001, lvs i, [], mk z' w' p') Q) : wl_ L xs (286, lvs i, [], mk z w p) Q := by
  refine wl_s (F' := (287, lvs i, [.ref 1], mk z w p)) el_286 (fun _ => rfl) ?_
  refine wl_rd el_287 el_288 el_289 el_290 el_291 hL (by omega) (by omega) ?_
  refine wl_rd el_292 el_293 el_294 el_295 el_296 hL (by omega) (by omega) ?_
  refine wl_v el_297 lm_107 rfl rfl (mk_cls sh_1) (cl_point (xs (i + 1).toNat) (xs (i + 2).toNat) I.1) ?_
  rintro v h1 ⟨v1, z1, w1, p1, S1, e, ⟨x1, rfl⟩, hC, h15, hs, hl, hD⟩
  cases e
  have hC2 := hC
  obtain ⟨t, u, tx, it, mt, tt, ct, -, -, -, rfl, -⟩ := hC2
  refine wl_s (F' := (301, lvs i, [], mk z1 w1 (pq (some t) (some u) tx it mt tt ct))) el_300 (fun _ => rfl) ?_
  refine wl_s (F' := (302, lvs i, [.ref 225], mk z1 w1 (pq (some t) (some u) tx it mt tt ct))) el_301 (fun _ => rfl) ?_
  refine wl_rd el_302 el_303 el_304 el_305 el_306 hL (by omega) (by omega) ?_
  refine wl_rd el_307 el_308 el_309 el_310 el_311 hL (by omega) (by omega) ?_
  refine wl_v el_312 lm_179 rfl rfl (mk_cls sh_225) (rl_point (xs (i + 1).toNat) (xs (i + 2).toNat) (kqR_f hs hl I.2.1)) ?_
  rintro v h2 ⟨v2, z2, w2, S2, e, ⟨x2, rfl⟩, hR, h1, hs2, hl2, hD2⟩
  have ha5 : z1 225 1 = z 225 1 := hs.2.2.1 _ _ (lo_n hl (by omega))
  have hX := kqX_o I.2.2.2 hs hl hs2 hl2 hD hD2 (kql_I ha5 h1)
  cases e
  refine wl_s (F' := (316, lvs i, [], mk z2 w2 (pq (some t) (some u) tx it mt tt ct))) el_315 (fun _ => rfl) ?_
  refine wl_s (F' := (1001, lvs i, [], mk z2 w2 (pq (some t) (some u) tx it mt tt ct))) el_316 (fun _ => rfl) ?_
  exact K _ _ _ (kqI_m I.2.2.1 hC h15 hs hl hR h1 hs2 hl2 hX)
theorem lw_number {L : Nat} {xs : Nat → Int32} {Q : pm_R → Prop} {i : Int} {z w : mZ} {p : mP} (hL : L ≤ 3072) (h0 : 0 ≤ i) (h6 : i + 6 ≤ L) (I : kqI z w p) (K : ∀ z' w' p', kqI z' w' p' → wl_ L xs (1001, lvs i, [], mk z' w' p') Q) : wl_ L xs (319, lvs i, [], mk z w p) Q := by
  refine wl_s (F' := (320, lvs i, [.ref 1], mk z w p)) el_319 (fun _ => rfl) ?_
  refine wl_rd el_320 el_321 el_322 el_323 el_324 hL (by omega) (by omega) ?_
  refine wl_rd el_325 el_326 el_327 el_328 el_329 hL (by omega) (by omega) ?_
  refine wl_v el_330 lm_108 rfl rfl (mk_cls sh_1) (cl_number (xs (i + 1).toNat) (xs (i + 2).toNat) I.1) ?_
  rintro v h1 ⟨v1, z1, w1, p1, S1, e, ⟨x1, rfl⟩, hC, h15, hs, hl, hD⟩
  cases e
  have hC2 := hC
  obtain ⟨t, u, tx, it, mt, tt, ct, -, -, -, rfl, -⟩ := hC2
  refine wl_s (F' := (334, lvs i, [], mk z1 w1 (pq (some t) (some u) tx it mt tt ct))) el_333 (fun _ => rfl) ?_
  refine wl_s (F' := (335, lvs i, [.ref 225], mk z1 w1 (pq (some t) (some u) tx it mt tt ct))) el_334 (fun _ => rfl) ?_
  refine wl_rd el_335 el_336 el_337 el_338 el_339 hL (by omega) (by omega) ?_
  refine wl_rd el_340 el_341 el_342 el_343 el_344 hL (by omega) (by omega) ?_
  refine wl_v el_345 lm_191 rfl rfl (mk_cls sh_225) (rl_number (xs (i + 1).toNat) (xs (i + 2).toNat) (kqR_f hs hl I.2.1)) ?_
  rintro v h2 ⟨v2, z2, w2, S2, e, ⟨x2, rfl⟩, hR, h1, hs2, hl2, hD2⟩
  have ha5 : z1 225 1 = z 225 1 := hs.2.2.1 _ _ (lo_n hl (by omega))
  have hX := kqX_o I.2.2.2 hs hl hs2 hl2 hD hD2 (kql_I ha5 h1)
  cases e
  refine wl_s (F' := (349, lvs i, [], mk z2 w2 (pq (some t) (some u) tx it mt tt ct))) el_348 (fun _ => rfl) ?_
  refine wl_s (F' := (1001, lvs i, [], mk z2 w2 (pq (some t) (some u) tx it mt tt ct))) el_349 (fun _ => rfl) ?_
  exact K _ _ _ (kqI_m I.2.2.1 hC h15 hs hl hR h1 hs2 hl2 hX)
theorem lw_loops {L : Nat} {xs : Nat → Int32} {Q : pm_R → Prop} {i : Int} {z w : mZ} {p : mP} (hL : L ≤ 3072) (h0 : 0 ≤ i) (h6 : i + 6 ≤ L) (I : kqI z w p) (K : ∀ z' w' p', kqI z' w' p' → wl_ L xs (1001, lvs i, [], mk z' w' p') Q) : wl_ L xs (352, lvs i, [], mk z w p) Q := by
  refine wl_s (F' := (353, lvs i, [.ref 1], mk z w p)) el_352 (fun _ => rfl) ?_
  refine wl_rd el_353 el_354 el_355 el_356 el_357 hL (by omega) (by omega) ?_
  refine wl_rd el_358 el_359 el_360 el_361 el_362 hL (by omega) (by omega) ?_
  refine wl_v el_363 lm_109 rfl rfl (mk_cls sh_1) (cl_loops (xs (i + 1).toNat) (xs (i + 2).toNat) I.1) ?_
  rintro v h1 ⟨v1, z1, w1, p1, S1, e, ⟨x1, rfl⟩, hC, h15, hs, hl, hD⟩
  cases e
  have hC2 := hC
  obtain ⟨t, u, tx, it, mt, tt, ct, -, -, -, rfl, -⟩ := hC2
  refine wl_s (F' := (367, lvs i, [], mk z1 w1 (pq (some t) (some u) tx it mt tt ct))) el_366 (fun _ => rfl) ?_
  refine wl_s (F' := (368, lvs i, [.ref 225], mk z1 w1 (pq (some t) (some u) tx it mt tt ct))) el_367 (fun _ => rfl) ?_
  refine wl_rd el_368 el_369 el_370 el_371 el_372 hL (by omega) (by omega) ?_
  refine wl_rd el_373 el_374 el_375 el_376 el_377 hL (by omega) (by omega) ?_
  refine wl_v el_378 lm_192 rfl rfl (mk_cls sh_225) (rl_loops (xs (i + 1).toNat) (xs (i + 2).toNat) (kqR_f hs hl I.2.1)) ?_
  rintro v h2 ⟨v2, z2, w2, S2, e, ⟨x2, rfl⟩, hR, h1, hs2, hl2, hD2⟩
  have ha5 : z1 225 1 = z 225 1 := hs.2.2.1 _ _ (lo_n hl (by omega))
  have hX := kqX_o I.2.2.2 hs hl hs2 hl2 hD hD2 (kql_I ha5 h1)
  cases e
  refine wl_s (F' := (382, lvs i, [], mk z2 w2 (pq (some t) (some u) tx it mt tt ct))) el_381 (fun _ => rfl) ?_
  refine wl_s (F' := (1001, lvs i, [], mk z2 w2 (pq (some t) (some u) tx it mt tt ct))) el_382 (fun _ => rfl) ?_
  exact K _ _ _ (kqI_m I.2.2.1 hC h15 hs hl hR h1 hs2 hl2 hX)
theorem lw_traced {L : Nat} {xs : Nat → Int32} {Q : pm_R → Prop} {i : Int} {z w : mZ} {p : mP} (hL : L ≤ 3072) (h0 : 0 ≤ i) (h6 : i + 6 ≤ L) (I : kqI z w p) (K : ∀ z' w' p', kqI z' w' p' → wl_ L xs (1001, lvs i, [], mk z' w' p') Q) : wl_ L xs (385, lvs i, [], mk z w p) Q := by
  refine wl_s (F' := (386, lvs i, [.ref 1], mk z w p)) el_385 (fun _ => rfl) ?_
  refine wl_rd el_386 el_387 el_388 el_389 el_390 hL (by omega) (by omega) ?_
  refine wl_rd el_391 el_392 el_393 el_394 el_395 hL (by omega) (by omega) ?_
  refine wl_v el_396 lm_110 rfl rfl (mk_cls sh_1) (cl_traced (xs (i + 1).toNat) (xs (i + 2).toNat) I.1) ?_
  rintro v h1 ⟨v1, z1, w1, p1, S1, e, ⟨x1, rfl⟩, hC, h15, hs, hl, hD⟩
  cases e
  have hC2 := hC
  obtain ⟨t, u, tx, it, mt, tt, ct, -, -, -, rfl, -⟩ := hC2
  refine wl_s (F' := (400, lvs i, [], mk z1 w1 (pq (some t) (some u) tx it mt tt ct))) el_399 (fun _ => rfl) ?_
  refine wl_s (F' := (401, lvs i, [.ref 225], mk z1 w1 (pq (some t) (some u) tx it mt tt ct))) el_400 (fun _ => rfl) ?_
  refine wl_rd el_401 el_402 el_403 el_404 el_405 hL (by omega) (by omega) ?_
  refine wl_rd el_406 el_407 el_408 el_409 el_410 hL (by omega) (by omega) ?_
  refine wl_v el_411 lm_194 rfl rfl (mk_cls sh_225) (rl_traced (xs (i + 1).toNat) (xs (i + 2).toNat) (kqR_f hs hl I.2.1)) ?_
  rintro v h2 ⟨v2, z2, w2, S2, e, ⟨x2, rfl⟩, hR, h1, hs2, hl2, hD2⟩
  have ha5 : z1 225 1 = z 225 1 := hs.2.2.1 _ _ (lo_n hl (by omega))
  have hX := kqX_o I.2.2.2 hs hl hs2 hl2 hD hD2 (kql_I ha5 h1)
  cases e
  refine wl_s (F' := (415, lvs i, [], mk z2 w2 (pq (some t) (some u) tx it mt tt ct))) el_414 (fun _ => rfl) ?_
  refine wl_s (F' := (1001, lvs i, [], mk z2 w2 (pq (some t) (some u) tx it mt tt ct))) el_415 (fun _ => rfl) ?_
  exact K _ _ _ (kqI_m I.2.2.1 hC h15 hs hl hR h1 hs2 hl2 hX)
theorem lw_flips {L : Nat} {xs : Nat → Int32} {Q : pm_R → Prop} {i : Int} {z w : mZ} {p : mP} (hL : L ≤ 3072) (h0 : 0 ≤ i) (h6 : i + 6 ≤ L) (I : kqI z w p) (K : ∀ z' w' p', kqI z' w' p' → wl_ L xs (1001, lvs i, [], mk z' w' p') Q) : wl_ L xs (418, lvs i, [], mk z w p) Q := by
  refine wl_s (F' := (419, lvs i, [.ref 1], mk z w p)) el_418 (fun _ => rfl) ?_
  refine wl_rd el_419 el_420 el_421 el_422 el_423 hL (by omega) (by omega) ?_
  refine wl_v el_424 lm_111 rfl rfl (mk_cls sh_1) (cl_flips (xs (i + 1).toNat) I.1) ?_
  rintro v h1 ⟨v1, z1, w1, p1, S1, e, ⟨x1, rfl⟩, hC, h15, hs, hl, hD⟩
  cases e
  have hC2 := hC
  obtain ⟨t, u, tx, it, mt, tt, ct, -, -, -, rfl, -⟩ := hC2
  refine wl_s (F' := (428, lvs i, [], mk z1 w1 (pq (some t) (some u) tx it mt tt ct))) el_427 (fun _ => rfl) ?_
  refine wl_s (F' := (429, lvs i, [.ref 225], mk z1 w1 (pq (some t) (some u) tx it mt tt ct))) el_428 (fun _ => rfl) ?_
  refine wl_rd el_429 el_430 el_431 el_432 el_433 hL (by omega) (by omega) ?_
  refine wl_v el_434 lm_202 rfl rfl (mk_cls sh_225) (rl_flips (xs (i + 1).toNat) (kqR_f hs hl I.2.1)) ?_
  rintro v h2 ⟨v2, z2, w2, S2, e, ⟨x2, rfl⟩, hR, h1, hs2, hl2, hD2⟩
  have ha5 : z1 225 1 = z 225 1 := hs.2.2.1 _ _ (lo_n hl (by omega))
  have hX := kqX_o I.2.2.2 hs hl hs2 hl2 hD hD2 (kql_I ha5 h1)
  cases e
  refine wl_s (F' := (438, lvs i, [], mk z2 w2 (pq (some t) (some u) tx it mt tt ct))) el_437 (fun _ => rfl) ?_
  refine wl_s (F' := (1001, lvs i, [], mk z2 w2 (pq (some t) (some u) tx it mt tt ct))) el_438 (fun _ => rfl) ?_
  exact K _ _ _ (kqI_m I.2.2.1 hC h15 hs hl hR h1 hs2 hl2 hX)
theorem lw_flip {L : Nat} {xs : Nat → Int32} {Q : pm_R → Prop} {i : Int} {z w : mZ} {p : mP} (hL : L ≤ 3072) (h0 : 0 ≤ i) (h6 : i + 6 ≤ L) (I : kqI z w p) (K : ∀ z' w' p', kqI z' w' p' → wl_ L xs (1001, lvs i, [], mk z' w' p') Q) : wl_ L xs (441, lvs i, [], mk z w p) Q := by
  refine wl_s (F' := (442, lvs i, [.ref 1], mk z w p)) el_441 (fun _ => rfl) ?_
  refine wl_rd el_442 el_443 el_444 el_445 el_446 hL (by omega) (by omega) ?_
  refine wl_rd el_447 el_448 el_449 el_450 el_451 hL (by omega) (by omega) ?_
  refine wl_v el_452 lm_112 rfl rfl (mk_cls sh_1) (cl_flip (xs (i + 1).toNat) (xs (i + 2).toNat) I.1) ?_
  rintro v h1 ⟨v1, z1, w1, p1, S1, e, ⟨x1, rfl⟩, hC, h15, hs, hl, hD⟩
  cases e
  have hC2 := hC
  obtain ⟨t, u, tx, it, mt, tt, ct, -, -, -, rfl, -⟩ := hC2
  refine wl_s (F' := (456, lvs i, [], mk z1 w1 (pq (some t) (some u) tx it mt tt ct))) el_455 (fun _ => rfl) ?_
  refine wl_s (F' := (457, lvs i, [.ref 225], mk z1 w1 (pq (some t) (some u) tx it mt tt ct))) el_456 (fun _ => rfl) ?_
  refine wl_rd el_457 el_458 el_459 el_460 el_461 hL (by omega) (by omega) ?_
  refine wl_rd el_462 el_463 el_464 el_465 el_466 hL (by omega) (by omega) ?_
  refine wl_v el_467 lm_203 rfl rfl (mk_cls sh_225) (rl_flip (xs (i + 1).toNat) (xs (i + 2).toNat) (kqR_f hs hl I.2.1)) ?_
  rintro v h2 ⟨v2, z2, w2, S2, e, ⟨x2, rfl⟩, hR, h1, hs2, hl2, hD2⟩
  have ha5 : z1 225 1 = z 225 1 := hs.2.2.1 _ _ (lo_n hl (by omega))
  have hX := kqX_o I.2.2.2 hs hl hs2 hl2 hD hD2 (kql_I ha5 h1)
  cases e
  refine wl_s (F' := (471, lvs i, [], mk z2 w2 (pq (some t) (some u) tx it mt tt ct))) el_470 (fun _ => rfl) ?_
  refine wl_s (F' := (1001, lvs i, [], mk z2 w2 (pq (some t) (some u) tx it mt tt ct))) el_471 (fun _ => rfl) ?_
  exact K _ _ _ (kqI_m I.2.2.1 hC h15 hs hl hR h1 hs2 hl2 hX)
theorem lw_cross {L : Nat} {xs : Nat → Int32} {Q : pm_R → Prop} {i : Int} {z w : mZ} {p : mP} (hL : L ≤ 3072) (h0 : 0 ≤ i) (h6 : i + 6 ≤ L) (I : kqI z w p) (K : ∀ z' w' p', kqI z' w' p' → wl_ L xs (1001, lvs i, [], mk z' w' p') Q) : wl_ L xs (474, lvs i, [], mk z w p) Q := by
  refine wl_s (F' := (475, lvs i, [.ref 1], mk z w p)) el_474 (fun _ => rfl) ?_
  refine wl_rd el_475 el_476 el_477 el_478 el_479 hL (by omega) (by omega) ?_
  refine wl_rd el_480 el_481 el_482 el_483 el_484 hL (by omega) (by omega) ?_
  refine wl_v el_485 lm_113 rfl rfl (mk_cls sh_1) (cl_cross (xs (i + 1).toNat) (xs (i + 2).toNat) I.1) ?_
  rintro v h1 ⟨v1, z1, w1, p1, S1, e, ⟨x1, rfl⟩, hC, h15, hs, hl, hD⟩
  cases e
  have hC2 := hC
  obtain ⟨t, u, tx, it, mt, tt, ct, -, -, -, rfl, -⟩ := hC2
  refine wl_s (F' := (489, lvs i, [], mk z1 w1 (pq (some t) (some u) tx it mt tt ct))) el_488 (fun _ => rfl) ?_
  refine wl_s (F' := (490, lvs i, [.ref 225], mk z1 w1 (pq (some t) (some u) tx it mt tt ct))) el_489 (fun _ => rfl) ?_
  refine wl_rd el_490 el_491 el_492 el_493 el_494 hL (by omega) (by omega) ?_
  refine wl_rd el_495 el_496 el_497 el_498 el_499 hL (by omega) (by omega) ?_
  refine wl_v el_500 lm_215 rfl rfl (mk_cls sh_225) (rl_cross (xs (i + 1).toNat) (xs (i + 2).toNat) (kqR_f hs hl I.2.1)) ?_
  rintro v h2 ⟨v2, z2, w2, S2, e, ⟨x2, rfl⟩, hR, h1, hs2, hl2, hD2⟩
  have ha5 : z1 225 1 = z 225 1 := hs.2.2.1 _ _ (lo_n hl (by omega))
  have hX := kqX_o I.2.2.2 hs hl hs2 hl2 hD hD2 (kql_I ha5 h1)
  cases e
  refine wl_s (F' := (504, lvs i, [], mk z2 w2 (pq (some t) (some u) tx it mt tt ct))) el_503 (fun _ => rfl) ?_
  refine wl_s (F' := (1001, lvs i, [], mk z2 w2 (pq (some t) (some u) tx it mt tt ct))) el_504 (fun _ => rfl) ?_
  exact K _ _ _ (kqI_m I.2.2.1 hC h15 hs hl hR h1 hs2 hl2 hX)
theorem lw_across {L : Nat} {xs : Nat → Int32} {Q : pm_R → Prop} {i : Int} {z w : mZ} {p : mP} (hL : L ≤ 3072) (h0 : 0 ≤ i) (h6 : i + 6 ≤ L) (I : kqI z w p) (K : ∀ z' w' p', kqI z' w' p' → wl_ L xs (1001, lvs i, [], mk z' w' p') Q) : wl_ L xs (507, lvs i, [], mk z w p) Q := by
  refine wl_s (F' := (508, lvs i, [.ref 1], mk z w p)) el_507 (fun _ => rfl) ?_
  refine wl_rd el_508 el_509 el_510 el_511 el_512 hL (by omega) (by omega) ?_
  refine wl_rd el_513 el_514 el_515 el_516 el_517 hL (by omega) (by omega) ?_
  refine wl_v el_518 lm_114 rfl rfl (mk_cls sh_1) (cl_across (xs (i + 1).toNat) (xs (i + 2).toNat) I.1) ?_
  rintro v h1 ⟨v1, z1, w1, p1, S1, e, ⟨x1, rfl⟩, hC, h15, hs, hl, hD⟩
  cases e
  have hC2 := hC
  obtain ⟨t, u, tx, it, mt, tt, ct, -, -, -, rfl, -⟩ := hC2
  refine wl_s (F' := (522, lvs i, [], mk z1 w1 (pq (some t) (some u) tx it mt tt ct))) el_521 (fun _ => rfl) ?_
  refine wl_s (F' := (523, lvs i, [.ref 225], mk z1 w1 (pq (some t) (some u) tx it mt tt ct))) el_522 (fun _ => rfl) ?_
  refine wl_rd el_523 el_524 el_525 el_526 el_527 hL (by omega) (by omega) ?_
  refine wl_rd el_528 el_529 el_530 el_531 el_532 hL (by omega) (by omega) ?_
  refine wl_v el_533 lm_217 rfl rfl (mk_cls sh_225) (rl_across (xs (i + 1).toNat) (xs (i + 2).toNat) (kqR_f hs hl I.2.1)) ?_
  rintro v h2 ⟨v2, z2, w2, S2, e, ⟨x2, rfl⟩, hR, h1, hs2, hl2, hD2⟩
  have ha5 : z1 225 1 = z 225 1 := hs.2.2.1 _ _ (lo_n hl (by omega))
  have hX := kqX_o I.2.2.2 hs hl hs2 hl2 hD hD2 (kql_I ha5 h1)
  cases e
  refine wl_s (F' := (537, lvs i, [], mk z2 w2 (pq (some t) (some u) tx it mt tt ct))) el_536 (fun _ => rfl) ?_
  refine wl_s (F' := (1001, lvs i, [], mk z2 w2 (pq (some t) (some u) tx it mt tt ct))) el_537 (fun _ => rfl) ?_
  exact K _ _ _ (kqI_m I.2.2.1 hC h15 hs hl hR h1 hs2 hl2 hX)
theorem lw_kept {L : Nat} {xs : Nat → Int32} {Q : pm_R → Prop} {i : Int} {z w : mZ} {p : mP} (hL : L ≤ 3072) (h0 : 0 ≤ i) (h6 : i + 6 ≤ L) (I : kqI z w p) (K : ∀ z' w' p', kqI z' w' p' → wl_ L xs (1001, lvs i, [], mk z' w' p') Q) : wl_ L xs (540, lvs i, [], mk z w p) Q := by
  refine wl_s (F' := (541, lvs i, [.ref 1], mk z w p)) el_540 (fun _ => rfl) ?_
  refine wl_rd el_541 el_542 el_543 el_544 el_545 hL (by omega) (by omega) ?_
  refine wl_v el_546 lm_115 rfl rfl (mk_cls sh_1) (cl_kept (xs (i + 1).toNat) I.1) ?_
  rintro v h1 ⟨v1, z1, w1, p1, S1, e, ⟨x1, rfl⟩, hC, h15, hs, hl, hD⟩
  cases e
  have hC2 := hC
  obtain ⟨t, u, tx, it, mt, tt, ct, -, -, -, rfl, -⟩ := hC2
  refine wl_s (F' := (550, lvs i, [], mk z1 w1 (pq (some t) (some u) tx it mt tt ct))) el_549 (fun _ => rfl) ?_
  refine wl_s (F' := (551, lvs i, [.ref 225], mk z1 w1 (pq (some t) (some u) tx it mt tt ct))) el_550 (fun _ => rfl) ?_
  refine wl_rd el_551 el_552 el_553 el_554 el_555 hL (by omega) (by omega) ?_
  refine wl_v el_556 lm_220 rfl rfl (mk_cls sh_225) (rl_kept (xs (i + 1).toNat) (kqR_f hs hl I.2.1)) ?_
  rintro v h2 ⟨v2, z2, w2, S2, e, ⟨x2, rfl⟩, hR, h1, hs2, hl2, hD2⟩
  have ha5 : z1 225 1 = z 225 1 := hs.2.2.1 _ _ (lo_n hl (by omega))
  have hX := kqX_o I.2.2.2 hs hl hs2 hl2 hD hD2 (kql_I ha5 h1)
  cases e
  refine wl_s (F' := (560, lvs i, [], mk z2 w2 (pq (some t) (some u) tx it mt tt ct))) el_559 (fun _ => rfl) ?_
  refine wl_s (F' := (1001, lvs i, [], mk z2 w2 (pq (some t) (some u) tx it mt tt ct))) el_560 (fun _ => rfl) ?_
  exact K _ _ _ (kqI_m I.2.2.1 hC h15 hs hl hR h1 hs2 hl2 hX)
theorem lw_alike {L : Nat} {xs : Nat → Int32} {Q : pm_R → Prop} {i : Int} {z w : mZ} {p : mP} (hL : L ≤ 3072) (h0 : 0 ≤ i) (h6 : i + 6 ≤ L) (I : kqI z w p) (K : ∀ z' w' p', kqI z' w' p' → wl_ L xs (1001, lvs i, [], mk z' w' p') Q) : wl_ L xs (563, lvs i, [], mk z w p) Q := by
  refine wl_s (F' := (564, lvs i, [.ref 1], mk z w p)) el_563 (fun _ => rfl) ?_
  refine wl_rd el_564 el_565 el_566 el_567 el_568 hL (by omega) (by omega) ?_
  refine wl_rd el_569 el_570 el_571 el_572 el_573 hL (by omega) (by omega) ?_
  refine wl_v el_574 lm_116 rfl rfl (mk_cls sh_1) (cl_alike (xs (i + 1).toNat) (xs (i + 2).toNat) I.1) ?_
  rintro v h1 ⟨v1, z1, w1, p1, S1, e, ⟨x1, rfl⟩, hC, h15, hs, hl, hD⟩
  cases e
  have hC2 := hC
  obtain ⟨t, u, tx, it, mt, tt, ct, -, -, -, rfl, -⟩ := hC2
  refine wl_s (F' := (578, lvs i, [], mk z1 w1 (pq (some t) (some u) tx it mt tt ct))) el_577 (fun _ => rfl) ?_
  refine wl_s (F' := (579, lvs i, [.ref 225], mk z1 w1 (pq (some t) (some u) tx it mt tt ct))) el_578 (fun _ => rfl) ?_
  refine wl_rd el_579 el_580 el_581 el_582 el_583 hL (by omega) (by omega) ?_
  refine wl_rd el_584 el_585 el_586 el_587 el_588 hL (by omega) (by omega) ?_
  refine wl_v el_589 lm_221 rfl rfl (mk_cls sh_225) (rl_alike (xs (i + 1).toNat) (xs (i + 2).toNat) (kqR_f hs hl I.2.1)) ?_
  rintro v h2 ⟨v2, z2, w2, S2, e, ⟨x2, rfl⟩, hR, h1, hs2, hl2, hD2⟩
  have ha5 : z1 225 1 = z 225 1 := hs.2.2.1 _ _ (lo_n hl (by omega))
  have hX := kqX_o I.2.2.2 hs hl hs2 hl2 hD hD2 (kql_I ha5 h1)
  cases e
  refine wl_s (F' := (593, lvs i, [], mk z2 w2 (pq (some t) (some u) tx it mt tt ct))) el_592 (fun _ => rfl) ?_
  refine wl_s (F' := (1001, lvs i, [], mk z2 w2 (pq (some t) (some u) tx it mt tt ct))) el_593 (fun _ => rfl) ?_
  exact K _ _ _ (kqI_m I.2.2.1 hC h15 hs hl hR h1 hs2 hl2 hX)
theorem lw_order {L : Nat} {xs : Nat → Int32} {Q : pm_R → Prop} {i : Int} {z w : mZ} {p : mP} (hL : L ≤ 3072) (h0 : 0 ≤ i) (h6 : i + 6 ≤ L) (I : kqI z w p) (K : ∀ z' w' p', kqI z' w' p' → wl_ L xs (1001, lvs i, [], mk z' w' p') Q) : wl_ L xs (596, lvs i, [], mk z w p) Q := by
  refine wl_s (F' := (597, lvs i, [.ref 1], mk z w p)) el_596 (fun _ => rfl) ?_
  refine wl_rd el_597 el_598 el_599 el_600 el_601 hL (by omega) (by omega) ?_
  refine wl_v el_602 lm_117 rfl rfl (mk_cls sh_1) (cl_order (xs (i + 1).toNat) I.1) ?_
  rintro v h1 ⟨v1, z1, w1, p1, S1, e, ⟨x1, rfl⟩, hC, h15, hs, hl, hD⟩
  cases e
  have hC2 := hC
  obtain ⟨t, u, tx, it, mt, tt, ct, -, -, -, rfl, -⟩ := hC2
  refine wl_s (F' := (606, lvs i, [], mk z1 w1 (pq (some t) (some u) tx it mt tt ct))) el_605 (fun _ => rfl) ?_
  refine wl_s (F' := (607, lvs i, [.ref 225], mk z1 w1 (pq (some t) (some u) tx it mt tt ct))) el_606 (fun _ => rfl) ?_
  refine wl_rd el_607 el_608 el_609 el_610 el_611 hL (by omega) (by omega) ?_
  refine wl_v el_612 lm_223 rfl rfl (mk_cls sh_225) (rl_order (xs (i + 1).toNat) (kqR_f hs hl I.2.1)) ?_
  rintro v h2 ⟨v2, z2, w2, S2, e, ⟨x2, rfl⟩, hR, h1, hs2, hl2, hD2⟩
  have ha5 : z1 225 1 = z 225 1 := hs.2.2.1 _ _ (lo_n hl (by omega))
  have hX := kqX_o I.2.2.2 hs hl hs2 hl2 hD hD2 (kql_I ha5 h1)
  cases e
  refine wl_s (F' := (616, lvs i, [], mk z2 w2 (pq (some t) (some u) tx it mt tt ct))) el_615 (fun _ => rfl) ?_
  refine wl_s (F' := (1001, lvs i, [], mk z2 w2 (pq (some t) (some u) tx it mt tt ct))) el_616 (fun _ => rfl) ?_
  exact K _ _ _ (kqI_m I.2.2.1 hC h15 hs hl hR h1 hs2 hl2 hX)
theorem lw_stretch {L : Nat} {xs : Nat → Int32} {Q : pm_R → Prop} {i : Int} {z w : mZ} {p : mP} (hL : L ≤ 3072) (h0 : 0 ≤ i) (h6 : i + 6 ≤ L) (I : kqI z w p) (K : ∀ z' w' p', kqI z' w' p' → wl_ L xs (1001, lvs i, [], mk z' w' p') Q) : wl_ L xs (619, lvs i, [], mk z w p) Q := by
  refine wl_s (F' := (620, lvs i, [.ref 1], mk z w p)) el_619 (fun _ => rfl) ?_
  refine wl_rd el_620 el_621 el_622 el_623 el_624 hL (by omega) (by omega) ?_
  refine wl_rd el_625 el_626 el_627 el_628 el_629 hL (by omega) (by omega) ?_
  refine wl_rd el_630 el_631 el_632 el_633 el_634 hL (by omega) (by omega) ?_
  refine wl_v el_635 lm_118 rfl rfl (mk_cls sh_1) (cl_stretch (xs (i + 1).toNat) (xs (i + 2).toNat) (xs (i + 3).toNat) I.1) ?_
  rintro v h1 ⟨v1, z1, w1, p1, S1, e, ⟨x1, rfl⟩, hC, h15, hs, hl, hD⟩
  cases e
  have hC2 := hC
  obtain ⟨t, u, tx, it, mt, tt, ct, -, -, -, rfl, -⟩ := hC2
  refine wl_s (F' := (639, lvs i, [], mk z1 w1 (pq (some t) (some u) tx it mt tt ct))) el_638 (fun _ => rfl) ?_
  refine wl_s (F' := (640, lvs i, [.ref 225], mk z1 w1 (pq (some t) (some u) tx it mt tt ct))) el_639 (fun _ => rfl) ?_
  refine wl_rd el_640 el_641 el_642 el_643 el_644 hL (by omega) (by omega) ?_
  refine wl_rd el_645 el_646 el_647 el_648 el_649 hL (by omega) (by omega) ?_
  refine wl_rd el_650 el_651 el_652 el_653 el_654 hL (by omega) (by omega) ?_
  refine wl_v el_655 lm_224 rfl rfl (mk_cls sh_225) (rl_stretch (xs (i + 1).toNat) (xs (i + 2).toNat) (xs (i + 3).toNat) (kqR_f hs hl I.2.1)) ?_
  rintro v h2 ⟨v2, z2, w2, S2, e, ⟨x2, rfl⟩, hR, h1, hs2, hl2, hD2⟩
  have ha5 : z1 225 1 = z 225 1 := hs.2.2.1 _ _ (lo_n hl (by omega))
  have hX := kqX_o I.2.2.2 hs hl hs2 hl2 hD hD2 (kql_I ha5 h1)
  cases e
  refine wl_s (F' := (659, lvs i, [], mk z2 w2 (pq (some t) (some u) tx it mt tt ct))) el_658 (fun _ => rfl) ?_
  refine wl_s (F' := (1001, lvs i, [], mk z2 w2 (pq (some t) (some u) tx it mt tt ct))) el_659 (fun _ => rfl) ?_
  exact K _ _ _ (kqI_m I.2.2.1 hC h15 hs hl hR h1 hs2 hl2 hX)
theorem lw_table {L : Nat} {xs : Nat → Int32} {Q : pm_R → Prop} {i : Int} {z w : mZ} {p : mP} (hL : L ≤ 3072) (h0 : 0 ≤ i) (h6 : i + 6 ≤ L) (I : kqI z w p) (K : ∀ z' w' p', kqI z' w' p' → wl_ L xs (1001, lvs i, [], mk z' w' p') Q) : wl_ L xs (662, lvs i, [], mk z w p) Q := by
  refine wl_s (F' := (663, lvs i, [.ref 1], mk z w p)) el_662 (fun _ => rfl) ?_
  refine wl_rd el_663 el_664 el_665 el_666 el_667 hL (by omega) (by omega) ?_
  refine wl_rd el_668 el_669 el_670 el_671 el_672 hL (by omega) (by omega) ?_
  refine wl_rd el_673 el_674 el_675 el_676 el_677 hL (by omega) (by omega) ?_
  refine wl_rd el_678 el_679 el_680 el_681 el_682 hL (by omega) (by omega) ?_
  refine wl_v el_683 lm_119 rfl rfl (mk_cls sh_1) (cl_table (xs (i + 1).toNat) (xs (i + 2).toNat) (xs (i + 3).toNat) (xs (i + 4).toNat) I.1) ?_
  rintro v h1 ⟨v1, z1, w1, p1, S1, e, ⟨x1, rfl⟩, hC, h15, hs, hl, hD⟩
  cases e
  have hC2 := hC
  obtain ⟨t, u, tx, it, mt, tt, ct, -, -, -, rfl, -⟩ := hC2
  refine wl_s (F' := (687, lvs i, [], mk z1 w1 (pq (some t) (some u) tx it mt tt ct))) el_686 (fun _ => rfl) ?_
  refine wl_s (F' := (688, lvs i, [.ref 225], mk z1 w1 (pq (some t) (some u) tx it mt tt ct))) el_687 (fun _ => rfl) ?_
  refine wl_rd el_688 el_689 el_690 el_691 el_692 hL (by omega) (by omega) ?_
  refine wl_rd el_693 el_694 el_695 el_696 el_697 hL (by omega) (by omega) ?_
  refine wl_rd el_698 el_699 el_700 el_701 el_702 hL (by omega) (by omega) ?_
  refine wl_rd el_703 el_704 el_705 el_706 el_707 hL (by omega) (by omega) ?_
  refine wl_v el_708 lm_226 rfl rfl (mk_cls sh_225) (rl_table (xs (i + 1).toNat) (xs (i + 2).toNat) (xs (i + 3).toNat) (xs (i + 4).toNat) (kqR_f hs hl I.2.1)) ?_
  rintro v h2 ⟨v2, z2, w2, S2, e, ⟨x2, rfl⟩, hR, h1, hs2, hl2, hD2⟩
  have ha5 : z1 225 1 = z 225 1 := hs.2.2.1 _ _ (lo_n hl (by omega))
  have hX := kqX_o I.2.2.2 hs hl hs2 hl2 hD hD2 (kql_I ha5 h1)
  cases e
  refine wl_s (F' := (712, lvs i, [], mk z2 w2 (pq (some t) (some u) tx it mt tt ct))) el_711 (fun _ => rfl) ?_
  refine wl_s (F' := (1001, lvs i, [], mk z2 w2 (pq (some t) (some u) tx it mt tt ct))) el_712 (fun _ => rfl) ?_
  exact K _ _ _ (kqI_m I.2.2.1 hC h15 hs hl hR h1 hs2 hl2 hX)
theorem lw_polynomial {L : Nat} {xs : Nat → Int32} {Q : pm_R → Prop} {i : Int} {z w : mZ} {p : mP} (hL : L ≤ 3072) (h0 : 0 ≤ i) (h6 : i + 6 ≤ L) (I : kqI z w p) (K : ∀ z' w' p', kqI z' w' p' → wl_ L xs (1001, lvs i, [], mk z' w' p') Q) : wl_ L xs (715, lvs i, [], mk z w p) Q := by
  refine wl_s (F' := (716, lvs i, [.ref 1], mk z w p)) el_715 (fun _ => rfl) ?_
  refine wl_rd el_716 el_717 el_718 el_719 el_720 hL (by omega) (by omega) ?_
  refine wl_rd el_721 el_722 el_723 el_724 el_725 hL (by omega) (by omega) ?_
  refine wl_rd el_726 el_727 el_728 el_729 el_730 hL (by omega) (by omega) ?_
  refine wl_v el_731 lm_120 rfl rfl (mk_cls sh_1) (cl_polynomial (xs (i + 1).toNat) (xs (i + 2).toNat) (xs (i + 3).toNat) I.1) ?_
  rintro v h1 ⟨v1, z1, w1, p1, S1, e, ⟨x1, rfl⟩, hC, h15, hs, hl, hD⟩
  cases e
  have hC2 := hC
  obtain ⟨t, u, tx, it, mt, tt, ct, -, -, -, rfl, -⟩ := hC2
  refine wl_s (F' := (735, lvs i, [], mk z1 w1 (pq (some t) (some u) tx it mt tt ct))) el_734 (fun _ => rfl) ?_
  refine wl_s (F' := (736, lvs i, [.ref 225], mk z1 w1 (pq (some t) (some u) tx it mt tt ct))) el_735 (fun _ => rfl) ?_
  refine wl_rd el_736 el_737 el_738 el_739 el_740 hL (by omega) (by omega) ?_
  refine wl_rd el_741 el_742 el_743 el_744 el_745 hL (by omega) (by omega) ?_
  refine wl_rd el_746 el_747 el_748 el_749 el_750 hL (by omega) (by omega) ?_
  refine wl_v el_751 lm_230 rfl rfl (mk_cls sh_225) (rl_polynomial (xs (i + 1).toNat) (xs (i + 2).toNat) (xs (i + 3).toNat) (kqR_f hs hl I.2.1)) ?_
  rintro v h2 ⟨v2, z2, w2, S2, e, ⟨x2, rfl⟩, hR, h1, hs2, hl2, hD2⟩
  have ha5 : z1 225 1 = z 225 1 := hs.2.2.1 _ _ (lo_n hl (by omega))
  have hX := kqX_o I.2.2.2 hs hl hs2 hl2 hD hD2 (kql_I ha5 h1)
  cases e
  refine wl_s (F' := (755, lvs i, [], mk z2 w2 (pq (some t) (some u) tx it mt tt ct))) el_754 (fun _ => rfl) ?_
  refine wl_s (F' := (1001, lvs i, [], mk z2 w2 (pq (some t) (some u) tx it mt tt ct))) el_755 (fun _ => rfl) ?_
  exact K _ _ _ (kqI_m I.2.2.1 hC h15 hs hl hR h1 hs2 hl2 hX)
theorem lw_least {L : Nat} {xs : Nat → Int32} {Q : pm_R → Prop} {i : Int} {z w : mZ} {p : mP} (hL : L ≤ 3072) (h0 : 0 ≤ i) (h6 : i + 6 ≤ L) (I : kqI z w p) (K : ∀ z' w' p', kqI z' w' p' → wl_ L xs (1001, lvs i, [], mk z' w' p') Q) : wl_ L xs (758, lvs i, [], mk z w p) Q := by
  refine wl_s (F' := (759, lvs i, [.ref 1], mk z w p)) el_758 (fun _ => rfl) ?_
  refine wl_rd el_759 el_760 el_761 el_762 el_763 hL (by omega) (by omega) ?_
  refine wl_rd el_764 el_765 el_766 el_767 el_768 hL (by omega) (by omega) ?_
  refine wl_v el_769 lm_121 rfl rfl (mk_cls sh_1) (cl_least (xs (i + 1).toNat) (xs (i + 2).toNat) I.1) ?_
  rintro v h1 ⟨v1, z1, w1, p1, S1, e, ⟨x1, rfl⟩, hC, h15, hs, hl, hD⟩
  cases e
  have hC2 := hC
  obtain ⟨t, u, tx, it, mt, tt, ct, -, -, -, rfl, -⟩ := hC2
  refine wl_s (F' := (773, lvs i, [], mk z1 w1 (pq (some t) (some u) tx it mt tt ct))) el_772 (fun _ => rfl) ?_
  refine wl_s (F' := (774, lvs i, [.ref 225], mk z1 w1 (pq (some t) (some u) tx it mt tt ct))) el_773 (fun _ => rfl) ?_
  refine wl_rd el_774 el_775 el_776 el_777 el_778 hL (by omega) (by omega) ?_
  refine wl_rd el_779 el_780 el_781 el_782 el_783 hL (by omega) (by omega) ?_
  refine wl_v el_784 lm_235 rfl rfl (mk_cls sh_225) (rl_least (xs (i + 1).toNat) (xs (i + 2).toNat) (kqR_f hs hl I.2.1)) ?_
  rintro v h2 ⟨v2, z2, w2, S2, e, ⟨x2, rfl⟩, hR, h1, hs2, hl2, hD2⟩
  have ha5 : z1 225 1 = z 225 1 := hs.2.2.1 _ _ (lo_n hl (by omega))
  have hX := kqX_o I.2.2.2 hs hl hs2 hl2 hD hD2 (kql_I ha5 h1)
  cases e
  refine wl_s (F' := (788, lvs i, [], mk z2 w2 (pq (some t) (some u) tx it mt tt ct))) el_787 (fun _ => rfl) ?_
  refine wl_s (F' := (1001, lvs i, [], mk z2 w2 (pq (some t) (some u) tx it mt tt ct))) el_788 (fun _ => rfl) ?_
  exact K _ _ _ (kqI_m I.2.2.1 hC h15 hs hl hR h1 hs2 hl2 hX)
theorem lw_lies {L : Nat} {xs : Nat → Int32} {Q : pm_R → Prop} {i : Int} {z w : mZ} {p : mP} (hL : L ≤ 3072) (h0 : 0 ≤ i) (h6 : i + 6 ≤ L) (I : kqI z w p) (K : ∀ z' w' p', kqI z' w' p' → wl_ L xs (1001, lvs i, [], mk z' w' p') Q) : wl_ L xs (791, lvs i, [], mk z w p) Q := by
  refine wl_s (F' := (792, lvs i, [.ref 1], mk z w p)) el_791 (fun _ => rfl) ?_
  refine wl_rd el_792 el_793 el_794 el_795 el_796 hL (by omega) (by omega) ?_
  refine wl_v el_797 lm_122 rfl rfl (mk_cls sh_1) (cl_lies (xs (i + 1).toNat) I.1) ?_
  rintro v h1 ⟨v1, z1, w1, p1, S1, e, ⟨x1, rfl⟩, hC, h15, hs, hl, hD⟩
  cases e
  have hC2 := hC
  obtain ⟨t, u, tx, it, mt, tt, ct, -, -, -, rfl, -⟩ := hC2
  refine wl_s (F' := (801, lvs i, [], mk z1 w1 (pq (some t) (some u) tx it mt tt ct))) el_800 (fun _ => rfl) ?_
  refine wl_s (F' := (802, lvs i, [.ref 225], mk z1 w1 (pq (some t) (some u) tx it mt tt ct))) el_801 (fun _ => rfl) ?_
  refine wl_rd el_802 el_803 el_804 el_805 el_806 hL (by omega) (by omega) ?_
  refine wl_v el_807 lm_238 rfl rfl (mk_cls sh_225) (rl_lies (xs (i + 1).toNat) (kqR_f hs hl I.2.1)) ?_
  rintro v h2 ⟨v2, z2, w2, S2, e, ⟨x2, rfl⟩, hR, h1, hs2, hl2, hD2⟩
  have ha5 : z1 225 1 = z 225 1 := hs.2.2.1 _ _ (lo_n hl (by omega))
  have hX := kqX_o I.2.2.2 hs hl hs2 hl2 hD hD2 (kql_I ha5 h1)
  cases e
  refine wl_s (F' := (811, lvs i, [], mk z2 w2 (pq (some t) (some u) tx it mt tt ct))) el_810 (fun _ => rfl) ?_
  refine wl_s (F' := (1001, lvs i, [], mk z2 w2 (pq (some t) (some u) tx it mt tt ct))) el_811 (fun _ => rfl) ?_
  exact K _ _ _ (kqI_m I.2.2.1 hC h15 hs hl hR h1 hs2 hl2 hX)
theorem lw_lay {L : Nat} {xs : Nat → Int32} {Q : pm_R → Prop} {i : Int} {z w : mZ} {p : mP} (hL : L ≤ 3072) (h0 : 0 ≤ i) (h6 : i + 6 ≤ L) (I : kqI z w p) (K : ∀ z' w' p', kqI z' w' p' → wl_ L xs (1001, lvs i, [], mk z' w' p') Q) : wl_ L xs (814, lvs i, [], mk z w p) Q := by
  refine wl_s (F' := (815, lvs i, [.ref 1], mk z w p)) el_814 (fun _ => rfl) ?_
  refine wl_rd el_815 el_816 el_817 el_818 el_819 hL (by omega) (by omega) ?_
  refine wl_v el_820 lm_123 rfl rfl (mk_cls sh_1) (cl_lay (xs (i + 1).toNat) I.1) ?_
  rintro v h1 ⟨v1, z1, w1, p1, S1, e, ⟨x1, rfl⟩, hC, h15, hs, hl, hD⟩
  cases e
  have hC2 := hC
  obtain ⟨t, u, tx, it, mt, tt, ct, -, -, -, rfl, -⟩ := hC2
  refine wl_s (F' := (824, lvs i, [], mk z1 w1 (pq (some t) (some u) tx it mt tt ct))) el_823 (fun _ => rfl) ?_
  refine wl_s (F' := (825, lvs i, [.ref 225], mk z1 w1 (pq (some t) (some u) tx it mt tt ct))) el_824 (fun _ => rfl) ?_
  refine wl_rd el_825 el_826 el_827 el_828 el_829 hL (by omega) (by omega) ?_
  refine wl_v el_830 lm_242 rfl rfl (mk_cls sh_225) (rl_lay (xs (i + 1).toNat) (kqR_f hs hl I.2.1)) ?_
  rintro v h2 ⟨v2, z2, w2, S2, e, ⟨x2, rfl⟩, hR, h1, hs2, hl2, hD2⟩
  have ha5 : z1 225 1 = z 225 1 := hs.2.2.1 _ _ (lo_n hl (by omega))
  obtain ⟨t0, et, ht0, h8, xt⟩ := I.2.2.2.2.2.2.2
  have LB := I.2.2.2.2.2.2.1
  have F := kqF_s hs hl
  have sx := st_lay xt h8 (BD_z I.1) F (LN_a hs hl LB.1) (BX_a hs hl LB.2) (hD.2 t0 et) hD2.2
  have hX := kqX_s I.2.2.2 hs hl hs2 hl2 hD.1 hD2.1 (kql_I ha5 h1) (by rw [rE_o hs hl hD2.1.2.2]; exact ⟨LN_b hs2 hl2 sx.1.1, BX_b hs2 hl2 sx.1.2⟩)
  cases e
  refine wl_s (F' := (834, lvs i, [], mk z2 w2 (pq (some t) (some u) tx it mt tt ct))) el_833 (fun _ => rfl) ?_
  refine wl_s (F' := (1001, lvs i, [], mk z2 w2 (pq (some t) (some u) tx it mt tt ct))) el_834 (fun _ => rfl) ?_
  exact K _ _ _ (kqI_m I.2.2.1 hC h15 hs hl hR h1 hs2 hl2 hX)
theorem lw_twist {L : Nat} {xs : Nat → Int32} {Q : pm_R → Prop} {i : Int} {z w : mZ} {p : mP} (hL : L ≤ 3072) (h0 : 0 ≤ i) (h6 : i + 6 ≤ L) (I : kqI z w p) (K : ∀ z' w' p', kqI z' w' p' → wl_ L xs (1001, lvs i, [], mk z' w' p') Q) : wl_ L xs (837, lvs i, [], mk z w p) Q := by
  refine wl_s (F' := (838, lvs i, [.ref 1], mk z w p)) el_837 (fun _ => rfl) ?_
  refine wl_rd el_838 el_839 el_840 el_841 el_842 hL (by omega) (by omega) ?_
  refine wl_rd el_843 el_844 el_845 el_846 el_847 hL (by omega) (by omega) ?_
  refine wl_v el_848 lm_124 rfl rfl (mk_cls sh_1) (cl_twist (xs (i + 1).toNat) (xs (i + 2).toNat) I.1) ?_
  rintro v h1 ⟨v1, z1, w1, p1, S1, e, ⟨x1, rfl⟩, hC, h15, hs, hl, hD⟩
  cases e
  have hC2 := hC
  obtain ⟨t, u, tx, it, mt, tt, ct, -, -, -, rfl, -⟩ := hC2
  refine wl_s (F' := (852, lvs i, [], mk z1 w1 (pq (some t) (some u) tx it mt tt ct))) el_851 (fun _ => rfl) ?_
  refine wl_s (F' := (853, lvs i, [.ref 225], mk z1 w1 (pq (some t) (some u) tx it mt tt ct))) el_852 (fun _ => rfl) ?_
  refine wl_rd el_853 el_854 el_855 el_856 el_857 hL (by omega) (by omega) ?_
  refine wl_rd el_858 el_859 el_860 el_861 el_862 hL (by omega) (by omega) ?_
  refine wl_v el_863 lm_243 rfl rfl (mk_cls sh_225) (rl_twist (xs (i + 1).toNat) (xs (i + 2).toNat) (kqR_f hs hl I.2.1)) ?_
  rintro v h2 ⟨v2, z2, w2, S2, e, ⟨x2, rfl⟩, hR, h1, hs2, hl2, hD2⟩
  have ha5 : z1 225 1 = z 225 1 := hs.2.2.1 _ _ (lo_n hl (by omega))
  obtain ⟨t0, et, ht0, h8, xt⟩ := I.2.2.2.2.2.2.2
  have LB := I.2.2.2.2.2.2.1
  have F := kqF_s hs hl
  have sx := st_twist I.2.1.1 I.2.1.2.2 xt h8 (BD_z I.1) F (LN_a hs hl LB.1) (BX_a hs hl LB.2) (hD.2 t0 et) hD2.2
  have hX := kqX_s I.2.2.2 hs hl hs2 hl2 hD.1 hD2.1 (kql_I ha5 h1) (by rw [rE_o hs hl hD2.1.2.2]; exact ⟨LN_b hs2 hl2 sx.1.1, BX_b hs2 hl2 sx.1.2⟩)
  cases e
  refine wl_s (F' := (867, lvs i, [], mk z2 w2 (pq (some t) (some u) tx it mt tt ct))) el_866 (fun _ => rfl) ?_
  refine wl_s (F' := (1001, lvs i, [], mk z2 w2 (pq (some t) (some u) tx it mt tt ct))) el_867 (fun _ => rfl) ?_
  exact K _ _ _ (kqI_m I.2.2.1 hC h15 hs hl hR h1 hs2 hl2 hX)
theorem lw_go {L : Nat} {xs : Nat → Int32} {Q : pm_R → Prop} {i : Int} {z w : mZ} {p : mP} (hL : L ≤ 3072) (h0 : 0 ≤ i) (h6 : i + 6 ≤ L) (I : kqI z w p) (K : ∀ z' w' p', kqI z' w' p' → wl_ L xs (1001, lvs i, [], mk z' w' p') Q) : wl_ L xs (870, lvs i, [], mk z w p) Q := by
  refine wl_s (F' := (871, lvs i, [.ref 1], mk z w p)) el_870 (fun _ => rfl) ?_
  refine wl_rd el_871 el_872 el_873 el_874 el_875 hL (by omega) (by omega) ?_
  refine wl_v el_876 lm_125 rfl rfl (mk_cls sh_1) (cl_go (xs (i + 1).toNat) I.1) ?_
  rintro v h1 ⟨v1, z1, w1, p1, S1, e, ⟨x1, rfl⟩, hC, h15, hs, hl, hD⟩
  cases e
  have hC2 := hC
  obtain ⟨t, u, tx, it, mt, tt, ct, -, -, -, rfl, -⟩ := hC2
  refine wl_s (F' := (880, lvs i, [], mk z1 w1 (pq (some t) (some u) tx it mt tt ct))) el_879 (fun _ => rfl) ?_
  refine wl_s (F' := (881, lvs i, [.ref 225], mk z1 w1 (pq (some t) (some u) tx it mt tt ct))) el_880 (fun _ => rfl) ?_
  refine wl_rd el_881 el_882 el_883 el_884 el_885 hL (by omega) (by omega) ?_
  refine wl_v el_886 lm_244 rfl rfl (mk_cls sh_225) (rl_go (xs (i + 1).toNat) (kqR_f hs hl I.2.1)) ?_
  rintro v h2 ⟨v2, z2, w2, S2, e, ⟨x2, rfl⟩, hR, h1, hs2, hl2, hD2⟩
  have ha5 : z1 225 1 = z 225 1 := hs.2.2.1 _ _ (lo_n hl (by omega))
  obtain ⟨t0, et, ht0, h8, xt⟩ := I.2.2.2.2.2.2.2
  have LB := I.2.2.2.2.2.2.1
  have F := kqF_s hs hl
  have sx := st_go I.2.1.1 ht0 I.2.1.2.2 xt h8 (BD_z I.1) F (LN_a hs hl LB.1) (BX_a hs hl LB.2) (hD.2 t0 et) hD2.2
  have hX := kqX_s I.2.2.2 hs hl hs2 hl2 hD.1 hD2.1 (kql_I ha5 h1) (by rw [rE_o hs hl hD2.1.2.2]; exact ⟨LN_b hs2 hl2 sx.1.1, BX_b hs2 hl2 sx.1.2⟩)
  cases e
  refine wl_s (F' := (890, lvs i, [], mk z2 w2 (pq (some t) (some u) tx it mt tt ct))) el_889 (fun _ => rfl) ?_
  refine wl_s (F' := (1001, lvs i, [], mk z2 w2 (pq (some t) (some u) tx it mt tt ct))) el_890 (fun _ => rfl) ?_
  exact K _ _ _ (kqI_m I.2.2.1 hC h15 hs hl hR h1 hs2 hl2 hX)
theorem lw_undo {L : Nat} {xs : Nat → Int32} {Q : pm_R → Prop} {i : Int} {z w : mZ} {p : mP} (hL : L ≤ 3072) (h0 : 0 ≤ i) (h6 : i + 6 ≤ L) (I : kqI z w p) (K : ∀ z' w' p', kqI z' w' p' → wl_ L xs (1001, lvs i, [], mk z' w' p') Q) : wl_ L xs (893, lvs i, [], mk z w p) Q := by
  refine wl_s (F' := (894, lvs i, [.ref 1], mk z w p)) el_893 (fun _ => rfl) ?_
  refine wl_v el_894 lm_127 rfl rfl (mk_cls sh_1) (cl_undo  I.1) ?_
  rintro v h1 ⟨v1, z1, w1, p1, S1, e, ⟨x1, rfl⟩, hC, h15, hs, hl, hD⟩
  cases e
  have hC2 := hC
  obtain ⟨t, u, tx, it, mt, tt, ct, -, -, -, rfl, -⟩ := hC2
  refine wl_s (F' := (898, lvs i, [], mk z1 w1 (pq (some t) (some u) tx it mt tt ct))) el_897 (fun _ => rfl) ?_
  refine wl_s (F' := (899, lvs i, [.ref 225], mk z1 w1 (pq (some t) (some u) tx it mt tt ct))) el_898 (fun _ => rfl) ?_
  refine wl_v el_899 lm_246 rfl rfl (mk_cls sh_225) (rl_undo  (kqR_f hs hl I.2.1)) ?_
  rintro v h2 ⟨v2, z2, w2, S2, e, ⟨x2, rfl⟩, hR, h1, hs2, hl2, hD2⟩
  have ha5 : z1 225 1 = z 225 1 := hs.2.2.1 _ _ (lo_n hl (by omega))
  obtain ⟨t0, et, ht0, h8, xt⟩ := I.2.2.2.2.2.2.2
  have LB := I.2.2.2.2.2.2.1
  have F := kqF_s hs hl
  have sx := st_undo (BD_z I.1) (LN_a hs hl LB.1) (BX_a hs hl LB.2) (hD.2 t0 et) hD2.2
  have hX := kqX_s I.2.2.2 hs hl hs2 hl2 hD.1 hD2.1 (kql_I ha5 h1) (by rw [rE_o hs hl hD2.1.2.2]; exact ⟨LN_b hs2 hl2 sx.1.1, BX_b hs2 hl2 sx.1.2⟩)
  cases e
  refine wl_s (F' := (903, lvs i, [], mk z2 w2 (pq (some t) (some u) tx it mt tt ct))) el_902 (fun _ => rfl) ?_
  refine wl_s (F' := (1001, lvs i, [], mk z2 w2 (pq (some t) (some u) tx it mt tt ct))) el_903 (fun _ => rfl) ?_
  exact K _ _ _ (kqI_m I.2.2.1 hC h15 hs hl hR h1 hs2 hl2 hX)
theorem lw_redo {L : Nat} {xs : Nat → Int32} {Q : pm_R → Prop} {i : Int} {z w : mZ} {p : mP} (hL : L ≤ 3072) (h0 : 0 ≤ i) (h6 : i + 6 ≤ L) (I : kqI z w p) (K : ∀ z' w' p', kqI z' w' p' → wl_ L xs (1001, lvs i, [], mk z' w' p') Q) : wl_ L xs (906, lvs i, [], mk z w p) Q := by
  refine wl_s (F' := (907, lvs i, [.ref 1], mk z w p)) el_906 (fun _ => rfl) ?_
  refine wl_v el_907 lm_128 rfl rfl (mk_cls sh_1) (cl_redo  I.1) ?_
  rintro v h1 ⟨v1, z1, w1, p1, S1, e, ⟨x1, rfl⟩, hC, h15, hs, hl, hD⟩
  cases e
  have hC2 := hC
  obtain ⟨t, u, tx, it, mt, tt, ct, -, -, -, rfl, -⟩ := hC2
  refine wl_s (F' := (911, lvs i, [], mk z1 w1 (pq (some t) (some u) tx it mt tt ct))) el_910 (fun _ => rfl) ?_
  refine wl_s (F' := (912, lvs i, [.ref 225], mk z1 w1 (pq (some t) (some u) tx it mt tt ct))) el_911 (fun _ => rfl) ?_
  refine wl_v el_912 lm_247 rfl rfl (mk_cls sh_225) (rl_redo  (kqR_f hs hl I.2.1)) ?_
  rintro v h2 ⟨v2, z2, w2, S2, e, ⟨x2, rfl⟩, hR, h1, hs2, hl2, hD2⟩
  have ha5 : z1 225 1 = z 225 1 := hs.2.2.1 _ _ (lo_n hl (by omega))
  obtain ⟨t0, et, ht0, h8, xt⟩ := I.2.2.2.2.2.2.2
  have LB := I.2.2.2.2.2.2.1
  have F := kqF_s hs hl
  have sx := st_redo (BD_z I.1) (LN_a hs hl LB.1) (BX_a hs hl LB.2) (hD.2 t0 et) hD2.2
  have hX := kqX_s I.2.2.2 hs hl hs2 hl2 hD.1 hD2.1 (kql_I ha5 h1) (by rw [rE_o hs hl hD2.1.2.2]; exact ⟨LN_b hs2 hl2 sx.1.1, BX_b hs2 hl2 sx.1.2⟩)
  cases e
  refine wl_s (F' := (916, lvs i, [], mk z2 w2 (pq (some t) (some u) tx it mt tt ct))) el_915 (fun _ => rfl) ?_
  refine wl_s (F' := (1001, lvs i, [], mk z2 w2 (pq (some t) (some u) tx it mt tt ct))) el_916 (fun _ => rfl) ?_
  exact K _ _ _ (kqI_m I.2.2.1 hC h15 hs hl hR h1 hs2 hl2 hX)
theorem lw_sketch {L : Nat} {xs : Nat → Int32} {Q : pm_R → Prop} {i : Int} {z w : mZ} {p : mP} (hL : L ≤ 3072) (h0 : 0 ≤ i) (h6 : i + 6 ≤ L) (I : kqI z w p) (K : ∀ z' w' p', kqI z' w' p' → wl_ L xs (1001, lvs i, [], mk z' w' p') Q) : wl_ L xs (919, lvs i, [], mk z w p) Q := by
  refine wl_s (F' := (920, lvs i, [.ref 1], mk z w p)) el_919 (fun _ => rfl) ?_
  refine wl_v el_920 lm_129 rfl rfl (mk_cls sh_1) (cl_sketch  I.1) ?_
  rintro v h1 ⟨v1, z1, w1, p1, S1, e, ⟨x1, rfl⟩, hC, h15, hs, hl, hD⟩
  cases e
  have hC2 := hC
  obtain ⟨t, u, tx, it, mt, tt, ct, -, -, -, rfl, -⟩ := hC2
  refine wl_s (F' := (924, lvs i, [], mk z1 w1 (pq (some t) (some u) tx it mt tt ct))) el_923 (fun _ => rfl) ?_
  refine wl_s (F' := (925, lvs i, [.ref 225], mk z1 w1 (pq (some t) (some u) tx it mt tt ct))) el_924 (fun _ => rfl) ?_
  refine wl_v el_925 lm_253 rfl rfl (mk_cls sh_225) (rl_sketch  (kqR_f hs hl I.2.1)) ?_
  rintro v h2 ⟨v2, z2, w2, S2, e, ⟨x2, rfl⟩, hR, h1, hs2, hl2, hD2⟩
  have ha5 : z1 225 1 = z 225 1 := hs.2.2.1 _ _ (lo_n hl (by omega))
  have hX := kqX_o I.2.2.2 hs hl hs2 hl2 hD hD2 (kql_0 (kqI_n I) h1)
  cases e
  refine wl_s (F' := (929, lvs i, [], mk z2 w2 (pq (some t) (some u) tx it mt tt ct))) el_928 (fun _ => rfl) ?_
  refine wl_s (F' := (1001, lvs i, [], mk z2 w2 (pq (some t) (some u) tx it mt tt ct))) el_929 (fun _ => rfl) ?_
  exact K _ _ _ (kqI_m I.2.2.1 hC h15 hs hl hR h1 hs2 hl2 hX)
theorem lw_image {L : Nat} {xs : Nat → Int32} {Q : pm_R → Prop} {i : Int} {z w : mZ} {p : mP} (hL : L ≤ 3072) (h0 : 0 ≤ i) (h6 : i + 6 ≤ L) (I : kqI z w p) (K : ∀ z' w' p', kqI z' w' p' → wl_ L xs (1001, lvs i, [], mk z' w' p') Q) : wl_ L xs (932, lvs i, [], mk z w p) Q := by
  refine wl_s (F' := (933, lvs i, [.ref 1], mk z w p)) el_932 (fun _ => rfl) ?_
  refine wl_rd el_933 el_934 el_935 el_936 el_937 hL (by omega) (by omega) ?_
  refine wl_v el_938 lm_130 rfl rfl (mk_cls sh_1) (cl_image (xs (i + 1).toNat) I.1) ?_
  rintro v h1 ⟨v1, z1, w1, p1, S1, e, ⟨x1, rfl⟩, hC, h15, hs, hl, hD⟩
  cases e
  have hC2 := hC
  obtain ⟨t, u, tx, it, mt, tt, ct, -, -, -, rfl, -⟩ := hC2
  refine wl_s (F' := (942, lvs i, [], mk z1 w1 (pq (some t) (some u) tx it mt tt ct))) el_941 (fun _ => rfl) ?_
  refine wl_s (F' := (943, lvs i, [.ref 225], mk z1 w1 (pq (some t) (some u) tx it mt tt ct))) el_942 (fun _ => rfl) ?_
  refine wl_rd el_943 el_944 el_945 el_946 el_947 hL (by omega) (by omega) ?_
  refine wl_v el_948 lm_255 rfl rfl (mk_cls sh_225) (rl_image (xs (i + 1).toNat) (kqR_f hs hl I.2.1)) ?_
  rintro v h2 ⟨v2, z2, w2, S2, e, ⟨x2, rfl⟩, hR, h1, hs2, hl2, hD2⟩
  have ha5 : z1 225 1 = z 225 1 := hs.2.2.1 _ _ (lo_n hl (by omega))
  obtain ⟨t0, et, ht0, h8, xt⟩ := I.2.2.2.2.2.2.2
  have LB := I.2.2.2.2.2.2.1
  have F := kqF_s hs hl
  have sx := st_image (BD_z I.1) F (LN_a hs hl LB.1) (BX_a hs hl LB.2) (hD.2 t0 et) hD2.2
  have hX := kqX_s I.2.2.2 hs hl hs2 hl2 hD.1 hD2.1 (kql_I ha5 h1) (by rw [rE_o hs hl hD2.1.2.2]; exact ⟨LN_b hs2 hl2 sx.1.1, BX_b hs2 hl2 sx.1.2⟩)
  cases e
  refine wl_s (F' := (952, lvs i, [], mk z2 w2 (pq (some t) (some u) tx it mt tt ct))) el_951 (fun _ => rfl) ?_
  refine wl_s (F' := (1001, lvs i, [], mk z2 w2 (pq (some t) (some u) tx it mt tt ct))) el_952 (fun _ => rfl) ?_
  exact K _ _ _ (kqI_m I.2.2.1 hC h15 hs hl hR h1 hs2 hl2 hX)
theorem lw_back {L : Nat} {xs : Nat → Int32} {Q : pm_R → Prop} {i : Int} {z w : mZ} {p : mP} (hL : L ≤ 3072) (h0 : 0 ≤ i) (h6 : i + 6 ≤ L) (I : kqI z w p) (K : ∀ z' w' p', kqI z' w' p' → wl_ L xs (1001, lvs i, [], mk z' w' p') Q) : wl_ L xs (955, lvs i, [], mk z w p) Q := by
  refine wl_s (F' := (956, lvs i, [.ref 1], mk z w p)) el_955 (fun _ => rfl) ?_
  refine wl_rd el_956 el_957 el_958 el_959 el_960 hL (by omega) (by omega) ?_
  refine wl_v el_961 lm_131 rfl rfl (mk_cls sh_1) (cl_back (xs (i + 1).toNat) I.1) ?_
  rintro v h1 ⟨v1, z1, w1, p1, S1, e, ⟨x1, rfl⟩, hC, h15, hs, hl, hD⟩
  cases e
  have hC2 := hC
  obtain ⟨t, u, tx, it, mt, tt, ct, -, -, -, rfl, -⟩ := hC2
  refine wl_s (F' := (965, lvs i, [], mk z1 w1 (pq (some t) (some u) tx it mt tt ct))) el_964 (fun _ => rfl) ?_
  refine wl_s (F' := (966, lvs i, [.ref 225], mk z1 w1 (pq (some t) (some u) tx it mt tt ct))) el_965 (fun _ => rfl) ?_
  refine wl_rd el_966 el_967 el_968 el_969 el_970 hL (by omega) (by omega) ?_
  refine wl_v el_971 lm_256 rfl rfl (mk_cls sh_225) (rl_back (xs (i + 1).toNat) (kqR_f hs hl I.2.1)) ?_
  rintro v h2 ⟨v2, z2, w2, S2, e, ⟨x2, rfl⟩, hR, h1, hs2, hl2, hD2⟩
  have ha5 : z1 225 1 = z 225 1 := hs.2.2.1 _ _ (lo_n hl (by omega))
  obtain ⟨t0, et, ht0, h8, xt⟩ := I.2.2.2.2.2.2.2
  have LB := I.2.2.2.2.2.2.1
  have F := kqF_s hs hl
  have sx := st_back F (LN_a hs hl LB.1) (BX_a hs hl LB.2) (hD.2 t0 et) hD2.2
  have hX := kqX_s I.2.2.2 hs hl hs2 hl2 hD.1 hD2.1 (kql_I ha5 h1) (by rw [rE_o hs hl hD2.1.2.2]; exact ⟨LN_b hs2 hl2 sx.1.1, BX_b hs2 hl2 sx.1.2⟩)
  cases e
  refine wl_s (F' := (975, lvs i, [], mk z2 w2 (pq (some t) (some u) tx it mt tt ct))) el_974 (fun _ => rfl) ?_
  refine wl_s (F' := (1001, lvs i, [], mk z2 w2 (pq (some t) (some u) tx it mt tt ct))) el_975 (fun _ => rfl) ?_
  exact K _ _ _ (kqI_m I.2.2.1 hC h15 hs hl hR h1 hs2 hl2 hX)
theorem lw_about {L : Nat} {xs : Nat → Int32} {Q : pm_R → Prop} {i : Int} {z w : mZ} {p : mP} (hL : L ≤ 3072) (h0 : 0 ≤ i) (h6 : i + 6 ≤ L) (I : kqI z w p) (K : ∀ z' w' p', kqI z' w' p' → wl_ L xs (1001, lvs i, [], mk z' w' p') Q) : wl_ L xs (978, lvs i, [], mk z w p) Q := by
  refine wl_s (F' := (979, lvs i, [.ref 1], mk z w p)) el_978 (fun _ => rfl) ?_
  refine wl_rd el_979 el_980 el_981 el_982 el_983 hL (by omega) (by omega) ?_
  refine wl_v el_984 lm_132 rfl rfl (mk_cls sh_1) (cl_about (xs (i + 1).toNat) I.1) ?_
  rintro v h1 ⟨v1, z1, w1, p1, S1, e, ⟨x1, rfl⟩, hC, h15, hs, hl, hD⟩
  cases e
  have hC2 := hC
  obtain ⟨t, u, tx, it, mt, tt, ct, -, -, -, rfl, -⟩ := hC2
  refine wl_s (F' := (988, lvs i, [.ref 225, _], mk z1 w1 (pq (some t) (some u) tx it mt tt ct))) el_987 (fun _ => rfl) ?_
  refine wl_rd el_988 el_989 el_990 el_991 el_992 hL (by omega) (by omega) ?_
  refine wl_v el_993 lm_257 rfl rfl (mk_cls sh_225) (rl_about (xs (i + 1).toNat) (kqR_f hs hl I.2.1)) ?_
  rintro v h2 ⟨v2, z2, w2, S2, e, ⟨x2, rfl⟩, hR, h1, hs2, hl2, hD2⟩
  have ha5 : z1 225 1 = z 225 1 := hs.2.2.1 _ _ (lo_n hl (by omega))
  obtain ⟨t0, et, ht0, h8, xt⟩ := I.2.2.2.2.2.2.2
  have LB := I.2.2.2.2.2.2.1
  have F := kqF_s hs hl
  have hX := kqX_o I.2.2.2 hs hl hs2 hl2 ⟨hD.1, hD.2.1⟩ ⟨hD2.1, hD2.2.1⟩ (kql_I ha5 h1)
  have e12 : Value.int x1 = Value.int x2 := st_about (kqC_v I.1 et) I.2.1.2.2 xt F LB.1 I.2.2.1 (hD.2.2 t0 et) hD2.2.2
  injection e12 with e12
  subst e12
  cases e
  refine wl_s (F' := (1001, lvs i, [], mk z2 w2 (pq (some t) (some u) tx it mt tt ct))) el_996 (fun _ => (pm_step2_ne (by intro q; cases q)).trans (pm_sJ rfl (pm_jt (decide_eq_true rfl)))) ?_
  exact K _ _ _ (kqI_m I.2.2.1 hC h15 hs hl hR h1 hs2 hl2 hX)
theorem lwq_all {L : Nat} {xs : Nat → Int32} {Q : pm_R → Prop} (hL : L ≤ 3072) (hQ : ∀ z w p, Q (some (.int 1), mk z w p)) : ∀ (n : Nat) (i : Int) (z w : mZ) (p : mP), 0 ≤ i → i ≤ L → ((L : Int) - i).toNat < n → kqI z w p → wl_ L xs (18, lvs i, [], mk z w p) Q := by
  intro n
  induction n with
  | zero => intro i z w p h0 h1 h2; exfalso; omega
  | succ n ih =>
    intro i z w p h0 h1 h2 I
    refine wl_s (F' := (19, lvs i, [.int (Int32.ofInt i)], mk z w p)) el_18 (fun _ => rfl) ?_
    refine wl_s (F' := (20, lvs i, [.ref 0, .int (Int32.ofInt i)], mk z w p)) el_19 (fun _ => rfl) ?_
    refine wl_s (F' := (21, lvs i, [.int (Int32.ofNat L), .int (Int32.ofInt i)], mk z w p)) el_20 (fun _ => rfl) ?_
    refine wl_s (F' := (23, lvs i, [.int (Int8.ofInt 6).toInt32, .int (Int32.ofNat L), .int (Int32.ofInt i)], mk z w p)) el_21 (fun _ => rfl) ?_
    rw [ofI_nat, ofI_bi (by omega) (by omega)]
    refine wl_s (F' := (24, lvs i, [.int (Int32.ofInt (L : Int) - Int32.ofInt 6), .int (Int32.ofInt i)], mk z w p)) el_23 (fun _ => rfl) ?_
    rw [ofI_sub]
    refine wl_br el_24 (by intro q; cases q) rfl rfl (ofI_lt (a := (L : Int) - 6) (b := i) ⟨by omega, by omega⟩ ⟨by omega, by omega⟩) (fun c => ?_) (fun c => ?_)
    · refine wl_s (F' := (1008, lvs i, [.int 1], mk z w p)) el_1007 (fun _ => rfl) ?_
      exact wl_e el_1008 (fun _ => rfl) (hQ z w p)
    · have nxt : ∀ z' w' p', kqI z' w' p' → wl_ L xs (1001, lvs i, [], mk z' w' p') Q := by
        intro z' w' p' I'
        refine wl_s (F' := (1004, [(3, .int (Int32.ofInt i + Int32.ofInt 6)), (2, .ref 225), (1, .ref 1), (0, .ref 0)], [], mk z' w' p')) el_1001 (fun _ => rfl) ?_
        rw [ofI_add]
        refine wl_s (F' := (18, lvs (i + 6), [], mk z' w' p')) el_1004 (fun _ => rfl) ?_
        exact ih (i + 6) z' w' p' (by omega) (by omega) (by omega) I'
      refine wl_s (F' := (28, lvs i, [.ref 0], mk z w p)) el_27 (fun _ => rfl) ?_
      refine wl_s (F' := (29, lvs i, [.int (Int32.ofInt i), .ref 0], mk z w p)) el_28 (fun _ => rfl) ?_
      refine wl_x el_29 hL h0 (by omega) ?_
      refine wl_s (F' := (32, lvs i, [.int (Int8.ofInt 31).toInt32, .int (xs i.toNat)], mk z w p)) el_30 (fun _ => rfl) ?_
      rw [ofI_bi (by omega) (by omega)]
      refine wl_s (F' := (33, lvs i, [.int (xs i.toNat &&& Int32.ofInt ((31 : Nat) : Int))], mk z w p)) el_32 (fun _ => rfl) ?_
      rw [ofI_mask (xs i.toNat) 5 (by decide) (by decide)]
      have hm0 : 0 ≤ (xs i.toNat).toInt % 2 ^ 5 := Int.emod_nonneg _ (by decide)
      have hm1 : (xs i.toNat).toInt % 2 ^ 5 < 32 := Int.emod_lt_of_pos _ (by decide)
      generalize (xs i.toNat).toInt % 2 ^ 5 = m at hm0 hm1 ⊢
      by_cases hd : m < 0 ∨ 28 < m
      · exact wl_sw (t := 1001) el_33 ⟨by omega, by omega⟩ (by rw [if_pos hd]; rfl) (nxt z w p I)
      rcases (show m = 0 ∨ m = 1 ∨ m = 2 ∨ m = 3 ∨ m = 4 ∨ m = 5 ∨ m = 6 ∨ m = 7 ∨ m = 8 ∨ m = 9 ∨ m = 10 ∨ m = 11 ∨ m = 12 ∨ m = 13 ∨ m = 14 ∨ m = 15 ∨ m = 16 ∨ m = 17 ∨ m = 18 ∨ m = 19 ∨ m = 20 ∨ m = 21 ∨ m = 22 ∨ m = 23 ∨ m = 24 ∨ m = 25 ∨ m = 26 ∨ m = 27 ∨ m = 28 by omega) with hm | hm | hm | hm | hm | hm | hm | hm | hm | hm | hm | hm | hm | hm | hm | hm | hm | hm | hm | hm | hm | hm | hm | hm | hm | hm | hm | hm | hm
      · refine wl_sw (t := 164) el_33 ⟨by omega, by omega⟩ (by rw [hm]; rfl) ?_
        exact lw_feed hL h0 (by omega) I nxt
      · refine wl_sw (t := 227) el_33 ⟨by omega, by omega⟩ (by rw [hm]; rfl) ?_
        exact lw_end hL h0 (by omega) I nxt
      · refine wl_sw (t := 250) el_33 ⟨by omega, by omega⟩ (by rw [hm]; rfl) ?_
        exact lw_ground hL h0 (by omega) I nxt
      · refine wl_sw (t := 263) el_33 ⟨by omega, by omega⟩ (by rw [hm]; rfl) ?_
        exact lw_fault hL h0 (by omega) I nxt
      · refine wl_sw (t := 286) el_33 ⟨by omega, by omega⟩ (by rw [hm]; rfl) ?_
        exact lw_point hL h0 (by omega) I nxt
      · refine wl_sw (t := 319) el_33 ⟨by omega, by omega⟩ (by rw [hm]; rfl) ?_
        exact lw_number hL h0 (by omega) I nxt
      · refine wl_sw (t := 352) el_33 ⟨by omega, by omega⟩ (by rw [hm]; rfl) ?_
        exact lw_loops hL h0 (by omega) I nxt
      · refine wl_sw (t := 385) el_33 ⟨by omega, by omega⟩ (by rw [hm]; rfl) ?_
        exact lw_traced hL h0 (by omega) I nxt
      · refine wl_sw (t := 418) el_33 ⟨by omega, by omega⟩ (by rw [hm]; rfl) ?_
        exact lw_flips hL h0 (by omega) I nxt
      · refine wl_sw (t := 441) el_33 ⟨by omega, by omega⟩ (by rw [hm]; rfl) ?_
        exact lw_flip hL h0 (by omega) I nxt
      · refine wl_sw (t := 474) el_33 ⟨by omega, by omega⟩ (by rw [hm]; rfl) ?_
        exact lw_cross hL h0 (by omega) I nxt
      · refine wl_sw (t := 507) el_33 ⟨by omega, by omega⟩ (by rw [hm]; rfl) ?_
        exact lw_across hL h0 (by omega) I nxt
      · refine wl_sw (t := 540) el_33 ⟨by omega, by omega⟩ (by rw [hm]; rfl) ?_
        exact lw_kept hL h0 (by omega) I nxt
      · refine wl_sw (t := 563) el_33 ⟨by omega, by omega⟩ (by rw [hm]; rfl) ?_
        exact lw_alike hL h0 (by omega) I nxt
      · refine wl_sw (t := 596) el_33 ⟨by omega, by omega⟩ (by rw [hm]; rfl) ?_
        exact lw_order hL h0 (by omega) I nxt
      · refine wl_sw (t := 619) el_33 ⟨by omega, by omega⟩ (by rw [hm]; rfl) ?_
        exact lw_stretch hL h0 (by omega) I nxt
      · refine wl_sw (t := 662) el_33 ⟨by omega, by omega⟩ (by rw [hm]; rfl) ?_
        exact lw_table hL h0 (by omega) I nxt
      · refine wl_sw (t := 715) el_33 ⟨by omega, by omega⟩ (by rw [hm]; rfl) ?_
        exact lw_polynomial hL h0 (by omega) I nxt
      · refine wl_sw (t := 758) el_33 ⟨by omega, by omega⟩ (by rw [hm]; rfl) ?_
        exact lw_least hL h0 (by omega) I nxt
      · refine wl_sw (t := 791) el_33 ⟨by omega, by omega⟩ (by rw [hm]; rfl) ?_
        exact lw_lies hL h0 (by omega) I nxt
      · refine wl_sw (t := 814) el_33 ⟨by omega, by omega⟩ (by rw [hm]; rfl) ?_
        exact lw_lay hL h0 (by omega) I nxt
      · refine wl_sw (t := 837) el_33 ⟨by omega, by omega⟩ (by rw [hm]; rfl) ?_
        exact lw_twist hL h0 (by omega) I nxt
      · refine wl_sw (t := 870) el_33 ⟨by omega, by omega⟩ (by rw [hm]; rfl) ?_
        exact lw_go hL h0 (by omega) I nxt
      · refine wl_sw (t := 893) el_33 ⟨by omega, by omega⟩ (by rw [hm]; rfl) ?_
        exact lw_undo hL h0 (by omega) I nxt
      · refine wl_sw (t := 906) el_33 ⟨by omega, by omega⟩ (by rw [hm]; rfl) ?_
        exact lw_redo hL h0 (by omega) I nxt
      · refine wl_sw (t := 919) el_33 ⟨by omega, by omega⟩ (by rw [hm]; rfl) ?_
        exact lw_sketch hL h0 (by omega) I nxt
      · refine wl_sw (t := 932) el_33 ⟨by omega, by omega⟩ (by rw [hm]; rfl) ?_
        exact lw_image hL h0 (by omega) I nxt
      · refine wl_sw (t := 955) el_33 ⟨by omega, by omega⟩ (by rw [hm]; rfl) ?_
        exact lw_back hL h0 (by omega) I nxt
      · refine wl_sw (t := 978) el_33 ⟨by omega, by omega⟩ (by rw [hm]; rfl) ?_
        exact lw_about hL h0 (by omega) I nxt
theorem law_all (L : Nat) (xs : Nat → Int32) (hL : L ≤ 3072) : ∃ fuel hE, pm_law2 fuel L xs = some (some (.int 1), hE) ∧ hE.length ≤ 600000 ∧ pm_sls hE ≤ 7302250 := by
  have k : wl_ L xs (0, [(0, .ref 0)], [], []) (fun R => R.1 = some (.int 1) ∧ R.2.length ≤ 600000 ∧ pm_sls R.2 ≤ 7302250) := by
    refine wl_s (F' := (3, [(0, .ref 0)], [.ref 1], ph_0)) el_0 (fun _ => (pm_step2_ne (by intro q; cases q)).trans (pm_sN rfl rfl)) ?_
    refine wl_s (F' := (4, [(0, .ref 0)], [.ref 1, .ref 1], ph_0)) el_3 (fun _ => rfl) ?_
    refine wl_i (F' := (7, [(0, .ref 0)], [.ref 1], ph_1)) el_4 (fun f hf => (pm_step2_ne (by intro q; cases q)).trans (pm_sI (k := 100) lm_101 rfl rfl (pm_call_m hf _ _ _ _ _ pc_1))) ?_
    refine wl_s (F' := (8, [(1, .ref 1), (0, .ref 0)], [], ph_1)) el_7 (fun _ => rfl) ?_
    refine wl_s (F' := (11, [(1, .ref 1), (0, .ref 0)], [.ref 225], ph_2)) el_8 (fun _ => (pm_step2_ne (by intro q; cases q)).trans (pm_sN rfl pz_1)) ?_
    refine wl_s (F' := (12, [(1, .ref 1), (0, .ref 0)], [.ref 225, .ref 225], ph_2)) el_11 (fun _ => rfl) ?_
    refine wl_i (F' := (15, [(1, .ref 1), (0, .ref 0)], [.ref 225], ph_3)) el_12 (fun f hf => (pm_step2_ne (by intro q; cases q)).trans (pm_sI (k := 144) lm_145 rfl rfl (pm_call_m hf _ _ _ _ _ pc_3))) ?_
    refine wl_s (F' := (16, [(2, .ref 225), (1, .ref 1), (0, .ref 0)], [], ph_3)) el_15 (fun _ => rfl) ?_
    refine wl_s (F' := (17, [(2, .ref 225), (1, .ref 1), (0, .ref 0)], [.int (Int32.ofInt 0)], ph_3)) el_16 (fun _ => rfl) ?_
    refine wl_s (F' := (18, lvs 0, [], ph_3)) el_17 (fun _ => rfl) ?_
    rw [ph_3_mk]
    have hz : rz (xz ph_3) := kq_rz kq_3z
    have hw : rw_ (xw ph_3) := kq_rw kq_3w
    have hC := kq_C0 (tx := xp ph_3 3 2) (it := xp ph_3 3 4) (tt := xp ph_3 4 7) (ct := xp ph_3 33 1) hz hw kq_3v.1
    rw [← kq_3p] at hC
    exact lwq_all hL (fun z w p => ⟨rfl, kq_room z w p⟩) (L + 1) 0 _ _ _ (by omega) (by omega) (by omega) ⟨hC, kq_R0 hz hw kq_3v.2.1, by rw [kq_3v.1.2.2.2.2.2.2.2, kq_3v.2.1.2.2.2.2.2], kqX_0 (t := 159) (kq_L0 ⟨kq_3v.1.2.2.2.1, kq_3v.1.2.2.2.2.1, kq_3v.1.2.2.2.2.2.1, kq_3v.2.1.2.2.2.1, kq_3v.2.1.2.2.2.2.1⟩ kq_3L) kq_3v.2.2.1 (Or.inl rfl) (by rw [kq_3x.1, kq_3x.2.2.1]) (by rw [kq_3x.2.1, kq_3x.2.2.2]) kq_3v.2.1.2.2.2.2.2 kq_3v.1.1 kq_3v.1.2.2.1 kq_3y.2.1 kq_3y.1 kq_3v.2.1.1 kq_3v.2.1.2.1 kq_3v.2.1.2.2.1 kq_3y.2.2⟩
  obtain ⟨n, g, ⟨v, hE⟩, k1, k2, k3, k4⟩ := k
  have k2 : v = some (.int 1) := k2
  subst k2
  refine ⟨max g n, hE, ?_, k3, k4⟩
  have e := k1 (max g n) (by omega) (max g n - n)
  rw [show max g n - n + n = max g n by omega] at e
  exact e
