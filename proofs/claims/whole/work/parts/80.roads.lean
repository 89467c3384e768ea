theorem vr_55 : vrc 55 = some (5, 1) := by decide +kernel
theorem vr_56 : vrc 56 = some (5, 0) := by decide +kernel
theorem vr_57 : vrc 57 = some (5, 1) := by decide +kernel
theorem vr_58 : vrc 58 = some (5, 1) := by decide +kernel
theorem vr_59 : vrc 59 = some (5, 2) := by decide +kernel
theorem vr_60 : vrc 60 = some (5, 2) := by decide +kernel
theorem vr_61 : vrc 61 = some (5, 2) := by decide +kernel
theorem vr_62 : vrc 62 = some (5, 2) := by decide +kernel
theorem vr_63 : vrc 63 = some (5, 2) := by decide +kernel
theorem vr_64 : vrc 64 = some (5, 2) := by decide +kernel
theorem vr_65 : vrc 65 = some (5, 2) := by decide +kernel
theorem vr_66 : vrc 66 = some (5, 3) := by decide +kernel
theorem vr_67 : vrc 67 = some (5, 1) := by decide +kernel
theorem vr_68 : vrc 68 = some (5, 1) := by decide +kernel
theorem vr_69 : vrc 69 = some (5, 3) := by decide +kernel
theorem vr_70 : vrc 70 = some (5, 2) := by decide +kernel
theorem vr_71 : vrc 71 = some (5, 2) := by decide +kernel
theorem vr_72 : vrc 72 = some (5, 2) := by decide +kernel
theorem vr_73 : vrc 73 = some (5, 3) := by decide +kernel
theorem vr_74 : vrc 74 = some (5, 3) := by decide +kernel
theorem vr_75 : vrc 75 = some (5, 3) := by decide +kernel
theorem vr_76 : vrc 76 = some (5, 4) := by decide +kernel
theorem vr_77 : vrc 77 = some (5, 1) := by decide +kernel
theorem vr_78 : vrc 78 = some (5, 2) := by decide +kernel
theorem vr_79 : vrc 79 = some (5, 2) := by decide +kernel
theorem vr_80 : vrc 80 = some (5, 3) := by decide +kernel
theorem vr_81 : vrc 81 = some (5, 2) := by decide +kernel
theorem vr_82 : vrc 82 = some (5, 5) := by decide +kernel
theorem vr_83 : vrc 83 = some (5, 4) := by decide +kernel
theorem vr_84 : vrc 84 = some (5, 4) := by decide +kernel
theorem vr_85 : vrc 85 = some (5, 0) := by decide +kernel
theorem vr_86 : vrc 86 = some (5, 0) := by decide +kernel
theorem vr_108 : vrc 108 = some (6, 1) := by decide +kernel
theorem vr_109 : vrc 109 = some (6, 0) := by decide +kernel
theorem vr_126 : vrc 126 = some (6, 1) := by decide +kernel
theorem vr_127 : vrc 127 = some (6, 1) := by decide +kernel
theorem vr_128 : vrc 128 = some (6, 2) := by decide +kernel
theorem vr_130 : vrc 130 = some (6, 2) := by decide +kernel
theorem vr_131 : vrc 131 = some (6, 2) := by decide +kernel
theorem vr_133 : vrc 133 = some (6, 2) := by decide +kernel
theorem vr_135 : vrc 135 = some (6, 2) := by decide +kernel
theorem vr_136 : vrc 136 = some (6, 2) := by decide +kernel
theorem vr_138 : vrc 138 = some (6, 2) := by decide +kernel
theorem vr_141 : vrc 141 = some (6, 3) := by decide +kernel
theorem vr_142 : vrc 142 = some (6, 1) := by decide +kernel
theorem vr_143 : vrc 143 = some (6, 1) := by decide +kernel
theorem vr_144 : vrc 144 = some (6, 3) := by decide +kernel
theorem vr_145 : vrc 145 = some (6, 2) := by decide +kernel
theorem vr_149 : vrc 149 = some (6, 2) := by decide +kernel
theorem vr_150 : vrc 150 = some (6, 2) := by decide +kernel
theorem vr_152 : vrc 152 = some (6, 3) := by decide +kernel
theorem vr_153 : vrc 153 = some (6, 3) := by decide +kernel
theorem vr_155 : vrc 155 = some (6, 3) := by decide +kernel
theorem vr_156 : vrc 156 = some (6, 4) := by decide +kernel
theorem vr_158 : vrc 158 = some (6, 2) := by decide +kernel
theorem vr_160 : vrc 160 = some (6, 2) := by decide +kernel
theorem vr_161 : vrc 161 = some (6, 3) := by decide +kernel
theorem vr_162 : vrc 162 = some (6, 2) := by decide +kernel
theorem vr_163 : vrc 163 = some (6, 5) := by decide +kernel
theorem vr_165 : vrc 165 = some (6, 4) := by decide +kernel
theorem vr_166 : vrc 166 = some (6, 4) := by decide +kernel
theorem vr_167 : vrc 167 = some (6, 0) := by decide +kernel
theorem vr_168 : vrc 168 = some (6, 0) := by decide +kernel
theorem c171_176 : vlk 171 176 = some (6, 1, 0, 0, 177) := by decide +kernel
theorem c171_177 : vlk 171 177 = some (6, 0, 0, 0, 178) := by decide +kernel
theorem c171_178 : vlk 171 178 = some (4, 3, 0, 0, 179) := by decide +kernel
theorem c171_179 : vlk 171 179 = some (1, 0, 0, 1, 180) := by decide +kernel
theorem c171_180 : vlk 171 180 = some (11, 0, 0, 0, 181) := by decide +kernel
theorem c171_181 : vlk 171 181 = some (45, 0, 0, 0, 182) := by decide +kernel
theorem c171_182 : vlk 171 182 = some (58, 55, 0, 0, 185) := by decide +kernel
theorem c171_185 : vlk 171 185 = some (6, 2, 0, 0, 186) := by decide +kernel
theorem c171_186 : vlk 171 186 = some (6, 0, 0, 0, 187) := by decide +kernel
theorem c171_187 : vlk 171 187 = some (4, 3, 0, 0, 188) := by decide +kernel
theorem c171_188 : vlk 171 188 = some (1, 0, 0, 1, 189) := by decide +kernel
theorem c171_189 : vlk 171 189 = some (11, 0, 0, 0, 190) := by decide +kernel
theorem c171_190 : vlk 171 190 = some (45, 0, 0, 0, 191) := by decide +kernel
theorem c171_191 : vlk 171 191 = some (58, 108, 0, 0, 194) := by decide +kernel
theorem c171_194 : vlk 171 194 = some (76, 1262, 0, 0, 197) := by decide +kernel
theorem c171_199 : vlk 171 199 = some (6, 1, 0, 0, 200) := by decide +kernel
theorem c171_200 : vlk 171 200 = some (58, 56, 0, 0, 203) := by decide +kernel
theorem c171_203 : vlk 171 203 = some (6, 2, 0, 0, 204) := by decide +kernel
theorem c171_204 : vlk 171 204 = some (58, 109, 0, 0, 207) := by decide +kernel
theorem c171_207 : vlk 171 207 = some (76, 1262, 0, 0, 210) := by decide +kernel
theorem c171_212 : vlk 171 212 = some (6, 1, 0, 0, 213) := by decide +kernel
theorem c171_213 : vlk 171 213 = some (6, 0, 0, 0, 214) := by decide +kernel
theorem c171_214 : vlk 171 214 = some (4, 3, 0, 0, 215) := by decide +kernel
theorem c171_215 : vlk 171 215 = some (1, 0, 0, 1, 216) := by decide +kernel
theorem c171_216 : vlk 171 216 = some (11, 0, 0, 0, 217) := by decide +kernel
theorem c171_217 : vlk 171 217 = some (45, 0, 0, 0, 218) := by decide +kernel
theorem c171_218 : vlk 171 218 = some (58, 57, 0, 0, 221) := by decide +kernel
theorem c171_221 : vlk 171 221 = some (6, 2, 0, 0, 222) := by decide +kernel
theorem c171_222 : vlk 171 222 = some (6, 0, 0, 0, 223) := by decide +kernel
theorem c171_223 : vlk 171 223 = some (4, 3, 0, 0, 224) := by decide +kernel
theorem c171_224 : vlk 171 224 = some (1, 0, 0, 1, 225) := by decide +kernel
theorem c171_225 : vlk 171 225 = some (11, 0, 0, 0, 226) := by decide +kernel
theorem c171_226 : vlk 171 226 = some (45, 0, 0, 0, 227) := by decide +kernel
theorem c171_227 : vlk 171 227 = some (58, 126, 0, 0, 230) := by decide +kernel
theorem c171_230 : vlk 171 230 = some (76, 1262, 0, 0, 233) := by decide +kernel
theorem c171_235 : vlk 171 235 = some (6, 1, 0, 0, 236) := by decide +kernel
theorem c171_236 : vlk 171 236 = some (6, 0, 0, 0, 237) := by decide +kernel
theorem c171_237 : vlk 171 237 = some (4, 3, 0, 0, 238) := by decide +kernel
theorem c171_238 : vlk 171 238 = some (1, 0, 0, 1, 239) := by decide +kernel
theorem c171_239 : vlk 171 239 = some (11, 0, 0, 0, 240) := by decide +kernel
theorem c171_240 : vlk 171 240 = some (45, 0, 0, 0, 241) := by decide +kernel
theorem c171_241 : vlk 171 241 = some (58, 58, 0, 0, 244) := by decide +kernel
theorem c171_244 : vlk 171 244 = some (6, 2, 0, 0, 245) := by decide +kernel
theorem c171_245 : vlk 171 245 = some (6, 0, 0, 0, 246) := by decide +kernel
theorem c171_246 : vlk 171 246 = some (4, 3, 0, 0, 247) := by decide +kernel
theorem c171_247 : vlk 171 247 = some (1, 0, 0, 1, 248) := by decide +kernel
theorem c171_248 : vlk 171 248 = some (11, 0, 0, 0, 249) := by decide +kernel
theorem c171_249 : vlk 171 249 = some (45, 0, 0, 0, 250) := by decide +kernel
theorem c171_250 : vlk 171 250 = some (58, 127, 0, 0, 253) := by decide +kernel
theorem c171_253 : vlk 171 253 = some (76, 1262, 0, 0, 256) := by decide +kernel
theorem c171_258 : vlk 171 258 = some (6, 1, 0, 0, 259) := by decide +kernel
theorem c171_259 : vlk 171 259 = some (6, 0, 0, 0, 260) := by decide +kernel
theorem c171_260 : vlk 171 260 = some (4, 3, 0, 0, 261) := by decide +kernel
theorem c171_261 : vlk 171 261 = some (1, 0, 0, 1, 262) := by decide +kernel
theorem c171_262 : vlk 171 262 = some (11, 0, 0, 0, 263) := by decide +kernel
theorem c171_263 : vlk 171 263 = some (45, 0, 0, 0, 264) := by decide +kernel
theorem c171_264 : vlk 171 264 = some (6, 0, 0, 0, 265) := by decide +kernel
theorem c171_265 : vlk 171 265 = some (4, 3, 0, 0, 266) := by decide +kernel
theorem c171_266 : vlk 171 266 = some (1, 0, 0, 2, 267) := by decide +kernel
theorem c171_267 : vlk 171 267 = some (11, 0, 0, 0, 268) := by decide +kernel
theorem c171_268 : vlk 171 268 = some (45, 0, 0, 0, 269) := by decide +kernel
theorem c171_269 : vlk 171 269 = some (58, 59, 0, 0, 272) := by decide +kernel
theorem c171_272 : vlk 171 272 = some (6, 2, 0, 0, 273) := by decide +kernel
theorem c171_273 : vlk 171 273 = some (6, 0, 0, 0, 274) := by decide +kernel
theorem c171_274 : vlk 171 274 = some (4, 3, 0, 0, 275) := by decide +kernel
theorem c171_275 : vlk 171 275 = some (1, 0, 0, 1, 276) := by decide +kernel
theorem c171_276 : vlk 171 276 = some (11, 0, 0, 0, 277) := by decide +kernel
theorem c171_277 : vlk 171 277 = some (45, 0, 0, 0, 278) := by decide +kernel
theorem c171_278 : vlk 171 278 = some (6, 0, 0, 0, 279) := by decide +kernel
theorem c171_279 : vlk 171 279 = some (4, 3, 0, 0, 280) := by decide +kernel
theorem c171_280 : vlk 171 280 = some (1, 0, 0, 2, 281) := by decide +kernel
theorem c171_281 : vlk 171 281 = some (11, 0, 0, 0, 282) := by decide +kernel
theorem c171_282 : vlk 171 282 = some (45, 0, 0, 0, 283) := by decide +kernel
theorem c171_283 : vlk 171 283 = some (58, 128, 0, 0, 286) := by decide +kernel
theorem c171_286 : vlk 171 286 = some (76, 1262, 0, 0, 289) := by decide +kernel
theorem c171_291 : vlk 171 291 = some (6, 1, 0, 0, 292) := by decide +kernel
theorem c171_292 : vlk 171 292 = some (6, 0, 0, 0, 293) := by decide +kernel
theorem c171_293 : vlk 171 293 = some (4, 3, 0, 0, 294) := by decide +kernel
theorem c171_294 : vlk 171 294 = some (1, 0, 0, 1, 295) := by decide +kernel
theorem c171_295 : vlk 171 295 = some (11, 0, 0, 0, 296) := by decide +kernel
theorem c171_296 : vlk 171 296 = some (45, 0, 0, 0, 297) := by decide +kernel
theorem c171_297 : vlk 171 297 = some (6, 0, 0, 0, 298) := by decide +kernel
theorem c171_298 : vlk 171 298 = some (4, 3, 0, 0, 299) := by decide +kernel
theorem c171_299 : vlk 171 299 = some (1, 0, 0, 2, 300) := by decide +kernel
theorem c171_300 : vlk 171 300 = some (11, 0, 0, 0, 301) := by decide +kernel
theorem c171_301 : vlk 171 301 = some (45, 0, 0, 0, 302) := by decide +kernel
theorem c171_302 : vlk 171 302 = some (58, 60, 0, 0, 305) := by decide +kernel
theorem c171_305 : vlk 171 305 = some (6, 2, 0, 0, 306) := by decide +kernel
theorem c171_306 : vlk 171 306 = some (6, 0, 0, 0, 307) := by decide +kernel
theorem c171_307 : vlk 171 307 = some (4, 3, 0, 0, 308) := by decide +kernel
theorem c171_308 : vlk 171 308 = some (1, 0, 0, 1, 309) := by decide +kernel
theorem c171_309 : vlk 171 309 = some (11, 0, 0, 0, 310) := by decide +kernel
theorem c171_310 : vlk 171 310 = some (45, 0, 0, 0, 311) := by decide +kernel
theorem c171_311 : vlk 171 311 = some (6, 0, 0, 0, 312) := by decide +kernel
theorem c171_312 : vlk 171 312 = some (4, 3, 0, 0, 313) := by decide +kernel
theorem c171_313 : vlk 171 313 = some (1, 0, 0, 2, 314) := by decide +kernel
theorem c171_314 : vlk 171 314 = some (11, 0, 0, 0, 315) := by decide +kernel
theorem c171_315 : vlk 171 315 = some (45, 0, 0, 0, 316) := by decide +kernel
theorem c171_316 : vlk 171 316 = some (58, 130, 0, 0, 319) := by decide +kernel
theorem c171_319 : vlk 171 319 = some (76, 1262, 0, 0, 322) := by decide +kernel
theorem c171_324 : vlk 171 324 = some (6, 1, 0, 0, 325) := by decide +kernel
theorem c171_325 : vlk 171 325 = some (6, 0, 0, 0, 326) := by decide +kernel
theorem c171_326 : vlk 171 326 = some (4, 3, 0, 0, 327) := by decide +kernel
theorem c171_327 : vlk 171 327 = some (1, 0, 0, 1, 328) := by decide +kernel
theorem c171_328 : vlk 171 328 = some (11, 0, 0, 0, 329) := by decide +kernel
theorem c171_329 : vlk 171 329 = some (45, 0, 0, 0, 330) := by decide +kernel
theorem c171_330 : vlk 171 330 = some (6, 0, 0, 0, 331) := by decide +kernel
theorem c171_331 : vlk 171 331 = some (4, 3, 0, 0, 332) := by decide +kernel
theorem c171_332 : vlk 171 332 = some (1, 0, 0, 2, 333) := by decide +kernel
theorem c171_333 : vlk 171 333 = some (11, 0, 0, 0, 334) := by decide +kernel
theorem c171_334 : vlk 171 334 = some (45, 0, 0, 0, 335) := by decide +kernel
theorem c171_335 : vlk 171 335 = some (58, 61, 0, 0, 338) := by decide +kernel
theorem c171_338 : vlk 171 338 = some (6, 2, 0, 0, 339) := by decide +kernel
theorem c171_339 : vlk 171 339 = some (6, 0, 0, 0, 340) := by decide +kernel
theorem c171_340 : vlk 171 340 = some (4, 3, 0, 0, 341) := by decide +kernel
theorem c171_341 : vlk 171 341 = some (1, 0, 0, 1, 342) := by decide +kernel
theorem c171_342 : vlk 171 342 = some (11, 0, 0, 0, 343) := by decide +kernel
theorem c171_343 : vlk 171 343 = some (45, 0, 0, 0, 344) := by decide +kernel
theorem c171_344 : vlk 171 344 = some (6, 0, 0, 0, 345) := by decide +kernel
theorem c171_345 : vlk 171 345 = some (4, 3, 0, 0, 346) := by decide +kernel
theorem c171_346 : vlk 171 346 = some (1, 0, 0, 2, 347) := by decide +kernel
theorem c171_347 : vlk 171 347 = some (11, 0, 0, 0, 348) := by decide +kernel
theorem c171_348 : vlk 171 348 = some (45, 0, 0, 0, 349) := by decide +kernel
theorem c171_349 : vlk 171 349 = some (58, 131, 0, 0, 352) := by decide +kernel
theorem c171_352 : vlk 171 352 = some (76, 1262, 0, 0, 355) := by decide +kernel
theorem c171_357 : vlk 171 357 = some (6, 1, 0, 0, 358) := by decide +kernel
theorem c171_358 : vlk 171 358 = some (6, 0, 0, 0, 359) := by decide +kernel
theorem c171_359 : vlk 171 359 = some (4, 3, 0, 0, 360) := by decide +kernel
theorem c171_360 : vlk 171 360 = some (1, 0, 0, 1, 361) := by decide +kernel
theorem c171_361 : vlk 171 361 = some (11, 0, 0, 0, 362) := by decide +kernel
theorem c171_362 : vlk 171 362 = some (45, 0, 0, 0, 363) := by decide +kernel
theorem c171_363 : vlk 171 363 = some (6, 0, 0, 0, 364) := by decide +kernel
theorem c171_364 : vlk 171 364 = some (4, 3, 0, 0, 365) := by decide +kernel
theorem c171_365 : vlk 171 365 = some (1, 0, 0, 2, 366) := by decide +kernel
theorem c171_366 : vlk 171 366 = some (11, 0, 0, 0, 367) := by decide +kernel
theorem c171_367 : vlk 171 367 = some (45, 0, 0, 0, 368) := by decide +kernel
theorem c171_368 : vlk 171 368 = some (58, 62, 0, 0, 371) := by decide +kernel
theorem c171_371 : vlk 171 371 = some (6, 2, 0, 0, 372) := by decide +kernel
theorem c171_372 : vlk 171 372 = some (6, 0, 0, 0, 373) := by decide +kernel
theorem c171_373 : vlk 171 373 = some (4, 3, 0, 0, 374) := by decide +kernel
theorem c171_374 : vlk 171 374 = some (1, 0, 0, 1, 375) := by decide +kernel
theorem c171_375 : vlk 171 375 = some (11, 0, 0, 0, 376) := by decide +kernel
theorem c171_376 : vlk 171 376 = some (45, 0, 0, 0, 377) := by decide +kernel
theorem c171_377 : vlk 171 377 = some (6, 0, 0, 0, 378) := by decide +kernel
theorem c171_378 : vlk 171 378 = some (4, 3, 0, 0, 379) := by decide +kernel
theorem c171_379 : vlk 171 379 = some (1, 0, 0, 2, 380) := by decide +kernel
theorem c171_380 : vlk 171 380 = some (11, 0, 0, 0, 381) := by decide +kernel
theorem c171_381 : vlk 171 381 = some (45, 0, 0, 0, 382) := by decide +kernel
theorem c171_382 : vlk 171 382 = some (58, 133, 0, 0, 385) := by decide +kernel
theorem c171_385 : vlk 171 385 = some (76, 1262, 0, 0, 388) := by decide +kernel
theorem c171_390 : vlk 171 390 = some (6, 1, 0, 0, 391) := by decide +kernel
theorem c171_391 : vlk 171 391 = some (6, 0, 0, 0, 392) := by decide +kernel
theorem c171_392 : vlk 171 392 = some (4, 3, 0, 0, 393) := by decide +kernel
theorem c171_393 : vlk 171 393 = some (1, 0, 0, 1, 394) := by decide +kernel
theorem c171_394 : vlk 171 394 = some (11, 0, 0, 0, 395) := by decide +kernel
theorem c171_395 : vlk 171 395 = some (45, 0, 0, 0, 396) := by decide +kernel
theorem c171_396 : vlk 171 396 = some (6, 0, 0, 0, 397) := by decide +kernel
theorem c171_397 : vlk 171 397 = some (4, 3, 0, 0, 398) := by decide +kernel
theorem c171_398 : vlk 171 398 = some (1, 0, 0, 2, 399) := by decide +kernel
theorem c171_399 : vlk 171 399 = some (11, 0, 0, 0, 400) := by decide +kernel
theorem c171_400 : vlk 171 400 = some (45, 0, 0, 0, 401) := by decide +kernel
theorem c171_401 : vlk 171 401 = some (58, 63, 0, 0, 404) := by decide +kernel
theorem c171_404 : vlk 171 404 = some (6, 2, 0, 0, 405) := by decide +kernel
theorem c171_405 : vlk 171 405 = some (6, 0, 0, 0, 406) := by decide +kernel
theorem c171_406 : vlk 171 406 = some (4, 3, 0, 0, 407) := by decide +kernel
theorem c171_407 : vlk 171 407 = some (1, 0, 0, 1, 408) := by decide +kernel
theorem c171_408 : vlk 171 408 = some (11, 0, 0, 0, 409) := by decide +kernel
theorem c171_409 : vlk 171 409 = some (45, 0, 0, 0, 410) := by decide +kernel
theorem c171_410 : vlk 171 410 = some (6, 0, 0, 0, 411) := by decide +kernel
theorem c171_411 : vlk 171 411 = some (4, 3, 0, 0, 412) := by decide +kernel
theorem c171_412 : vlk 171 412 = some (1, 0, 0, 2, 413) := by decide +kernel
theorem c171_413 : vlk 171 413 = some (11, 0, 0, 0, 414) := by decide +kernel
theorem c171_414 : vlk 171 414 = some (45, 0, 0, 0, 415) := by decide +kernel
theorem c171_415 : vlk 171 415 = some (58, 135, 0, 0, 418) := by decide +kernel
theorem c171_418 : vlk 171 418 = some (76, 1262, 0, 0, 421) := by decide +kernel
theorem c171_423 : vlk 171 423 = some (6, 1, 0, 0, 424) := by decide +kernel
theorem c171_424 : vlk 171 424 = some (6, 0, 0, 0, 425) := by decide +kernel
theorem c171_425 : vlk 171 425 = some (4, 3, 0, 0, 426) := by decide +kernel
theorem c171_426 : vlk 171 426 = some (1, 0, 0, 1, 427) := by decide +kernel
theorem c171_427 : vlk 171 427 = some (11, 0, 0, 0, 428) := by decide +kernel
theorem c171_428 : vlk 171 428 = some (45, 0, 0, 0, 429) := by decide +kernel
theorem c171_429 : vlk 171 429 = some (6, 0, 0, 0, 430) := by decide +kernel
theorem c171_430 : vlk 171 430 = some (4, 3, 0, 0, 431) := by decide +kernel
theorem c171_431 : vlk 171 431 = some (1, 0, 0, 2, 432) := by decide +kernel
theorem c171_432 : vlk 171 432 = some (11, 0, 0, 0, 433) := by decide +kernel
theorem c171_433 : vlk 171 433 = some (45, 0, 0, 0, 434) := by decide +kernel
theorem c171_434 : vlk 171 434 = some (58, 64, 0, 0, 437) := by decide +kernel
theorem c171_437 : vlk 171 437 = some (6, 2, 0, 0, 438) := by decide +kernel
theorem c171_438 : vlk 171 438 = some (6, 0, 0, 0, 439) := by decide +kernel
theorem c171_439 : vlk 171 439 = some (4, 3, 0, 0, 440) := by decide +kernel
theorem c171_440 : vlk 171 440 = some (1, 0, 0, 1, 441) := by decide +kernel
theorem c171_441 : vlk 171 441 = some (11, 0, 0, 0, 442) := by decide +kernel
theorem c171_442 : vlk 171 442 = some (45, 0, 0, 0, 443) := by decide +kernel
theorem c171_443 : vlk 171 443 = some (6, 0, 0, 0, 444) := by decide +kernel
theorem c171_444 : vlk 171 444 = some (4, 3, 0, 0, 445) := by decide +kernel
theorem c171_445 : vlk 171 445 = some (1, 0, 0, 2, 446) := by decide +kernel
theorem c171_446 : vlk 171 446 = some (11, 0, 0, 0, 447) := by decide +kernel
theorem c171_447 : vlk 171 447 = some (45, 0, 0, 0, 448) := by decide +kernel
theorem c171_448 : vlk 171 448 = some (58, 136, 0, 0, 451) := by decide +kernel
theorem c171_451 : vlk 171 451 = some (76, 1262, 0, 0, 454) := by decide +kernel
theorem c171_456 : vlk 171 456 = some (6, 1, 0, 0, 457) := by decide +kernel
theorem c171_457 : vlk 171 457 = some (6, 0, 0, 0, 458) := by decide +kernel
theorem c171_458 : vlk 171 458 = some (4, 3, 0, 0, 459) := by decide +kernel
theorem c171_459 : vlk 171 459 = some (1, 0, 0, 1, 460) := by decide +kernel
theorem c171_460 : vlk 171 460 = some (11, 0, 0, 0, 461) := by decide +kernel
theorem c171_461 : vlk 171 461 = some (45, 0, 0, 0, 462) := by decide +kernel
theorem c171_462 : vlk 171 462 = some (6, 0, 0, 0, 463) := by decide +kernel
theorem c171_463 : vlk 171 463 = some (4, 3, 0, 0, 464) := by decide +kernel
theorem c171_464 : vlk 171 464 = some (1, 0, 0, 2, 465) := by decide +kernel
theorem c171_465 : vlk 171 465 = some (11, 0, 0, 0, 466) := by decide +kernel
theorem c171_466 : vlk 171 466 = some (45, 0, 0, 0, 467) := by decide +kernel
theorem c171_467 : vlk 171 467 = some (58, 65, 0, 0, 470) := by decide +kernel
theorem c171_470 : vlk 171 470 = some (6, 2, 0, 0, 471) := by decide +kernel
theorem c171_471 : vlk 171 471 = some (6, 0, 0, 0, 472) := by decide +kernel
theorem c171_472 : vlk 171 472 = some (4, 3, 0, 0, 473) := by decide +kernel
theorem c171_473 : vlk 171 473 = some (1, 0, 0, 1, 474) := by decide +kernel
theorem c171_474 : vlk 171 474 = some (11, 0, 0, 0, 475) := by decide +kernel
theorem c171_475 : vlk 171 475 = some (45, 0, 0, 0, 476) := by decide +kernel
theorem c171_476 : vlk 171 476 = some (6, 0, 0, 0, 477) := by decide +kernel
theorem c171_477 : vlk 171 477 = some (4, 3, 0, 0, 478) := by decide +kernel
theorem c171_478 : vlk 171 478 = some (1, 0, 0, 2, 479) := by decide +kernel
theorem c171_479 : vlk 171 479 = some (11, 0, 0, 0, 480) := by decide +kernel
theorem c171_480 : vlk 171 480 = some (45, 0, 0, 0, 481) := by decide +kernel
theorem c171_481 : vlk 171 481 = some (58, 138, 0, 0, 484) := by decide +kernel
theorem c171_484 : vlk 171 484 = some (76, 1262, 0, 0, 487) := by decide +kernel
theorem c171_489 : vlk 171 489 = some (6, 1, 0, 0, 490) := by decide +kernel
theorem c171_490 : vlk 171 490 = some (6, 0, 0, 0, 491) := by decide +kernel
theorem c171_491 : vlk 171 491 = some (4, 3, 0, 0, 492) := by decide +kernel
theorem c171_492 : vlk 171 492 = some (1, 0, 0, 1, 493) := by decide +kernel
theorem c171_493 : vlk 171 493 = some (11, 0, 0, 0, 494) := by decide +kernel
theorem c171_494 : vlk 171 494 = some (45, 0, 0, 0, 495) := by decide +kernel
theorem c171_495 : vlk 171 495 = some (6, 0, 0, 0, 496) := by decide +kernel
theorem c171_496 : vlk 171 496 = some (4, 3, 0, 0, 497) := by decide +kernel
theorem c171_497 : vlk 171 497 = some (1, 0, 0, 2, 498) := by decide +kernel
theorem c171_498 : vlk 171 498 = some (11, 0, 0, 0, 499) := by decide +kernel
theorem c171_499 : vlk 171 499 = some (45, 0, 0, 0, 500) := by decide +kernel
theorem c171_500 : vlk 171 500 = some (6, 0, 0, 0, 501) := by decide +kernel
theorem c171_501 : vlk 171 501 = some (4, 3, 0, 0, 502) := by decide +kernel
theorem c171_502 : vlk 171 502 = some (1, 0, 0, 3, 503) := by decide +kernel
theorem c171_503 : vlk 171 503 = some (11, 0, 0, 0, 504) := by decide +kernel
theorem c171_504 : vlk 171 504 = some (45, 0, 0, 0, 505) := by decide +kernel
theorem c171_505 : vlk 171 505 = some (58, 66, 0, 0, 508) := by decide +kernel
theorem c171_508 : vlk 171 508 = some (6, 2, 0, 0, 509) := by decide +kernel
theorem c171_509 : vlk 171 509 = some (6, 0, 0, 0, 510) := by decide +kernel
theorem c171_510 : vlk 171 510 = some (4, 3, 0, 0, 511) := by decide +kernel
theorem c171_511 : vlk 171 511 = some (1, 0, 0, 1, 512) := by decide +kernel
theorem c171_512 : vlk 171 512 = some (11, 0, 0, 0, 513) := by decide +kernel
theorem c171_513 : vlk 171 513 = some (45, 0, 0, 0, 514) := by decide +kernel
theorem c171_514 : vlk 171 514 = some (6, 0, 0, 0, 515) := by decide +kernel
theorem c171_515 : vlk 171 515 = some (4, 3, 0, 0, 516) := by decide +kernel
theorem c171_516 : vlk 171 516 = some (1, 0, 0, 2, 517) := by decide +kernel
theorem c171_517 : vlk 171 517 = some (11, 0, 0, 0, 518) := by decide +kernel
theorem c171_518 : vlk 171 518 = some (45, 0, 0, 0, 519) := by decide +kernel
theorem c171_519 : vlk 171 519 = some (6, 0, 0, 0, 520) := by decide +kernel
theorem c171_520 : vlk 171 520 = some (4, 3, 0, 0, 521) := by decide +kernel
theorem c171_521 : vlk 171 521 = some (1, 0, 0, 3, 522) := by decide +kernel
theorem c171_522 : vlk 171 522 = some (11, 0, 0, 0, 523) := by decide +kernel
theorem c171_523 : vlk 171 523 = some (45, 0, 0, 0, 524) := by decide +kernel
theorem c171_524 : vlk 171 524 = some (58, 141, 0, 0, 527) := by decide +kernel
theorem c171_527 : vlk 171 527 = some (76, 1262, 0, 0, 530) := by decide +kernel
theorem c171_532 : vlk 171 532 = some (6, 1, 0, 0, 533) := by decide +kernel
theorem c171_533 : vlk 171 533 = some (6, 0, 0, 0, 534) := by decide +kernel
theorem c171_534 : vlk 171 534 = some (4, 3, 0, 0, 535) := by decide +kernel
theorem c171_535 : vlk 171 535 = some (1, 0, 0, 1, 536) := by decide +kernel
theorem c171_536 : vlk 171 536 = some (11, 0, 0, 0, 537) := by decide +kernel
theorem c171_537 : vlk 171 537 = some (45, 0, 0, 0, 538) := by decide +kernel
theorem c171_538 : vlk 171 538 = some (58, 67, 0, 0, 541) := by decide +kernel
theorem c171_541 : vlk 171 541 = some (6, 2, 0, 0, 542) := by decide +kernel
theorem c171_542 : vlk 171 542 = some (6, 0, 0, 0, 543) := by decide +kernel
theorem c171_543 : vlk 171 543 = some (4, 3, 0, 0, 544) := by decide +kernel
theorem c171_544 : vlk 171 544 = some (1, 0, 0, 1, 545) := by decide +kernel
theorem c171_545 : vlk 171 545 = some (11, 0, 0, 0, 546) := by decide +kernel
theorem c171_546 : vlk 171 546 = some (45, 0, 0, 0, 547) := by decide +kernel
theorem c171_547 : vlk 171 547 = some (58, 142, 0, 0, 550) := by decide +kernel
theorem c171_550 : vlk 171 550 = some (76, 1262, 0, 0, 553) := by decide +kernel
theorem c171_555 : vlk 171 555 = some (6, 1, 0, 0, 556) := by decide +kernel
theorem c171_556 : vlk 171 556 = some (6, 0, 0, 0, 557) := by decide +kernel
theorem c171_557 : vlk 171 557 = some (4, 3, 0, 0, 558) := by decide +kernel
theorem c171_558 : vlk 171 558 = some (1, 0, 0, 1, 559) := by decide +kernel
theorem c171_559 : vlk 171 559 = some (11, 0, 0, 0, 560) := by decide +kernel
theorem c171_560 : vlk 171 560 = some (45, 0, 0, 0, 561) := by decide +kernel
theorem c171_561 : vlk 171 561 = some (58, 68, 0, 0, 564) := by decide +kernel
theorem c171_564 : vlk 171 564 = some (6, 2, 0, 0, 565) := by decide +kernel
theorem c171_565 : vlk 171 565 = some (6, 0, 0, 0, 566) := by decide +kernel
theorem c171_566 : vlk 171 566 = some (4, 3, 0, 0, 567) := by decide +kernel
theorem c171_567 : vlk 171 567 = some (1, 0, 0, 1, 568) := by decide +kernel
theorem c171_568 : vlk 171 568 = some (11, 0, 0, 0, 569) := by decide +kernel
theorem c171_569 : vlk 171 569 = some (45, 0, 0, 0, 570) := by decide +kernel
theorem c171_570 : vlk 171 570 = some (58, 143, 0, 0, 573) := by decide +kernel
theorem c171_573 : vlk 171 573 = some (76, 1262, 0, 0, 576) := by decide +kernel
theorem c171_578 : vlk 171 578 = some (6, 1, 0, 0, 579) := by decide +kernel
theorem c171_579 : vlk 171 579 = some (6, 0, 0, 0, 580) := by decide +kernel
theorem c171_580 : vlk 171 580 = some (4, 3, 0, 0, 581) := by decide +kernel
theorem c171_581 : vlk 171 581 = some (1, 0, 0, 1, 582) := by decide +kernel
theorem c171_582 : vlk 171 582 = some (11, 0, 0, 0, 583) := by decide +kernel
theorem c171_583 : vlk 171 583 = some (45, 0, 0, 0, 584) := by decide +kernel
theorem c171_584 : vlk 171 584 = some (6, 0, 0, 0, 585) := by decide +kernel
theorem c171_585 : vlk 171 585 = some (4, 3, 0, 0, 586) := by decide +kernel
theorem c171_586 : vlk 171 586 = some (1, 0, 0, 2, 587) := by decide +kernel
theorem c171_587 : vlk 171 587 = some (11, 0, 0, 0, 588) := by decide +kernel
theorem c171_588 : vlk 171 588 = some (45, 0, 0, 0, 589) := by decide +kernel
theorem c171_589 : vlk 171 589 = some (6, 0, 0, 0, 590) := by decide +kernel
theorem c171_590 : vlk 171 590 = some (4, 3, 0, 0, 591) := by decide +kernel
theorem c171_591 : vlk 171 591 = some (1, 0, 0, 3, 592) := by decide +kernel
theorem c171_592 : vlk 171 592 = some (11, 0, 0, 0, 593) := by decide +kernel
theorem c171_593 : vlk 171 593 = some (45, 0, 0, 0, 594) := by decide +kernel
theorem c171_594 : vlk 171 594 = some (58, 69, 0, 0, 597) := by decide +kernel
theorem c171_597 : vlk 171 597 = some (6, 2, 0, 0, 598) := by decide +kernel
theorem c171_598 : vlk 171 598 = some (6, 0, 0, 0, 599) := by decide +kernel
theorem c171_599 : vlk 171 599 = some (4, 3, 0, 0, 600) := by decide +kernel
theorem c171_600 : vlk 171 600 = some (1, 0, 0, 1, 601) := by decide +kernel
theorem c171_601 : vlk 171 601 = some (11, 0, 0, 0, 602) := by decide +kernel
theorem c171_602 : vlk 171 602 = some (45, 0, 0, 0, 603) := by decide +kernel
theorem c171_603 : vlk 171 603 = some (6, 0, 0, 0, 604) := by decide +kernel
theorem c171_604 : vlk 171 604 = some (4, 3, 0, 0, 605) := by decide +kernel
theorem c171_605 : vlk 171 605 = some (1, 0, 0, 2, 606) := by decide +kernel
theorem c171_606 : vlk 171 606 = some (11, 0, 0, 0, 607) := by decide +kernel
theorem c171_607 : vlk 171 607 = some (45, 0, 0, 0, 608) := by decide +kernel
theorem c171_608 : vlk 171 608 = some (6, 0, 0, 0, 609) := by decide +kernel
theorem c171_609 : vlk 171 609 = some (4, 3, 0, 0, 610) := by decide +kernel
theorem c171_610 : vlk 171 610 = some (1, 0, 0, 3, 611) := by decide +kernel
theorem c171_611 : vlk 171 611 = some (11, 0, 0, 0, 612) := by decide +kernel
theorem c171_612 : vlk 171 612 = some (45, 0, 0, 0, 613) := by decide +kernel
theorem c171_613 : vlk 171 613 = some (58, 144, 0, 0, 616) := by decide +kernel
theorem c171_616 : vlk 171 616 = some (76, 1262, 0, 0, 619) := by decide +kernel
theorem c171_621 : vlk 171 621 = some (6, 1, 0, 0, 622) := by decide +kernel
theorem c171_622 : vlk 171 622 = some (6, 0, 0, 0, 623) := by decide +kernel
theorem c171_623 : vlk 171 623 = some (4, 3, 0, 0, 624) := by decide +kernel
theorem c171_624 : vlk 171 624 = some (1, 0, 0, 1, 625) := by decide +kernel
theorem c171_625 : vlk 171 625 = some (11, 0, 0, 0, 626) := by decide +kernel
theorem c171_626 : vlk 171 626 = some (45, 0, 0, 0, 627) := by decide +kernel
theorem c171_627 : vlk 171 627 = some (6, 0, 0, 0, 628) := by decide +kernel
theorem c171_628 : vlk 171 628 = some (4, 3, 0, 0, 629) := by decide +kernel
theorem c171_629 : vlk 171 629 = some (1, 0, 0, 2, 630) := by decide +kernel
theorem c171_630 : vlk 171 630 = some (11, 0, 0, 0, 631) := by decide +kernel
theorem c171_631 : vlk 171 631 = some (45, 0, 0, 0, 632) := by decide +kernel
theorem c171_632 : vlk 171 632 = some (58, 70, 0, 0, 635) := by decide +kernel
theorem c171_635 : vlk 171 635 = some (6, 2, 0, 0, 636) := by decide +kernel
theorem c171_636 : vlk 171 636 = some (6, 0, 0, 0, 637) := by decide +kernel
theorem c171_637 : vlk 171 637 = some (4, 3, 0, 0, 638) := by decide +kernel
theorem c171_638 : vlk 171 638 = some (1, 0, 0, 1, 639) := by decide +kernel
theorem c171_639 : vlk 171 639 = some (11, 0, 0, 0, 640) := by decide +kernel
theorem c171_640 : vlk 171 640 = some (45, 0, 0, 0, 641) := by decide +kernel
theorem c171_641 : vlk 171 641 = some (6, 0, 0, 0, 642) := by decide +kernel
theorem c171_642 : vlk 171 642 = some (4, 3, 0, 0, 643) := by decide +kernel
theorem c171_643 : vlk 171 643 = some (1, 0, 0, 2, 644) := by decide +kernel
theorem c171_644 : vlk 171 644 = some (11, 0, 0, 0, 645) := by decide +kernel
theorem c171_645 : vlk 171 645 = some (45, 0, 0, 0, 646) := by decide +kernel
theorem c171_646 : vlk 171 646 = some (58, 145, 0, 0, 649) := by decide +kernel
theorem c171_649 : vlk 171 649 = some (76, 1262, 0, 0, 652) := by decide +kernel
theorem c171_654 : vlk 171 654 = some (6, 1, 0, 0, 655) := by decide +kernel
theorem c171_655 : vlk 171 655 = some (6, 0, 0, 0, 656) := by decide +kernel
theorem c171_656 : vlk 171 656 = some (4, 3, 0, 0, 657) := by decide +kernel
theorem c171_657 : vlk 171 657 = some (1, 0, 0, 1, 658) := by decide +kernel
theorem c171_658 : vlk 171 658 = some (11, 0, 0, 0, 659) := by decide +kernel
theorem c171_659 : vlk 171 659 = some (45, 0, 0, 0, 660) := by decide +kernel
theorem c171_660 : vlk 171 660 = some (6, 0, 0, 0, 661) := by decide +kernel
theorem c171_661 : vlk 171 661 = some (4, 3, 0, 0, 662) := by decide +kernel
theorem c171_662 : vlk 171 662 = some (1, 0, 0, 2, 663) := by decide +kernel
theorem c171_663 : vlk 171 663 = some (11, 0, 0, 0, 664) := by decide +kernel
theorem c171_664 : vlk 171 664 = some (45, 0, 0, 0, 665) := by decide +kernel
theorem c171_665 : vlk 171 665 = some (58, 71, 0, 0, 668) := by decide +kernel
theorem c171_668 : vlk 171 668 = some (6, 2, 0, 0, 669) := by decide +kernel
theorem c171_669 : vlk 171 669 = some (6, 0, 0, 0, 670) := by decide +kernel
theorem c171_670 : vlk 171 670 = some (4, 3, 0, 0, 671) := by decide +kernel
theorem c171_671 : vlk 171 671 = some (1, 0, 0, 1, 672) := by decide +kernel
theorem c171_672 : vlk 171 672 = some (11, 0, 0, 0, 673) := by decide +kernel
theorem c171_673 : vlk 171 673 = some (45, 0, 0, 0, 674) := by decide +kernel
theorem c171_674 : vlk 171 674 = some (6, 0, 0, 0, 675) := by decide +kernel
theorem c171_675 : vlk 171 675 = some (4, 3, 0, 0, 676) := by decide +kernel
theorem c171_676 : vlk 171 676 = some (1, 0, 0, 2, 677) := by decide +kernel
theorem c171_677 : vlk 171 677 = some (11, 0, 0, 0, 678) := by decide +kernel
theorem c171_678 : vlk 171 678 = some (45, 0, 0, 0, 679) := by decide +kernel
theorem c171_679 : vlk 171 679 = some (58, 149, 0, 0, 682) := by decide +kernel
theorem c171_682 : vlk 171 682 = some (76, 1262, 0, 0, 685) := by decide +kernel
theorem c171_687 : vlk 171 687 = some (6, 1, 0, 0, 688) := by decide +kernel
theorem c171_688 : vlk 171 688 = some (6, 0, 0, 0, 689) := by decide +kernel
theorem c171_689 : vlk 171 689 = some (4, 3, 0, 0, 690) := by decide +kernel
theorem c171_690 : vlk 171 690 = some (1, 0, 0, 1, 691) := by decide +kernel
theorem c171_691 : vlk 171 691 = some (11, 0, 0, 0, 692) := by decide +kernel
theorem c171_692 : vlk 171 692 = some (45, 0, 0, 0, 693) := by decide +kernel
theorem c171_693 : vlk 171 693 = some (6, 0, 0, 0, 694) := by decide +kernel
theorem c171_694 : vlk 171 694 = some (4, 3, 0, 0, 695) := by decide +kernel
theorem c171_695 : vlk 171 695 = some (1, 0, 0, 2, 696) := by decide +kernel
theorem c171_696 : vlk 171 696 = some (11, 0, 0, 0, 697) := by decide +kernel
theorem c171_697 : vlk 171 697 = some (45, 0, 0, 0, 698) := by decide +kernel
theorem c171_698 : vlk 171 698 = some (58, 72, 0, 0, 701) := by decide +kernel
theorem c171_701 : vlk 171 701 = some (6, 2, 0, 0, 702) := by decide +kernel
theorem c171_702 : vlk 171 702 = some (6, 0, 0, 0, 703) := by decide +kernel
theorem c171_703 : vlk 171 703 = some (4, 3, 0, 0, 704) := by decide +kernel
theorem c171_704 : vlk 171 704 = some (1, 0, 0, 1, 705) := by decide +kernel
theorem c171_705 : vlk 171 705 = some (11, 0, 0, 0, 706) := by decide +kernel
theorem c171_706 : vlk 171 706 = some (45, 0, 0, 0, 707) := by decide +kernel
theorem c171_707 : vlk 171 707 = some (6, 0, 0, 0, 708) := by decide +kernel
theorem c171_708 : vlk 171 708 = some (4, 3, 0, 0, 709) := by decide +kernel
theorem c171_709 : vlk 171 709 = some (1, 0, 0, 2, 710) := by decide +kernel
theorem c171_710 : vlk 171 710 = some (11, 0, 0, 0, 711) := by decide +kernel
theorem c171_711 : vlk 171 711 = some (45, 0, 0, 0, 712) := by decide +kernel
theorem c171_712 : vlk 171 712 = some (58, 150, 0, 0, 715) := by decide +kernel
theorem c171_715 : vlk 171 715 = some (76, 1262, 0, 0, 718) := by decide +kernel
theorem c171_720 : vlk 171 720 = some (6, 1, 0, 0, 721) := by decide +kernel
theorem c171_721 : vlk 171 721 = some (6, 0, 0, 0, 722) := by decide +kernel
theorem c171_722 : vlk 171 722 = some (4, 3, 0, 0, 723) := by decide +kernel
theorem c171_723 : vlk 171 723 = some (1, 0, 0, 1, 724) := by decide +kernel
theorem c171_724 : vlk 171 724 = some (11, 0, 0, 0, 725) := by decide +kernel
theorem c171_725 : vlk 171 725 = some (45, 0, 0, 0, 726) := by decide +kernel
theorem c171_726 : vlk 171 726 = some (6, 0, 0, 0, 727) := by decide +kernel
theorem c171_727 : vlk 171 727 = some (4, 3, 0, 0, 728) := by decide +kernel
theorem c171_728 : vlk 171 728 = some (1, 0, 0, 2, 729) := by decide +kernel
theorem c171_729 : vlk 171 729 = some (11, 0, 0, 0, 730) := by decide +kernel
theorem c171_730 : vlk 171 730 = some (45, 0, 0, 0, 731) := by decide +kernel
theorem c171_731 : vlk 171 731 = some (6, 0, 0, 0, 732) := by decide +kernel
theorem c171_732 : vlk 171 732 = some (4, 3, 0, 0, 733) := by decide +kernel
theorem c171_733 : vlk 171 733 = some (1, 0, 0, 3, 734) := by decide +kernel
theorem c171_734 : vlk 171 734 = some (11, 0, 0, 0, 735) := by decide +kernel
theorem c171_735 : vlk 171 735 = some (45, 0, 0, 0, 736) := by decide +kernel
theorem c171_736 : vlk 171 736 = some (58, 73, 0, 0, 739) := by decide +kernel
theorem c171_739 : vlk 171 739 = some (6, 2, 0, 0, 740) := by decide +kernel
theorem c171_740 : vlk 171 740 = some (6, 0, 0, 0, 741) := by decide +kernel
theorem c171_741 : vlk 171 741 = some (4, 3, 0, 0, 742) := by decide +kernel
theorem c171_742 : vlk 171 742 = some (1, 0, 0, 1, 743) := by decide +kernel
theorem c171_743 : vlk 171 743 = some (11, 0, 0, 0, 744) := by decide +kernel
theorem c171_744 : vlk 171 744 = some (45, 0, 0, 0, 745) := by decide +kernel
theorem c171_745 : vlk 171 745 = some (6, 0, 0, 0, 746) := by decide +kernel
theorem c171_746 : vlk 171 746 = some (4, 3, 0, 0, 747) := by decide +kernel
theorem c171_747 : vlk 171 747 = some (1, 0, 0, 2, 748) := by decide +kernel
theorem c171_748 : vlk 171 748 = some (11, 0, 0, 0, 749) := by decide +kernel
theorem c171_749 : vlk 171 749 = some (45, 0, 0, 0, 750) := by decide +kernel
theorem c171_750 : vlk 171 750 = some (6, 0, 0, 0, 751) := by decide +kernel
theorem c171_751 : vlk 171 751 = some (4, 3, 0, 0, 752) := by decide +kernel
theorem c171_752 : vlk 171 752 = some (1, 0, 0, 3, 753) := by decide +kernel
theorem c171_753 : vlk 171 753 = some (11, 0, 0, 0, 754) := by decide +kernel
theorem c171_754 : vlk 171 754 = some (45, 0, 0, 0, 755) := by decide +kernel
theorem c171_755 : vlk 171 755 = some (58, 152, 0, 0, 758) := by decide +kernel
theorem c171_758 : vlk 171 758 = some (76, 1262, 0, 0, 761) := by decide +kernel
theorem c171_763 : vlk 171 763 = some (6, 1, 0, 0, 764) := by decide +kernel
theorem c171_764 : vlk 171 764 = some (6, 0, 0, 0, 765) := by decide +kernel
theorem c171_765 : vlk 171 765 = some (4, 3, 0, 0, 766) := by decide +kernel
theorem c171_766 : vlk 171 766 = some (1, 0, 0, 1, 767) := by decide +kernel
theorem c171_767 : vlk 171 767 = some (11, 0, 0, 0, 768) := by decide +kernel
theorem c171_768 : vlk 171 768 = some (45, 0, 0, 0, 769) := by decide +kernel
theorem c171_769 : vlk 171 769 = some (6, 0, 0, 0, 770) := by decide +kernel
theorem c171_770 : vlk 171 770 = some (4, 3, 0, 0, 771) := by decide +kernel
theorem c171_771 : vlk 171 771 = some (1, 0, 0, 2, 772) := by decide +kernel
theorem c171_772 : vlk 171 772 = some (11, 0, 0, 0, 773) := by decide +kernel
theorem c171_773 : vlk 171 773 = some (45, 0, 0, 0, 774) := by decide +kernel
theorem c171_774 : vlk 171 774 = some (6, 0, 0, 0, 775) := by decide +kernel
theorem c171_775 : vlk 171 775 = some (4, 3, 0, 0, 776) := by decide +kernel
theorem c171_776 : vlk 171 776 = some (1, 0, 0, 3, 777) := by decide +kernel
theorem c171_777 : vlk 171 777 = some (11, 0, 0, 0, 778) := by decide +kernel
theorem c171_778 : vlk 171 778 = some (45, 0, 0, 0, 779) := by decide +kernel
theorem c171_779 : vlk 171 779 = some (58, 74, 0, 0, 782) := by decide +kernel
theorem c171_782 : vlk 171 782 = some (6, 2, 0, 0, 783) := by decide +kernel
theorem c171_783 : vlk 171 783 = some (6, 0, 0, 0, 784) := by decide +kernel
theorem c171_784 : vlk 171 784 = some (4, 3, 0, 0, 785) := by decide +kernel
theorem c171_785 : vlk 171 785 = some (1, 0, 0, 1, 786) := by decide +kernel
theorem c171_786 : vlk 171 786 = some (11, 0, 0, 0, 787) := by decide +kernel
theorem c171_787 : vlk 171 787 = some (45, 0, 0, 0, 788) := by decide +kernel
theorem c171_788 : vlk 171 788 = some (6, 0, 0, 0, 789) := by decide +kernel
theorem c171_789 : vlk 171 789 = some (4, 3, 0, 0, 790) := by decide +kernel
theorem c171_790 : vlk 171 790 = some (1, 0, 0, 2, 791) := by decide +kernel
theorem c171_791 : vlk 171 791 = some (11, 0, 0, 0, 792) := by decide +kernel
theorem c171_792 : vlk 171 792 = some (45, 0, 0, 0, 793) := by decide +kernel
theorem c171_793 : vlk 171 793 = some (6, 0, 0, 0, 794) := by decide +kernel
theorem c171_794 : vlk 171 794 = some (4, 3, 0, 0, 795) := by decide +kernel
theorem c171_795 : vlk 171 795 = some (1, 0, 0, 3, 796) := by decide +kernel
theorem c171_796 : vlk 171 796 = some (11, 0, 0, 0, 797) := by decide +kernel
theorem c171_797 : vlk 171 797 = some (45, 0, 0, 0, 798) := by decide +kernel
theorem c171_798 : vlk 171 798 = some (58, 153, 0, 0, 801) := by decide +kernel
theorem c171_801 : vlk 171 801 = some (76, 1262, 0, 0, 804) := by decide +kernel
theorem c171_806 : vlk 171 806 = some (6, 1, 0, 0, 807) := by decide +kernel
theorem c171_807 : vlk 171 807 = some (6, 0, 0, 0, 808) := by decide +kernel
theorem c171_808 : vlk 171 808 = some (4, 3, 0, 0, 809) := by decide +kernel
theorem c171_809 : vlk 171 809 = some (1, 0, 0, 1, 810) := by decide +kernel
theorem c171_810 : vlk 171 810 = some (11, 0, 0, 0, 811) := by decide +kernel
theorem c171_811 : vlk 171 811 = some (45, 0, 0, 0, 812) := by decide +kernel
theorem c171_812 : vlk 171 812 = some (6, 0, 0, 0, 813) := by decide +kernel
theorem c171_813 : vlk 171 813 = some (4, 3, 0, 0, 814) := by decide +kernel
theorem c171_814 : vlk 171 814 = some (1, 0, 0, 2, 815) := by decide +kernel
theorem c171_815 : vlk 171 815 = some (11, 0, 0, 0, 816) := by decide +kernel
theorem c171_816 : vlk 171 816 = some (45, 0, 0, 0, 817) := by decide +kernel
theorem c171_817 : vlk 171 817 = some (6, 0, 0, 0, 818) := by decide +kernel
theorem c171_818 : vlk 171 818 = some (4, 3, 0, 0, 819) := by decide +kernel
theorem c171_819 : vlk 171 819 = some (1, 0, 0, 3, 820) := by decide +kernel
theorem c171_820 : vlk 171 820 = some (11, 0, 0, 0, 821) := by decide +kernel
theorem c171_821 : vlk 171 821 = some (45, 0, 0, 0, 822) := by decide +kernel
theorem c171_822 : vlk 171 822 = some (58, 75, 0, 0, 825) := by decide +kernel
theorem c171_825 : vlk 171 825 = some (6, 2, 0, 0, 826) := by decide +kernel
theorem c171_826 : vlk 171 826 = some (6, 0, 0, 0, 827) := by decide +kernel
theorem c171_827 : vlk 171 827 = some (4, 3, 0, 0, 828) := by decide +kernel
theorem c171_828 : vlk 171 828 = some (1, 0, 0, 1, 829) := by decide +kernel
theorem c171_829 : vlk 171 829 = some (11, 0, 0, 0, 830) := by decide +kernel
theorem c171_830 : vlk 171 830 = some (45, 0, 0, 0, 831) := by decide +kernel
theorem c171_831 : vlk 171 831 = some (6, 0, 0, 0, 832) := by decide +kernel
theorem c171_832 : vlk 171 832 = some (4, 3, 0, 0, 833) := by decide +kernel
theorem c171_833 : vlk 171 833 = some (1, 0, 0, 2, 834) := by decide +kernel
theorem c171_834 : vlk 171 834 = some (11, 0, 0, 0, 835) := by decide +kernel
theorem c171_835 : vlk 171 835 = some (45, 0, 0, 0, 836) := by decide +kernel
theorem c171_836 : vlk 171 836 = some (6, 0, 0, 0, 837) := by decide +kernel
theorem c171_837 : vlk 171 837 = some (4, 3, 0, 0, 838) := by decide +kernel
theorem c171_838 : vlk 171 838 = some (1, 0, 0, 3, 839) := by decide +kernel
theorem c171_839 : vlk 171 839 = some (11, 0, 0, 0, 840) := by decide +kernel
theorem c171_840 : vlk 171 840 = some (45, 0, 0, 0, 841) := by decide +kernel
theorem c171_841 : vlk 171 841 = some (58, 155, 0, 0, 844) := by decide +kernel
theorem c171_844 : vlk 171 844 = some (76, 1262, 0, 0, 847) := by decide +kernel
theorem c171_849 : vlk 171 849 = some (6, 1, 0, 0, 850) := by decide +kernel
theorem c171_850 : vlk 171 850 = some (6, 0, 0, 0, 851) := by decide +kernel
theorem c171_851 : vlk 171 851 = some (4, 3, 0, 0, 852) := by decide +kernel
theorem c171_852 : vlk 171 852 = some (1, 0, 0, 1, 853) := by decide +kernel
theorem c171_853 : vlk 171 853 = some (11, 0, 0, 0, 854) := by decide +kernel
theorem c171_854 : vlk 171 854 = some (45, 0, 0, 0, 855) := by decide +kernel
theorem c171_855 : vlk 171 855 = some (6, 0, 0, 0, 856) := by decide +kernel
theorem c171_856 : vlk 171 856 = some (4, 3, 0, 0, 857) := by decide +kernel
theorem c171_857 : vlk 171 857 = some (1, 0, 0, 2, 858) := by decide +kernel
theorem c171_858 : vlk 171 858 = some (11, 0, 0, 0, 859) := by decide +kernel
theorem c171_859 : vlk 171 859 = some (45, 0, 0, 0, 860) := by decide +kernel
theorem c171_860 : vlk 171 860 = some (6, 0, 0, 0, 861) := by decide +kernel
theorem c171_861 : vlk 171 861 = some (4, 3, 0, 0, 862) := by decide +kernel
theorem c171_862 : vlk 171 862 = some (1, 0, 0, 3, 863) := by decide +kernel
theorem c171_863 : vlk 171 863 = some (11, 0, 0, 0, 864) := by decide +kernel
theorem c171_864 : vlk 171 864 = some (45, 0, 0, 0, 865) := by decide +kernel
theorem c171_865 : vlk 171 865 = some (6, 0, 0, 0, 866) := by decide +kernel
theorem c171_866 : vlk 171 866 = some (4, 3, 0, 0, 867) := by decide +kernel
theorem c171_867 : vlk 171 867 = some (1, 0, 0, 4, 868) := by decide +kernel
theorem c171_868 : vlk 171 868 = some (11, 0, 0, 0, 869) := by decide +kernel
theorem c171_869 : vlk 171 869 = some (45, 0, 0, 0, 870) := by decide +kernel
theorem c171_870 : vlk 171 870 = some (58, 76, 0, 0, 873) := by decide +kernel
theorem c171_873 : vlk 171 873 = some (6, 2, 0, 0, 874) := by decide +kernel
theorem c171_874 : vlk 171 874 = some (6, 0, 0, 0, 875) := by decide +kernel
theorem c171_875 : vlk 171 875 = some (4, 3, 0, 0, 876) := by decide +kernel
theorem c171_876 : vlk 171 876 = some (1, 0, 0, 1, 877) := by decide +kernel
theorem c171_877 : vlk 171 877 = some (11, 0, 0, 0, 878) := by decide +kernel
theorem c171_878 : vlk 171 878 = some (45, 0, 0, 0, 879) := by decide +kernel
theorem c171_879 : vlk 171 879 = some (6, 0, 0, 0, 880) := by decide +kernel
theorem c171_880 : vlk 171 880 = some (4, 3, 0, 0, 881) := by decide +kernel
theorem c171_881 : vlk 171 881 = some (1, 0, 0, 2, 882) := by decide +kernel
theorem c171_882 : vlk 171 882 = some (11, 0, 0, 0, 883) := by decide +kernel
theorem c171_883 : vlk 171 883 = some (45, 0, 0, 0, 884) := by decide +kernel
theorem c171_884 : vlk 171 884 = some (6, 0, 0, 0, 885) := by decide +kernel
theorem c171_885 : vlk 171 885 = some (4, 3, 0, 0, 886) := by decide +kernel
theorem c171_886 : vlk 171 886 = some (1, 0, 0, 3, 887) := by decide +kernel
theorem c171_887 : vlk 171 887 = some (11, 0, 0, 0, 888) := by decide +kernel
theorem c171_888 : vlk 171 888 = some (45, 0, 0, 0, 889) := by decide +kernel
theorem c171_889 : vlk 171 889 = some (6, 0, 0, 0, 890) := by decide +kernel
theorem c171_890 : vlk 171 890 = some (4, 3, 0, 0, 891) := by decide +kernel
theorem c171_891 : vlk 171 891 = some (1, 0, 0, 4, 892) := by decide +kernel
theorem c171_892 : vlk 171 892 = some (11, 0, 0, 0, 893) := by decide +kernel
theorem c171_893 : vlk 171 893 = some (45, 0, 0, 0, 894) := by decide +kernel
theorem c171_894 : vlk 171 894 = some (58, 156, 0, 0, 897) := by decide +kernel
theorem c171_897 : vlk 171 897 = some (76, 1262, 0, 0, 900) := by decide +kernel
theorem c171_902 : vlk 171 902 = some (6, 1, 0, 0, 903) := by decide +kernel
theorem c171_903 : vlk 171 903 = some (6, 0, 0, 0, 904) := by decide +kernel
theorem c171_904 : vlk 171 904 = some (4, 3, 0, 0, 905) := by decide +kernel
theorem c171_905 : vlk 171 905 = some (1, 0, 0, 1, 906) := by decide +kernel
theorem c171_906 : vlk 171 906 = some (11, 0, 0, 0, 907) := by decide +kernel
theorem c171_907 : vlk 171 907 = some (45, 0, 0, 0, 908) := by decide +kernel
theorem c171_908 : vlk 171 908 = some (58, 77, 0, 0, 911) := by decide +kernel
theorem c171_911 : vlk 171 911 = some (6, 2, 0, 0, 912) := by decide +kernel
theorem c171_912 : vlk 171 912 = some (6, 0, 0, 0, 913) := by decide +kernel
theorem c171_913 : vlk 171 913 = some (4, 3, 0, 0, 914) := by decide +kernel
theorem c171_914 : vlk 171 914 = some (1, 0, 0, 1, 915) := by decide +kernel
theorem c171_915 : vlk 171 915 = some (11, 0, 0, 0, 916) := by decide +kernel
theorem c171_916 : vlk 171 916 = some (45, 0, 0, 0, 917) := by decide +kernel
theorem c171_917 : vlk 171 917 = some (58, 157, 0, 0, 920) := by decide +kernel
theorem c171_920 : vlk 171 920 = some (76, 1262, 0, 0, 923) := by decide +kernel
theorem c171_925 : vlk 171 925 = some (6, 1, 0, 0, 926) := by decide +kernel
theorem c171_926 : vlk 171 926 = some (6, 0, 0, 0, 927) := by decide +kernel
theorem c171_927 : vlk 171 927 = some (4, 3, 0, 0, 928) := by decide +kernel
theorem c171_928 : vlk 171 928 = some (1, 0, 0, 1, 929) := by decide +kernel
theorem c171_929 : vlk 171 929 = some (11, 0, 0, 0, 930) := by decide +kernel
theorem c171_930 : vlk 171 930 = some (45, 0, 0, 0, 931) := by decide +kernel
theorem c171_931 : vlk 171 931 = some (6, 0, 0, 0, 932) := by decide +kernel
theorem c171_932 : vlk 171 932 = some (4, 3, 0, 0, 933) := by decide +kernel
theorem c171_933 : vlk 171 933 = some (1, 0, 0, 2, 934) := by decide +kernel
theorem c171_934 : vlk 171 934 = some (11, 0, 0, 0, 935) := by decide +kernel
theorem c171_935 : vlk 171 935 = some (45, 0, 0, 0, 936) := by decide +kernel
theorem c171_936 : vlk 171 936 = some (58, 78, 0, 0, 939) := by decide +kernel
theorem c171_939 : vlk 171 939 = some (6, 2, 0, 0, 940) := by decide +kernel
theorem c171_940 : vlk 171 940 = some (6, 0, 0, 0, 941) := by decide +kernel
theorem c171_941 : vlk 171 941 = some (4, 3, 0, 0, 942) := by decide +kernel
theorem c171_942 : vlk 171 942 = some (1, 0, 0, 1, 943) := by decide +kernel
theorem c171_943 : vlk 171 943 = some (11, 0, 0, 0, 944) := by decide +kernel
theorem c171_944 : vlk 171 944 = some (45, 0, 0, 0, 945) := by decide +kernel
theorem c171_945 : vlk 171 945 = some (6, 0, 0, 0, 946) := by decide +kernel
theorem c171_946 : vlk 171 946 = some (4, 3, 0, 0, 947) := by decide +kernel
theorem c171_947 : vlk 171 947 = some (1, 0, 0, 2, 948) := by decide +kernel
theorem c171_948 : vlk 171 948 = some (11, 0, 0, 0, 949) := by decide +kernel
theorem c171_949 : vlk 171 949 = some (45, 0, 0, 0, 950) := by decide +kernel
theorem c171_950 : vlk 171 950 = some (58, 158, 0, 0, 953) := by decide +kernel
theorem c171_953 : vlk 171 953 = some (76, 1262, 0, 0, 956) := by decide +kernel
theorem c171_958 : vlk 171 958 = some (6, 1, 0, 0, 959) := by decide +kernel
theorem c171_959 : vlk 171 959 = some (6, 0, 0, 0, 960) := by decide +kernel
theorem c171_960 : vlk 171 960 = some (4, 3, 0, 0, 961) := by decide +kernel
theorem c171_961 : vlk 171 961 = some (1, 0, 0, 1, 962) := by decide +kernel
theorem c171_962 : vlk 171 962 = some (11, 0, 0, 0, 963) := by decide +kernel
theorem c171_963 : vlk 171 963 = some (45, 0, 0, 0, 964) := by decide +kernel
theorem c171_964 : vlk 171 964 = some (6, 0, 0, 0, 965) := by decide +kernel
theorem c171_965 : vlk 171 965 = some (4, 3, 0, 0, 966) := by decide +kernel
theorem c171_966 : vlk 171 966 = some (1, 0, 0, 2, 967) := by decide +kernel
theorem c171_967 : vlk 171 967 = some (11, 0, 0, 0, 968) := by decide +kernel
theorem c171_968 : vlk 171 968 = some (45, 0, 0, 0, 969) := by decide +kernel
theorem c171_969 : vlk 171 969 = some (58, 79, 0, 0, 972) := by decide +kernel
theorem c171_972 : vlk 171 972 = some (6, 2, 0, 0, 973) := by decide +kernel
theorem c171_973 : vlk 171 973 = some (6, 0, 0, 0, 974) := by decide +kernel
theorem c171_974 : vlk 171 974 = some (4, 3, 0, 0, 975) := by decide +kernel
theorem c171_975 : vlk 171 975 = some (1, 0, 0, 1, 976) := by decide +kernel
theorem c171_976 : vlk 171 976 = some (11, 0, 0, 0, 977) := by decide +kernel
theorem c171_977 : vlk 171 977 = some (45, 0, 0, 0, 978) := by decide +kernel
theorem c171_978 : vlk 171 978 = some (6, 0, 0, 0, 979) := by decide +kernel
theorem c171_979 : vlk 171 979 = some (4, 3, 0, 0, 980) := by decide +kernel
theorem c171_980 : vlk 171 980 = some (1, 0, 0, 2, 981) := by decide +kernel
theorem c171_981 : vlk 171 981 = some (11, 0, 0, 0, 982) := by decide +kernel
theorem c171_982 : vlk 171 982 = some (45, 0, 0, 0, 983) := by decide +kernel
theorem c171_983 : vlk 171 983 = some (58, 160, 0, 0, 986) := by decide +kernel
theorem c171_986 : vlk 171 986 = some (76, 1262, 0, 0, 989) := by decide +kernel
theorem c171_991 : vlk 171 991 = some (6, 1, 0, 0, 992) := by decide +kernel
theorem c171_992 : vlk 171 992 = some (6, 0, 0, 0, 993) := by decide +kernel
theorem c171_993 : vlk 171 993 = some (4, 3, 0, 0, 994) := by decide +kernel
theorem c171_994 : vlk 171 994 = some (1, 0, 0, 1, 995) := by decide +kernel
theorem c171_995 : vlk 171 995 = some (11, 0, 0, 0, 996) := by decide +kernel
theorem c171_996 : vlk 171 996 = some (45, 0, 0, 0, 997) := by decide +kernel
theorem c171_997 : vlk 171 997 = some (6, 0, 0, 0, 998) := by decide +kernel
theorem c171_998 : vlk 171 998 = some (4, 3, 0, 0, 999) := by decide +kernel
theorem c171_999 : vlk 171 999 = some (1, 0, 0, 2, 1000) := by decide +kernel
theorem c171_1000 : vlk 171 1000 = some (11, 0, 0, 0, 1001) := by decide +kernel
theorem c171_1001 : vlk 171 1001 = some (45, 0, 0, 0, 1002) := by decide +kernel
theorem c171_1002 : vlk 171 1002 = some (6, 0, 0, 0, 1003) := by decide +kernel
theorem c171_1003 : vlk 171 1003 = some (4, 3, 0, 0, 1004) := by decide +kernel
theorem c171_1004 : vlk 171 1004 = some (1, 0, 0, 3, 1005) := by decide +kernel
theorem c171_1005 : vlk 171 1005 = some (11, 0, 0, 0, 1006) := by decide +kernel
theorem c171_1006 : vlk 171 1006 = some (45, 0, 0, 0, 1007) := by decide +kernel
theorem c171_1007 : vlk 171 1007 = some (58, 80, 0, 0, 1010) := by decide +kernel
theorem c171_1010 : vlk 171 1010 = some (6, 2, 0, 0, 1011) := by decide +kernel
theorem c171_1011 : vlk 171 1011 = some (6, 0, 0, 0, 1012) := by decide +kernel
theorem c171_1012 : vlk 171 1012 = some (4, 3, 0, 0, 1013) := by decide +kernel
theorem c171_1013 : vlk 171 1013 = some (1, 0, 0, 1, 1014) := by decide +kernel
theorem c171_1014 : vlk 171 1014 = some (11, 0, 0, 0, 1015) := by decide +kernel
theorem c171_1015 : vlk 171 1015 = some (45, 0, 0, 0, 1016) := by decide +kernel
theorem c171_1016 : vlk 171 1016 = some (6, 0, 0, 0, 1017) := by decide +kernel
theorem c171_1017 : vlk 171 1017 = some (4, 3, 0, 0, 1018) := by decide +kernel
theorem c171_1018 : vlk 171 1018 = some (1, 0, 0, 2, 1019) := by decide +kernel
theorem c171_1019 : vlk 171 1019 = some (11, 0, 0, 0, 1020) := by decide +kernel
theorem c171_1020 : vlk 171 1020 = some (45, 0, 0, 0, 1021) := by decide +kernel
theorem c171_1021 : vlk 171 1021 = some (6, 0, 0, 0, 1022) := by decide +kernel
theorem c171_1022 : vlk 171 1022 = some (4, 3, 0, 0, 1023) := by decide +kernel
theorem c171_1023 : vlk 171 1023 = some (1, 0, 0, 3, 1024) := by decide +kernel
theorem c171_1024 : vlk 171 1024 = some (11, 0, 0, 0, 1025) := by decide +kernel
theorem c171_1025 : vlk 171 1025 = some (45, 0, 0, 0, 1026) := by decide +kernel
theorem c171_1026 : vlk 171 1026 = some (58, 161, 0, 0, 1029) := by decide +kernel
theorem c171_1029 : vlk 171 1029 = some (76, 1262, 0, 0, 1032) := by decide +kernel
theorem c171_1034 : vlk 171 1034 = some (6, 1, 0, 0, 1035) := by decide +kernel
theorem c171_1035 : vlk 171 1035 = some (6, 0, 0, 0, 1036) := by decide +kernel
theorem c171_1036 : vlk 171 1036 = some (4, 3, 0, 0, 1037) := by decide +kernel
theorem c171_1037 : vlk 171 1037 = some (1, 0, 0, 1, 1038) := by decide +kernel
theorem c171_1038 : vlk 171 1038 = some (11, 0, 0, 0, 1039) := by decide +kernel
theorem c171_1039 : vlk 171 1039 = some (45, 0, 0, 0, 1040) := by decide +kernel
theorem c171_1040 : vlk 171 1040 = some (6, 0, 0, 0, 1041) := by decide +kernel
theorem c171_1041 : vlk 171 1041 = some (4, 3, 0, 0, 1042) := by decide +kernel
theorem c171_1042 : vlk 171 1042 = some (1, 0, 0, 2, 1043) := by decide +kernel
theorem c171_1043 : vlk 171 1043 = some (11, 0, 0, 0, 1044) := by decide +kernel
theorem c171_1044 : vlk 171 1044 = some (45, 0, 0, 0, 1045) := by decide +kernel
theorem c171_1045 : vlk 171 1045 = some (58, 81, 0, 0, 1048) := by decide +kernel
theorem c171_1048 : vlk 171 1048 = some (6, 2, 0, 0, 1049) := by decide +kernel
theorem c171_1049 : vlk 171 1049 = some (6, 0, 0, 0, 1050) := by decide +kernel
theorem c171_1050 : vlk 171 1050 = some (4, 3, 0, 0, 1051) := by decide +kernel
theorem c171_1051 : vlk 171 1051 = some (1, 0, 0, 1, 1052) := by decide +kernel
theorem c171_1052 : vlk 171 1052 = some (11, 0, 0, 0, 1053) := by decide +kernel
theorem c171_1053 : vlk 171 1053 = some (45, 0, 0, 0, 1054) := by decide +kernel
theorem c171_1054 : vlk 171 1054 = some (6, 0, 0, 0, 1055) := by decide +kernel
theorem c171_1055 : vlk 171 1055 = some (4, 3, 0, 0, 1056) := by decide +kernel
theorem c171_1056 : vlk 171 1056 = some (1, 0, 0, 2, 1057) := by decide +kernel
theorem c171_1057 : vlk 171 1057 = some (11, 0, 0, 0, 1058) := by decide +kernel
theorem c171_1058 : vlk 171 1058 = some (45, 0, 0, 0, 1059) := by decide +kernel
theorem c171_1059 : vlk 171 1059 = some (58, 162, 0, 0, 1062) := by decide +kernel
theorem c171_1062 : vlk 171 1062 = some (76, 1262, 0, 0, 1065) := by decide +kernel
theorem c171_1067 : vlk 171 1067 = some (6, 1, 0, 0, 1068) := by decide +kernel
theorem c171_1068 : vlk 171 1068 = some (6, 0, 0, 0, 1069) := by decide +kernel
theorem c171_1069 : vlk 171 1069 = some (4, 3, 0, 0, 1070) := by decide +kernel
theorem c171_1070 : vlk 171 1070 = some (1, 0, 0, 1, 1071) := by decide +kernel
theorem c171_1071 : vlk 171 1071 = some (11, 0, 0, 0, 1072) := by decide +kernel
theorem c171_1072 : vlk 171 1072 = some (45, 0, 0, 0, 1073) := by decide +kernel
theorem c171_1073 : vlk 171 1073 = some (6, 0, 0, 0, 1074) := by decide +kernel
theorem c171_1074 : vlk 171 1074 = some (4, 3, 0, 0, 1075) := by decide +kernel
theorem c171_1075 : vlk 171 1075 = some (1, 0, 0, 2, 1076) := by decide +kernel
theorem c171_1076 : vlk 171 1076 = some (11, 0, 0, 0, 1077) := by decide +kernel
theorem c171_1077 : vlk 171 1077 = some (45, 0, 0, 0, 1078) := by decide +kernel
theorem c171_1078 : vlk 171 1078 = some (6, 0, 0, 0, 1079) := by decide +kernel
theorem c171_1079 : vlk 171 1079 = some (4, 3, 0, 0, 1080) := by decide +kernel
theorem c171_1080 : vlk 171 1080 = some (1, 0, 0, 3, 1081) := by decide +kernel
theorem c171_1081 : vlk 171 1081 = some (11, 0, 0, 0, 1082) := by decide +kernel
theorem c171_1082 : vlk 171 1082 = some (45, 0, 0, 0, 1083) := by decide +kernel
theorem c171_1083 : vlk 171 1083 = some (6, 0, 0, 0, 1084) := by decide +kernel
theorem c171_1084 : vlk 171 1084 = some (4, 3, 0, 0, 1085) := by decide +kernel
theorem c171_1085 : vlk 171 1085 = some (1, 0, 0, 4, 1086) := by decide +kernel
theorem c171_1086 : vlk 171 1086 = some (11, 0, 0, 0, 1087) := by decide +kernel
theorem c171_1087 : vlk 171 1087 = some (45, 0, 0, 0, 1088) := by decide +kernel
theorem c171_1088 : vlk 171 1088 = some (6, 0, 0, 0, 1089) := by decide +kernel
theorem c171_1089 : vlk 171 1089 = some (4, 3, 0, 0, 1090) := by decide +kernel
theorem c171_1090 : vlk 171 1090 = some (1, 0, 0, 5, 1091) := by decide +kernel
theorem c171_1091 : vlk 171 1091 = some (11, 0, 0, 0, 1092) := by decide +kernel
theorem c171_1092 : vlk 171 1092 = some (45, 0, 0, 0, 1093) := by decide +kernel
theorem c171_1093 : vlk 171 1093 = some (58, 82, 0, 0, 1096) := by decide +kernel
theorem c171_1096 : vlk 171 1096 = some (6, 2, 0, 0, 1097) := by decide +kernel
theorem c171_1097 : vlk 171 1097 = some (6, 0, 0, 0, 1098) := by decide +kernel
theorem c171_1098 : vlk 171 1098 = some (4, 3, 0, 0, 1099) := by decide +kernel
theorem c171_1099 : vlk 171 1099 = some (1, 0, 0, 1, 1100) := by decide +kernel
theorem c171_1100 : vlk 171 1100 = some (11, 0, 0, 0, 1101) := by decide +kernel
theorem c171_1101 : vlk 171 1101 = some (45, 0, 0, 0, 1102) := by decide +kernel
theorem c171_1102 : vlk 171 1102 = some (6, 0, 0, 0, 1103) := by decide +kernel
theorem c171_1103 : vlk 171 1103 = some (4, 3, 0, 0, 1104) := by decide +kernel
theorem c171_1104 : vlk 171 1104 = some (1, 0, 0, 2, 1105) := by decide +kernel
theorem c171_1105 : vlk 171 1105 = some (11, 0, 0, 0, 1106) := by decide +kernel
theorem c171_1106 : vlk 171 1106 = some (45, 0, 0, 0, 1107) := by decide +kernel
theorem c171_1107 : vlk 171 1107 = some (6, 0, 0, 0, 1108) := by decide +kernel
theorem c171_1108 : vlk 171 1108 = some (4, 3, 0, 0, 1109) := by decide +kernel
theorem c171_1109 : vlk 171 1109 = some (1, 0, 0, 3, 1110) := by decide +kernel
theorem c171_1110 : vlk 171 1110 = some (11, 0, 0, 0, 1111) := by decide +kernel
theorem c171_1111 : vlk 171 1111 = some (45, 0, 0, 0, 1112) := by decide +kernel
theorem c171_1112 : vlk 171 1112 = some (6, 0, 0, 0, 1113) := by decide +kernel
theorem c171_1113 : vlk 171 1113 = some (4, 3, 0, 0, 1114) := by decide +kernel
theorem c171_1114 : vlk 171 1114 = some (1, 0, 0, 4, 1115) := by decide +kernel
theorem c171_1115 : vlk 171 1115 = some (11, 0, 0, 0, 1116) := by decide +kernel
theorem c171_1116 : vlk 171 1116 = some (45, 0, 0, 0, 1117) := by decide +kernel
theorem c171_1117 : vlk 171 1117 = some (6, 0, 0, 0, 1118) := by decide +kernel
theorem c171_1118 : vlk 171 1118 = some (4, 3, 0, 0, 1119) := by decide +kernel
theorem c171_1119 : vlk 171 1119 = some (1, 0, 0, 5, 1120) := by decide +kernel
theorem c171_1120 : vlk 171 1120 = some (11, 0, 0, 0, 1121) := by decide +kernel
theorem c171_1121 : vlk 171 1121 = some (45, 0, 0, 0, 1122) := by decide +kernel
theorem c171_1122 : vlk 171 1122 = some (58, 163, 0, 0, 1125) := by decide +kernel
theorem c171_1125 : vlk 171 1125 = some (76, 1262, 0, 0, 1128) := by decide +kernel
theorem c171_1130 : vlk 171 1130 = some (6, 1, 0, 0, 1131) := by decide +kernel
theorem c171_1131 : vlk 171 1131 = some (6, 0, 0, 0, 1132) := by decide +kernel
theorem c171_1132 : vlk 171 1132 = some (4, 3, 0, 0, 1133) := by decide +kernel
theorem c171_1133 : vlk 171 1133 = some (1, 0, 0, 1, 1134) := by decide +kernel
theorem c171_1134 : vlk 171 1134 = some (11, 0, 0, 0, 1135) := by decide +kernel
theorem c171_1135 : vlk 171 1135 = some (45, 0, 0, 0, 1136) := by decide +kernel
theorem c171_1136 : vlk 171 1136 = some (6, 0, 0, 0, 1137) := by decide +kernel
theorem c171_1137 : vlk 171 1137 = some (4, 3, 0, 0, 1138) := by decide +kernel
theorem c171_1138 : vlk 171 1138 = some (1, 0, 0, 2, 1139) := by decide +kernel
theorem c171_1139 : vlk 171 1139 = some (11, 0, 0, 0, 1140) := by decide +kernel
theorem c171_1140 : vlk 171 1140 = some (45, 0, 0, 0, 1141) := by decide +kernel
theorem c171_1141 : vlk 171 1141 = some (6, 0, 0, 0, 1142) := by decide +kernel
theorem c171_1142 : vlk 171 1142 = some (4, 3, 0, 0, 1143) := by decide +kernel
theorem c171_1143 : vlk 171 1143 = some (1, 0, 0, 3, 1144) := by decide +kernel
theorem c171_1144 : vlk 171 1144 = some (11, 0, 0, 0, 1145) := by decide +kernel
theorem c171_1145 : vlk 171 1145 = some (45, 0, 0, 0, 1146) := by decide +kernel
theorem c171_1146 : vlk 171 1146 = some (6, 0, 0, 0, 1147) := by decide +kernel
theorem c171_1147 : vlk 171 1147 = some (4, 3, 0, 0, 1148) := by decide +kernel
theorem c171_1148 : vlk 171 1148 = some (1, 0, 0, 4, 1149) := by decide +kernel
theorem c171_1149 : vlk 171 1149 = some (11, 0, 0, 0, 1150) := by decide +kernel
theorem c171_1150 : vlk 171 1150 = some (45, 0, 0, 0, 1151) := by decide +kernel
theorem c171_1151 : vlk 171 1151 = some (58, 83, 0, 0, 1154) := by decide +kernel
theorem c171_1154 : vlk 171 1154 = some (6, 2, 0, 0, 1155) := by decide +kernel
theorem c171_1155 : vlk 171 1155 = some (6, 0, 0, 0, 1156) := by decide +kernel
theorem c171_1156 : vlk 171 1156 = some (4, 3, 0, 0, 1157) := by decide +kernel
theorem c171_1157 : vlk 171 1157 = some (1, 0, 0, 1, 1158) := by decide +kernel
theorem c171_1158 : vlk 171 1158 = some (11, 0, 0, 0, 1159) := by decide +kernel
theorem c171_1159 : vlk 171 1159 = some (45, 0, 0, 0, 1160) := by decide +kernel
theorem c171_1160 : vlk 171 1160 = some (6, 0, 0, 0, 1161) := by decide +kernel
theorem c171_1161 : vlk 171 1161 = some (4, 3, 0, 0, 1162) := by decide +kernel
theorem c171_1162 : vlk 171 1162 = some (1, 0, 0, 2, 1163) := by decide +kernel
theorem c171_1163 : vlk 171 1163 = some (11, 0, 0, 0, 1164) := by decide +kernel
theorem c171_1164 : vlk 171 1164 = some (45, 0, 0, 0, 1165) := by decide +kernel
theorem c171_1165 : vlk 171 1165 = some (6, 0, 0, 0, 1166) := by decide +kernel
theorem c171_1166 : vlk 171 1166 = some (4, 3, 0, 0, 1167) := by decide +kernel
theorem c171_1167 : vlk 171 1167 = some (1, 0, 0, 3, 1168) := by decide +kernel
theorem c171_1168 : vlk 171 1168 = some (11, 0, 0, 0, 1169) := by decide +kernel
theorem c171_1169 : vlk 171 1169 = some (45, 0, 0, 0, 1170) := by decide +kernel
theorem c171_1170 : vlk 171 1170 = some (6, 0, 0, 0, 1171) := by decide +kernel
theorem c171_1171 : vlk 171 1171 = some (4, 3, 0, 0, 1172) := by decide +kernel
theorem c171_1172 : vlk 171 1172 = some (1, 0, 0, 4, 1173) := by decide +kernel
theorem c171_1173 : vlk 171 1173 = some (11, 0, 0, 0, 1174) := by decide +kernel
theorem c171_1174 : vlk 171 1174 = some (45, 0, 0, 0, 1175) := by decide +kernel
theorem c171_1175 : vlk 171 1175 = some (58, 165, 0, 0, 1178) := by decide +kernel
theorem c171_1178 : vlk 171 1178 = some (76, 1262, 0, 0, 1181) := by decide +kernel
theorem c171_1183 : vlk 171 1183 = some (6, 1, 0, 0, 1184) := by decide +kernel
theorem c171_1184 : vlk 171 1184 = some (6, 0, 0, 0, 1185) := by decide +kernel
theorem c171_1185 : vlk 171 1185 = some (4, 3, 0, 0, 1186) := by decide +kernel
theorem c171_1186 : vlk 171 1186 = some (1, 0, 0, 1, 1187) := by decide +kernel
theorem c171_1187 : vlk 171 1187 = some (11, 0, 0, 0, 1188) := by decide +kernel
theorem c171_1188 : vlk 171 1188 = some (45, 0, 0, 0, 1189) := by decide +kernel
theorem c171_1189 : vlk 171 1189 = some (6, 0, 0, 0, 1190) := by decide +kernel
theorem c171_1190 : vlk 171 1190 = some (4, 3, 0, 0, 1191) := by decide +kernel
theorem c171_1191 : vlk 171 1191 = some (1, 0, 0, 2, 1192) := by decide +kernel
theorem c171_1192 : vlk 171 1192 = some (11, 0, 0, 0, 1193) := by decide +kernel
theorem c171_1193 : vlk 171 1193 = some (45, 0, 0, 0, 1194) := by decide +kernel
theorem c171_1194 : vlk 171 1194 = some (6, 0, 0, 0, 1195) := by decide +kernel
theorem c171_1195 : vlk 171 1195 = some (4, 3, 0, 0, 1196) := by decide +kernel
theorem c171_1196 : vlk 171 1196 = some (1, 0, 0, 3, 1197) := by decide +kernel
theorem c171_1197 : vlk 171 1197 = some (11, 0, 0, 0, 1198) := by decide +kernel
theorem c171_1198 : vlk 171 1198 = some (45, 0, 0, 0, 1199) := by decide +kernel
theorem c171_1199 : vlk 171 1199 = some (6, 0, 0, 0, 1200) := by decide +kernel
theorem c171_1200 : vlk 171 1200 = some (4, 3, 0, 0, 1201) := by decide +kernel
theorem c171_1201 : vlk 171 1201 = some (1, 0, 0, 4, 1202) := by decide +kernel
theorem c171_1202 : vlk 171 1202 = some (11, 0, 0, 0, 1203) := by decide +kernel
theorem c171_1203 : vlk 171 1203 = some (45, 0, 0, 0, 1204) := by decide +kernel
theorem c171_1204 : vlk 171 1204 = some (58, 84, 0, 0, 1207) := by decide +kernel
theorem c171_1207 : vlk 171 1207 = some (6, 2, 0, 0, 1208) := by decide +kernel
theorem c171_1208 : vlk 171 1208 = some (6, 0, 0, 0, 1209) := by decide +kernel
theorem c171_1209 : vlk 171 1209 = some (4, 3, 0, 0, 1210) := by decide +kernel
theorem c171_1210 : vlk 171 1210 = some (1, 0, 0, 1, 1211) := by decide +kernel
theorem c171_1211 : vlk 171 1211 = some (11, 0, 0, 0, 1212) := by decide +kernel
theorem c171_1212 : vlk 171 1212 = some (45, 0, 0, 0, 1213) := by decide +kernel
theorem c171_1213 : vlk 171 1213 = some (6, 0, 0, 0, 1214) := by decide +kernel
theorem c171_1214 : vlk 171 1214 = some (4, 3, 0, 0, 1215) := by decide +kernel
theorem c171_1215 : vlk 171 1215 = some (1, 0, 0, 2, 1216) := by decide +kernel
theorem c171_1216 : vlk 171 1216 = some (11, 0, 0, 0, 1217) := by decide +kernel
theorem c171_1217 : vlk 171 1217 = some (45, 0, 0, 0, 1218) := by decide +kernel
theorem c171_1218 : vlk 171 1218 = some (6, 0, 0, 0, 1219) := by decide +kernel
theorem c171_1219 : vlk 171 1219 = some (4, 3, 0, 0, 1220) := by decide +kernel
theorem c171_1220 : vlk 171 1220 = some (1, 0, 0, 3, 1221) := by decide +kernel
theorem c171_1221 : vlk 171 1221 = some (11, 0, 0, 0, 1222) := by decide +kernel
theorem c171_1222 : vlk 171 1222 = some (45, 0, 0, 0, 1223) := by decide +kernel
theorem c171_1223 : vlk 171 1223 = some (6, 0, 0, 0, 1224) := by decide +kernel
theorem c171_1224 : vlk 171 1224 = some (4, 3, 0, 0, 1225) := by decide +kernel
theorem c171_1225 : vlk 171 1225 = some (1, 0, 0, 4, 1226) := by decide +kernel
theorem c171_1226 : vlk 171 1226 = some (11, 0, 0, 0, 1227) := by decide +kernel
theorem c171_1227 : vlk 171 1227 = some (45, 0, 0, 0, 1228) := by decide +kernel
theorem c171_1228 : vlk 171 1228 = some (58, 166, 0, 0, 1231) := by decide +kernel
theorem c171_1231 : vlk 171 1231 = some (76, 1262, 0, 0, 1234) := by decide +kernel
theorem c171_1236 : vlk 171 1236 = some (6, 1, 0, 0, 1237) := by decide +kernel
theorem c171_1237 : vlk 171 1237 = some (58, 85, 0, 0, 1240) := by decide +kernel
theorem c171_1240 : vlk 171 1240 = some (6, 2, 0, 0, 1241) := by decide +kernel
theorem c171_1241 : vlk 171 1241 = some (58, 167, 0, 0, 1244) := by decide +kernel
theorem c171_1244 : vlk 171 1244 = some (76, 1262, 0, 0, 1247) := by decide +kernel
theorem c171_1249 : vlk 171 1249 = some (6, 1, 0, 0, 1250) := by decide +kernel
theorem c171_1250 : vlk 171 1250 = some (58, 86, 0, 0, 1253) := by decide +kernel
theorem c171_1253 : vlk 171 1253 = some (6, 2, 0, 0, 1254) := by decide +kernel
theorem c171_1254 : vlk 171 1254 = some (58, 168, 0, 0, 1257) := by decide +kernel
theorem c171_1257 : vlk 171 1257 = some (76, 1262, 0, 0, 1260) := by decide +kernel
/-! the law, call by call -/
theorem l_feed {a b n d bc bs i : Nat} {f : Nat → Int} {σ : vSg} {h : vHp} {Q : vQ} (L : vLw h a b n f σ) (hf : vIr n f) (hi : i + 6 ≤ n) (hn : n ≤ 3072) (back : ∀ h' σ', vLw h' a b n f σ' → vW (vCall (d + 60)) 171 Q 1262 [.ref a, .ref b, .ref (b + 243), .int (iI (i : Int))] [] h' bc bs) : vW (vCall (d + 60)) 171 Q 176 [.ref a, .ref b, .ref (b + 243), .int (iI (i : Int))] [] h bc bs := by
  obtain ⟨hs, ha, hR, hD, hO⟩ := L
  have oR := hR.1
  refine r_aload c171_176 rfl (r_aload c171_177 rfl (r_iload c171_178 rfl (r_ci c171_179 (r_iadd c171_180 (r_iald c171_181 hs (by omega) (by omega) ?_)))))
  refine r_iv1 c171_182 vr_55 oR rfl (k_feed hR hO (hf _ (by omega)).1 (hf _ (by omega)).2 (fun h1 hR1 f1 => ?_))
  try dsimp only [vpush]
  have hs1 := (f1.2.2 a (by omega)).trans hs
  have hD1 := vMD_frb hD f1
  obtain ⟨oa, ow, ot, oM⟩ := vMD_o hD1
  refine r_aload c171_185 rfl (r_aload c171_186 rfl (r_iload c171_187 rfl (r_ci c171_188 (r_iadd c171_189 (r_iald c171_190 hs1 (by omega) (by omega) ?_)))))
  refine r_iv1 c171_191 vr_108 oM rfl (m_feed hD1 (hf _ (by omega)).1 (hf _ (by omega)).2 (fun h2 hD2 f2 => ?_))
  try dsimp only [vpush]
  have hs2 := (f2.2.2 a (by unfold vZd; omega)).trans hs1
  have hR2 := vRD_frc hR1 f2
  refine r_same c171_194 ?_
  exact back _ _ ⟨hs2, ha, hR2, hD2, (vOk_feed hO)⟩
theorem l_clear {a b n d bc bs i : Nat} {f : Nat → Int} {σ : vSg} {h : vHp} {Q : vQ} (L : vLw h a b n f σ) (hf : vIr n f) (hi : i + 6 ≤ n) (hn : n ≤ 3072) (back : ∀ h' σ', vLw h' a b n f σ' → vW (vCall (d + 60)) 171 Q 1262 [.ref a, .ref b, .ref (b + 243), .int (iI (i : Int))] [] h' bc bs) : vW (vCall (d + 60)) 171 Q 199 [.ref a, .ref b, .ref (b + 243), .int (iI (i : Int))] [] h bc bs := by
  obtain ⟨hs, ha, hR, hD, hO⟩ := L
  have oR := hR.1
  refine r_aload c171_199 rfl ?_
  refine r_iv0 c171_200 vr_56 oR rfl (k_clear hR  (fun h1 hR1 f1 => ?_))
  try dsimp only [vpush]
  have hs1 := (f1.2.2 a (by omega)).trans hs
  have hD1 := vMD_frb hD f1
  obtain ⟨oa, ow, ot, oM⟩ := vMD_o hD1
  refine r_aload c171_203 rfl ?_
  refine r_iv0 c171_204 vr_109 oM rfl (m_clear hD1  (fun h2 hD2 f2 => ?_))
  try dsimp only [vpush]
  have hs2 := (f2.2.2 a (by unfold vZd; omega)).trans hs1
  have hR2 := vRD_frc hR1 f2
  refine r_same c171_207 ?_
  exact back _ _ ⟨hs2, ha, hR2, hD2, (vOk_clear hO)⟩
theorem l_rule {a b n d bc bs i : Nat} {f : Nat → Int} {σ : vSg} {h : vHp} {Q : vQ} (L : vLw h a b n f σ) (hf : vIr n f) (hi : i + 6 ≤ n) (hn : n ≤ 3072) (back : ∀ h' σ', vLw h' a b n f σ' → vW (vCall (d + 60)) 171 Q 1262 [.ref a, .ref b, .ref (b + 243), .int (iI (i : Int))] [] h' bc bs) : vW (vCall (d + 60)) 171 Q 212 [.ref a, .ref b, .ref (b + 243), .int (iI (i : Int))] [] h bc bs := by
  obtain ⟨hs, ha, hR, hD, hO⟩ := L
  have oR := hR.1
  refine r_aload c171_212 rfl (r_aload c171_213 rfl (r_iload c171_214 rfl (r_ci c171_215 (r_iadd c171_216 (r_iald c171_217 hs (by omega) (by omega) ?_)))))
  refine r_iv1 c171_218 vr_57 oR rfl (k_rule hR hO (hf _ (by omega)).1 (hf _ (by omega)).2 (fun h1 hR1 f1 => ?_))
  try dsimp only [vpush]
  have hs1 := (f1.2.2 a (by omega)).trans hs
  have hD1 := vMD_frb hD f1
  obtain ⟨oa, ow, ot, oM⟩ := vMD_o hD1
  refine r_aload c171_221 rfl (r_aload c171_222 rfl (r_iload c171_223 rfl (r_ci c171_224 (r_iadd c171_225 (r_iald c171_226 hs1 (by omega) (by omega) ?_)))))
  refine r_iv1 c171_227 vr_126 oM rfl (m_rule hD1 hO (hf _ (by omega)).1 (hf _ (by omega)).2 (fun h2 hD2 f2 => ?_))
  try dsimp only [vpush]
  have hs2 := (f2.2.2 a (by unfold vZd; omega)).trans hs1
  have hR2 := vRD_frc hR1 f2
  refine r_same c171_230 ?_
  exact back _ _ ⟨hs2, ha, hR2, hD2, (vOk_rule hO)⟩
theorem l_drop {a b n d bc bs i : Nat} {f : Nat → Int} {σ : vSg} {h : vHp} {Q : vQ} (L : vLw h a b n f σ) (hf : vIr n f) (hi : i + 6 ≤ n) (hn : n ≤ 3072) (back : ∀ h' σ', vLw h' a b n f σ' → vW (vCall (d + 60)) 171 Q 1262 [.ref a, .ref b, .ref (b + 243), .int (iI (i : Int))] [] h' bc bs) : vW (vCall (d + 60)) 171 Q 235 [.ref a, .ref b, .ref (b + 243), .int (iI (i : Int))] [] h bc bs := by
  obtain ⟨hs, ha, hR, hD, hO⟩ := L
  have oR := hR.1
  refine r_aload c171_235 rfl (r_aload c171_236 rfl (r_iload c171_237 rfl (r_ci c171_238 (r_iadd c171_239 (r_iald c171_240 hs (by omega) (by omega) ?_)))))
  refine r_iv1 c171_241 vr_58 oR rfl (k_drop hR hO (hf _ (by omega)).1 (hf _ (by omega)).2 (fun h1 hR1 f1 => ?_))
  try dsimp only [vpush]
  have hs1 := (f1.2.2 a (by omega)).trans hs
  have hD1 := vMD_frb hD f1
  obtain ⟨oa, ow, ot, oM⟩ := vMD_o hD1
  refine r_aload c171_244 rfl (r_aload c171_245 rfl (r_iload c171_246 rfl (r_ci c171_247 (r_iadd c171_248 (r_iald c171_249 hs1 (by omega) (by omega) ?_)))))
  refine r_iv1 c171_250 vr_127 oM rfl (m_drop hD1 hO (hf _ (by omega)).1 (hf _ (by omega)).2 (fun h2 hD2 f2 => ?_))
  try dsimp only [vpush]
  have hs2 := (f2.2.2 a (by unfold vZd; omega)).trans hs1
  have hR2 := vRD_frc hR1 f2
  refine r_same c171_253 ?_
  exact back _ _ ⟨hs2, ha, hR2, hD2, (vOk_drop hO)⟩
theorem l_copy {a b n d bc bs i : Nat} {f : Nat → Int} {σ : vSg} {h : vHp} {Q : vQ} (L : vLw h a b n f σ) (hf : vIr n f) (hi : i + 6 ≤ n) (hn : n ≤ 3072) (back : ∀ h' σ', vLw h' a b n f σ' → vW (vCall (d + 60)) 171 Q 1262 [.ref a, .ref b, .ref (b + 243), .int (iI (i : Int))] [] h' bc bs) : vW (vCall (d + 60)) 171 Q 258 [.ref a, .ref b, .ref (b + 243), .int (iI (i : Int))] [] h bc bs := by
  obtain ⟨hs, ha, hR, hD, hO⟩ := L
  have oR := hR.1
  refine r_aload c171_258 rfl (r_aload c171_259 rfl (r_iload c171_260 rfl (r_ci c171_261 (r_iadd c171_262 (r_iald c171_263 hs (by omega) (by omega) (r_aload c171_264 rfl (r_iload c171_265 rfl (r_ci c171_266 (r_iadd c171_267 (r_iald c171_268 hs (by omega) (by omega) ?_))))))))))
  refine r_iv2 c171_269 vr_59 oR rfl (k_copy hR hO (hf _ (by omega)).1 (hf _ (by omega)).2 (hf _ (by omega)).1 (hf _ (by omega)).2 (fun h1 hR1 f1 => ?_))
  try dsimp only [vpush]
  have hs1 := (f1.2.2 a (by omega)).trans hs
  have hD1 := vMD_frb hD f1
  obtain ⟨oa, ow, ot, oM⟩ := vMD_o hD1
  refine r_aload c171_272 rfl (r_aload c171_273 rfl (r_iload c171_274 rfl (r_ci c171_275 (r_iadd c171_276 (r_iald c171_277 hs1 (by omega) (by omega) (r_aload c171_278 rfl (r_iload c171_279 rfl (r_ci c171_280 (r_iadd c171_281 (r_iald c171_282 hs1 (by omega) (by omega) ?_))))))))))
  refine r_iv2 c171_283 vr_128 oM rfl (m_copy hD1 hO (hf _ (by omega)).1 (hf _ (by omega)).2 (hf _ (by omega)).1 (hf _ (by omega)).2 (fun h2 hD2 f2 => ?_))
  try dsimp only [vpush]
  have hs2 := (f2.2.2 a (by unfold vZd; omega)).trans hs1
  have hR2 := vRD_frc hR1 f2
  refine r_same c171_286 ?_
  exact back _ _ ⟨hs2, ha, hR2, hD2, (vOk_copy hO)⟩
theorem l_out {a b n d bc bs i : Nat} {f : Nat → Int} {σ : vSg} {h : vHp} {Q : vQ} (L : vLw h a b n f σ) (hf : vIr n f) (hi : i + 6 ≤ n) (hn : n ≤ 3072) (back : ∀ h' σ', vLw h' a b n f σ' → vW (vCall (d + 60)) 171 Q 1262 [.ref a, .ref b, .ref (b + 243), .int (iI (i : Int))] [] h' bc bs) : vW (vCall (d + 60)) 171 Q 291 [.ref a, .ref b, .ref (b + 243), .int (iI (i : Int))] [] h bc bs := by
  obtain ⟨hs, ha, hR, hD, hO⟩ := L
  have oR := hR.1
  refine r_aload c171_291 rfl (r_aload c171_292 rfl (r_iload c171_293 rfl (r_ci c171_294 (r_iadd c171_295 (r_iald c171_296 hs (by omega) (by omega) (r_aload c171_297 rfl (r_iload c171_298 rfl (r_ci c171_299 (r_iadd c171_300 (r_iald c171_301 hs (by omega) (by omega) ?_))))))))))
  refine r_iv2 c171_302 vr_60 oR rfl (k_out hR hO (hf _ (by omega)).1 (hf _ (by omega)).2 (hf _ (by omega)).1 (hf _ (by omega)).2 (fun h1 hR1 f1 => ?_))
  try dsimp only [vpush]
  have hs1 := (f1.2.2 a (by omega)).trans hs
  have hD1 := vMD_frb hD f1
  obtain ⟨oa, ow, ot, oM⟩ := vMD_o hD1
  refine r_aload c171_305 rfl (r_aload c171_306 rfl (r_iload c171_307 rfl (r_ci c171_308 (r_iadd c171_309 (r_iald c171_310 hs1 (by omega) (by omega) (r_aload c171_311 rfl (r_iload c171_312 rfl (r_ci c171_313 (r_iadd c171_314 (r_iald c171_315 hs1 (by omega) (by omega) ?_))))))))))
  refine r_iv2 c171_316 vr_130 oM rfl (m_out hD1 hO (hf _ (by omega)).1 (hf _ (by omega)).2 (hf _ (by omega)).1 (hf _ (by omega)).2 (fun h2 hD2 f2 => ?_))
  try dsimp only [vpush]
  have hs2 := (f2.2.2 a (by unfold vZd; omega)).trans hs1
  have hR2 := vRD_frc hR1 f2
  refine r_same c171_319 ?_
  exact back _ _ ⟨hs2, ha, hR2, hD2, (vOk_out hO)⟩
theorem l_extra {a b n d bc bs i : Nat} {f : Nat → Int} {σ : vSg} {h : vHp} {Q : vQ} (L : vLw h a b n f σ) (hf : vIr n f) (hi : i + 6 ≤ n) (hn : n ≤ 3072) (back : ∀ h' σ', vLw h' a b n f σ' → vW (vCall (d + 60)) 171 Q 1262 [.ref a, .ref b, .ref (b + 243), .int (iI (i : Int))] [] h' bc bs) : vW (vCall (d + 60)) 171 Q 324 [.ref a, .ref b, .ref (b + 243), .int (iI (i : Int))] [] h bc bs := by
  obtain ⟨hs, ha, hR, hD, hO⟩ := L
  have oR := hR.1
  refine r_aload c171_324 rfl (r_aload c171_325 rfl (r_iload c171_326 rfl (r_ci c171_327 (r_iadd c171_328 (r_iald c171_329 hs (by omega) (by omega) (r_aload c171_330 rfl (r_iload c171_331 rfl (r_ci c171_332 (r_iadd c171_333 (r_iald c171_334 hs (by omega) (by omega) ?_))))))))))
  refine r_iv2 c171_335 vr_61 oR rfl (k_extra hR hO (hf _ (by omega)).1 (hf _ (by omega)).2 (hf _ (by omega)).1 (hf _ (by omega)).2 (fun h1 hR1 f1 => ?_))
  try dsimp only [vpush]
  have hs1 := (f1.2.2 a (by omega)).trans hs
  have hD1 := vMD_frb hD f1
  obtain ⟨oa, ow, ot, oM⟩ := vMD_o hD1
  refine r_aload c171_338 rfl (r_aload c171_339 rfl (r_iload c171_340 rfl (r_ci c171_341 (r_iadd c171_342 (r_iald c171_343 hs1 (by omega) (by omega) (r_aload c171_344 rfl (r_iload c171_345 rfl (r_ci c171_346 (r_iadd c171_347 (r_iald c171_348 hs1 (by omega) (by omega) ?_))))))))))
  refine r_iv2 c171_349 vr_131 oM rfl (m_extra hD1 hO (hf _ (by omega)).1 (hf _ (by omega)).2 (hf _ (by omega)).1 (hf _ (by omega)).2 (fun h2 hD2 f2 => ?_))
  try dsimp only [vpush]
  have hs2 := (f2.2.2 a (by unfold vZd; omega)).trans hs1
  have hR2 := vRD_frc hR1 f2
  refine r_same c171_352 ?_
  exact back _ _ ⟨hs2, ha, hR2, hD2, (vOk_extra hO)⟩
theorem l_has {a b n d bc bs i : Nat} {f : Nat → Int} {σ : vSg} {h : vHp} {Q : vQ} (L : vLw h a b n f σ) (hf : vIr n f) (hi : i + 6 ≤ n) (hn : n ≤ 3072) (back : ∀ h' σ', vLw h' a b n f σ' → vW (vCall (d + 60)) 171 Q 1262 [.ref a, .ref b, .ref (b + 243), .int (iI (i : Int))] [] h' bc bs) : vW (vCall (d + 60)) 171 Q 357 [.ref a, .ref b, .ref (b + 243), .int (iI (i : Int))] [] h bc bs := by
  obtain ⟨hs, ha, hR, hD, hO⟩ := L
  have oR := hR.1
  refine r_aload c171_357 rfl (r_aload c171_358 rfl (r_iload c171_359 rfl (r_ci c171_360 (r_iadd c171_361 (r_iald c171_362 hs (by omega) (by omega) (r_aload c171_363 rfl (r_iload c171_364 rfl (r_ci c171_365 (r_iadd c171_366 (r_iald c171_367 hs (by omega) (by omega) ?_))))))))))
  refine r_iv2 c171_368 vr_62 oR rfl (k_has hR (hf _ (by omega)).1 (hf _ (by omega)).2 (hf _ (by omega)).1 (hf _ (by omega)).2 ?_)
  try dsimp only [vpush]
  have hR1 := hR
  have hs1 := hs
  have hD1 := hD
  obtain ⟨oa, ow, ot, oM⟩ := vMD_o hD1
  refine r_aload c171_371 rfl (r_aload c171_372 rfl (r_iload c171_373 rfl (r_ci c171_374 (r_iadd c171_375 (r_iald c171_376 hs1 (by omega) (by omega) (r_aload c171_377 rfl (r_iload c171_378 rfl (r_ci c171_379 (r_iadd c171_380 (r_iald c171_381 hs1 (by omega) (by omega) ?_))))))))))
  refine r_iv2 c171_382 vr_133 oM rfl (m_has (vMD_n hD1) (hf _ (by omega)).1 (hf _ (by omega)).2 (hf _ (by omega)).1 (hf _ (by omega)).2 ?_)
  try dsimp only [vpush]
  have hR2 := hR1
  have hs2 := hs1
  have hD2 := hD1
  refine r_same c171_385 ?_
  exact back _ _ ⟨hs2, ha, hR2, hD2, hO⟩
theorem l_next {a b n d bc bs i : Nat} {f : Nat → Int} {σ : vSg} {h : vHp} {Q : vQ} (L : vLw h a b n f σ) (hf : vIr n f) (hi : i + 6 ≤ n) (hn : n ≤ 3072) (back : ∀ h' σ', vLw h' a b n f σ' → vW (vCall (d + 60)) 171 Q 1262 [.ref a, .ref b, .ref (b + 243), .int (iI (i : Int))] [] h' bc bs) : vW (vCall (d + 60)) 171 Q 390 [.ref a, .ref b, .ref (b + 243), .int (iI (i : Int))] [] h bc bs := by
  obtain ⟨hs, ha, hR, hD, hO⟩ := L
  have oR := hR.1
  refine r_aload c171_390 rfl (r_aload c171_391 rfl (r_iload c171_392 rfl (r_ci c171_393 (r_iadd c171_394 (r_iald c171_395 hs (by omega) (by omega) (r_aload c171_396 rfl (r_iload c171_397 rfl (r_ci c171_398 (r_iadd c171_399 (r_iald c171_400 hs (by omega) (by omega) ?_))))))))))
  refine r_iv2 c171_401 vr_63 oR rfl (k_next hR (hf _ (by omega)).1 (hf _ (by omega)).2 (hf _ (by omega)).1 (hf _ (by omega)).2 ?_)
  try dsimp only [vpush]
  have hR1 := hR
  have hs1 := hs
  have hD1 := hD
  obtain ⟨oa, ow, ot, oM⟩ := vMD_o hD1
  refine r_aload c171_404 rfl (r_aload c171_405 rfl (r_iload c171_406 rfl (r_ci c171_407 (r_iadd c171_408 (r_iald c171_409 hs1 (by omega) (by omega) (r_aload c171_410 rfl (r_iload c171_411 rfl (r_ci c171_412 (r_iadd c171_413 (r_iald c171_414 hs1 (by omega) (by omega) ?_))))))))))
  refine r_iv2 c171_415 vr_135 oM rfl (m_next (vMD_n hD1) (hf _ (by omega)).1 (hf _ (by omega)).2 (hf _ (by omega)).1 (hf _ (by omega)).2 ?_)
  try dsimp only [vpush]
  have hR2 := hR1
  have hs2 := hs1
  have hD2 := hD1
  refine r_same c171_418 ?_
  exact back _ _ ⟨hs2, ha, hR2, hD2, hO⟩
theorem l_ahead {a b n d bc bs i : Nat} {f : Nat → Int} {σ : vSg} {h : vHp} {Q : vQ} (L : vLw h a b n f σ) (hf : vIr n f) (hi : i + 6 ≤ n) (hn : n ≤ 3072) (back : ∀ h' σ', vLw h' a b n f σ' → vW (vCall (d + 60)) 171 Q 1262 [.ref a, .ref b, .ref (b + 243), .int (iI (i : Int))] [] h' bc bs) : vW (vCall (d + 60)) 171 Q 423 [.ref a, .ref b, .ref (b + 243), .int (iI (i : Int))] [] h bc bs := by
  obtain ⟨hs, ha, hR, hD, hO⟩ := L
  have oR := hR.1
  refine r_aload c171_423 rfl (r_aload c171_424 rfl (r_iload c171_425 rfl (r_ci c171_426 (r_iadd c171_427 (r_iald c171_428 hs (by omega) (by omega) (r_aload c171_429 rfl (r_iload c171_430 rfl (r_ci c171_431 (r_iadd c171_432 (r_iald c171_433 hs (by omega) (by omega) ?_))))))))))
  refine r_iv2 c171_434 vr_64 oR rfl (k_ahead hR (hf _ (by omega)).1 (hf _ (by omega)).2 (hf _ (by omega)).1 (hf _ (by omega)).2 ?_)
  try dsimp only [vpush]
  have hR1 := hR
  have hs1 := hs
  have hD1 := hD
  obtain ⟨oa, ow, ot, oM⟩ := vMD_o hD1
  refine r_aload c171_437 rfl (r_aload c171_438 rfl (r_iload c171_439 rfl (r_ci c171_440 (r_iadd c171_441 (r_iald c171_442 hs1 (by omega) (by omega) (r_aload c171_443 rfl (r_iload c171_444 rfl (r_ci c171_445 (r_iadd c171_446 (r_iald c171_447 hs1 (by omega) (by omega) ?_))))))))))
  refine r_iv2 c171_448 vr_136 oM rfl (m_ahead (vMD_n hD1) (hf _ (by omega)).1 (hf _ (by omega)).2 (hf _ (by omega)).1 (hf _ (by omega)).2 ?_)
  try dsimp only [vpush]
  have hR2 := hR1
  have hs2 := hs1
  have hD2 := hD1
  refine r_same c171_451 ?_
  exact back _ _ ⟨hs2, ha, hR2, hD2, hO⟩
theorem l_at {a b n d bc bs i : Nat} {f : Nat → Int} {σ : vSg} {h : vHp} {Q : vQ} (L : vLw h a b n f σ) (hf : vIr n f) (hi : i + 6 ≤ n) (hn : n ≤ 3072) (back : ∀ h' σ', vLw h' a b n f σ' → vW (vCall (d + 60)) 171 Q 1262 [.ref a, .ref b, .ref (b + 243), .int (iI (i : Int))] [] h' bc bs) : vW (vCall (d + 60)) 171 Q 456 [.ref a, .ref b, .ref (b + 243), .int (iI (i : Int))] [] h bc bs := by
  obtain ⟨hs, ha, hR, hD, hO⟩ := L
  have oR := hR.1
  refine r_aload c171_456 rfl (r_aload c171_457 rfl (r_iload c171_458 rfl (r_ci c171_459 (r_iadd c171_460 (r_iald c171_461 hs (by omega) (by omega) (r_aload c171_462 rfl (r_iload c171_463 rfl (r_ci c171_464 (r_iadd c171_465 (r_iald c171_466 hs (by omega) (by omega) ?_))))))))))
  refine r_iv2 c171_467 vr_65 oR rfl (k_at hR (hf _ (by omega)).1 (hf _ (by omega)).2 (hf _ (by omega)).1 (hf _ (by omega)).2 ?_)
  try dsimp only [vpush]
  have hR1 := hR
  have hs1 := hs
  have hD1 := hD
  obtain ⟨oa, ow, ot, oM⟩ := vMD_o hD1
  refine r_aload c171_470 rfl (r_aload c171_471 rfl (r_iload c171_472 rfl (r_ci c171_473 (r_iadd c171_474 (r_iald c171_475 hs1 (by omega) (by omega) (r_aload c171_476 rfl (r_iload c171_477 rfl (r_ci c171_478 (r_iadd c171_479 (r_iald c171_480 hs1 (by omega) (by omega) ?_))))))))))
  refine r_iv2 c171_481 vr_138 oM rfl (m_at (vMD_n hD1) (hf _ (by omega)).1 (hf _ (by omega)).2 (hf _ (by omega)).1 (hf _ (by omega)).2 ?_)
  try dsimp only [vpush]
  have hR2 := hR1
  have hs2 := hs1
  have hD2 := hD1
  refine r_same c171_484 ?_
  exact back _ _ ⟨hs2, ha, hR2, hD2, hO⟩
theorem l_count {a b n d bc bs i : Nat} {f : Nat → Int} {σ : vSg} {h : vHp} {Q : vQ} (L : vLw h a b n f σ) (hf : vIr n f) (hi : i + 6 ≤ n) (hn : n ≤ 3072) (back : ∀ h' σ', vLw h' a b n f σ' → vW (vCall (d + 60)) 171 Q 1262 [.ref a, .ref b, .ref (b + 243), .int (iI (i : Int))] [] h' bc bs) : vW (vCall (d + 60)) 171 Q 489 [.ref a, .ref b, .ref (b + 243), .int (iI (i : Int))] [] h bc bs := by
  obtain ⟨hs, ha, hR, hD, hO⟩ := L
  have oR := hR.1
  refine r_aload c171_489 rfl (r_aload c171_490 rfl (r_iload c171_491 rfl (r_ci c171_492 (r_iadd c171_493 (r_iald c171_494 hs (by omega) (by omega) (r_aload c171_495 rfl (r_iload c171_496 rfl (r_ci c171_497 (r_iadd c171_498 (r_iald c171_499 hs (by omega) (by omega) (r_aload c171_500 rfl (r_iload c171_501 rfl (r_ci c171_502 (r_iadd c171_503 (r_iald c171_504 hs (by omega) (by omega) ?_)))))))))))))))
  refine r_iv3 c171_505 vr_66 oR rfl (k_count hR hO (hf _ (by omega)).1 (hf _ (by omega)).2 (hf _ (by omega)).1 (hf _ (by omega)).2 (hf _ (by omega)).1 (hf _ (by omega)).2 (fun h1 hR1 f1 => ?_))
  try dsimp only [vpush]
  have hs1 := (f1.2.2 a (by omega)).trans hs
  have hD1 := vMD_frb hD f1
  obtain ⟨oa, ow, ot, oM⟩ := vMD_o hD1
  refine r_aload c171_508 rfl (r_aload c171_509 rfl (r_iload c171_510 rfl (r_ci c171_511 (r_iadd c171_512 (r_iald c171_513 hs1 (by omega) (by omega) (r_aload c171_514 rfl (r_iload c171_515 rfl (r_ci c171_516 (r_iadd c171_517 (r_iald c171_518 hs1 (by omega) (by omega) (r_aload c171_519 rfl (r_iload c171_520 rfl (r_ci c171_521 (r_iadd c171_522 (r_iald c171_523 hs1 (by omega) (by omega) ?_)))))))))))))))
  refine r_iv3 c171_524 vr_141 oM rfl (m_count hD1 hO (hf _ (by omega)).1 (hf _ (by omega)).2 (hf _ (by omega)).1 (hf _ (by omega)).2 (hf _ (by omega)).1 (hf _ (by omega)).2 (fun h2 hD2 f2 => ?_))
  try dsimp only [vpush]
  have hs2 := (f2.2.2 a (by unfold vZd; omega)).trans hs1
  have hR2 := vRD_frc hR1 f2
  refine r_same c171_527 ?_
  exact back _ _ ⟨hs2, ha, hR2, hD2, (vOk_count hO)⟩
theorem l_gap {a b n d bc bs i : Nat} {f : Nat → Int} {σ : vSg} {h : vHp} {Q : vQ} (L : vLw h a b n f σ) (hf : vIr n f) (hi : i + 6 ≤ n) (hn : n ≤ 3072) (back : ∀ h' σ', vLw h' a b n f σ' → vW (vCall (d + 60)) 171 Q 1262 [.ref a, .ref b, .ref (b + 243), .int (iI (i : Int))] [] h' bc bs) : vW (vCall (d + 60)) 171 Q 532 [.ref a, .ref b, .ref (b + 243), .int (iI (i : Int))] [] h bc bs := by
  obtain ⟨hs, ha, hR, hD, hO⟩ := L
  have oR := hR.1
  refine r_aload c171_532 rfl (r_aload c171_533 rfl (r_iload c171_534 rfl (r_ci c171_535 (r_iadd c171_536 (r_iald c171_537 hs (by omega) (by omega) ?_)))))
  refine r_iv1 c171_538 vr_67 oR rfl (k_gap hR (hf _ (by omega)).1 (hf _ (by omega)).2 ?_)
  try dsimp only [vpush]
  have hR1 := hR
  have hs1 := hs
  have hD1 := hD
  obtain ⟨oa, ow, ot, oM⟩ := vMD_o hD1
  refine r_aload c171_541 rfl (r_aload c171_542 rfl (r_iload c171_543 rfl (r_ci c171_544 (r_iadd c171_545 (r_iald c171_546 hs1 (by omega) (by omega) ?_)))))
  refine r_iv1 c171_547 vr_142 oM rfl (m_gap (vMD_n hD1) (hf _ (by omega)).1 (hf _ (by omega)).2 ?_)
  try dsimp only [vpush]
  have hR2 := hR1
  have hs2 := hs1
  have hD2 := hD1
  refine r_same c171_550 ?_
  exact back _ _ ⟨hs2, ha, hR2, hD2, hO⟩
theorem l_period {a b n d bc bs i : Nat} {f : Nat → Int} {σ : vSg} {h : vHp} {Q : vQ} (L : vLw h a b n f σ) (hf : vIr n f) (hi : i + 6 ≤ n) (hn : n ≤ 3072) (back : ∀ h' σ', vLw h' a b n f σ' → vW (vCall (d + 60)) 171 Q 1262 [.ref a, .ref b, .ref (b + 243), .int (iI (i : Int))] [] h' bc bs) : vW (vCall (d + 60)) 171 Q 555 [.ref a, .ref b, .ref (b + 243), .int (iI (i : Int))] [] h bc bs := by
  obtain ⟨hs, ha, hR, hD, hO⟩ := L
  have oR := hR.1
  refine r_aload c171_555 rfl (r_aload c171_556 rfl (r_iload c171_557 rfl (r_ci c171_558 (r_iadd c171_559 (r_iald c171_560 hs (by omega) (by omega) ?_)))))
  refine r_iv1 c171_561 vr_68 oR rfl (k_period hR (hf _ (by omega)).1 (hf _ (by omega)).2 ?_)
  try dsimp only [vpush]
  have hR1 := hR
  have hs1 := hs
  have hD1 := hD
  obtain ⟨oa, ow, ot, oM⟩ := vMD_o hD1
  refine r_aload c171_564 rfl (r_aload c171_565 rfl (r_iload c171_566 rfl (r_ci c171_567 (r_iadd c171_568 (r_iald c171_569 hs1 (by omega) (by omega) ?_)))))
  refine r_iv1 c171_570 vr_143 oM rfl (m_period (vMD_n hD1) (hf _ (by omega)).1 (hf _ (by omega)).2 ?_)
  try dsimp only [vpush]
  have hR2 := hR1
  have hs2 := hs1
  have hD2 := hD1
  refine r_same c171_573 ?_
  exact back _ _ ⟨hs2, ha, hR2, hD2, hO⟩
theorem l_clash {a b n d bc bs i : Nat} {f : Nat → Int} {σ : vSg} {h : vHp} {Q : vQ} (L : vLw h a b n f σ) (hf : vIr n f) (hi : i + 6 ≤ n) (hn : n ≤ 3072) (back : ∀ h' σ', vLw h' a b n f σ' → vW (vCall (d + 60)) 171 Q 1262 [.ref a, .ref b, .ref (b + 243), .int (iI (i : Int))] [] h' bc bs) : vW (vCall (d + 60)) 171 Q 578 [.ref a, .ref b, .ref (b + 243), .int (iI (i : Int))] [] h bc bs := by
  obtain ⟨hs, ha, hR, hD, hO⟩ := L
  have oR := hR.1
  refine r_aload c171_578 rfl (r_aload c171_579 rfl (r_iload c171_580 rfl (r_ci c171_581 (r_iadd c171_582 (r_iald c171_583 hs (by omega) (by omega) (r_aload c171_584 rfl (r_iload c171_585 rfl (r_ci c171_586 (r_iadd c171_587 (r_iald c171_588 hs (by omega) (by omega) (r_aload c171_589 rfl (r_iload c171_590 rfl (r_ci c171_591 (r_iadd c171_592 (r_iald c171_593 hs (by omega) (by omega) ?_)))))))))))))))
  refine r_iv3 c171_594 vr_69 oR rfl (k_clash hR (hf _ (by omega)).1 (hf _ (by omega)).2 (hf _ (by omega)).1 (hf _ (by omega)).2 (hf _ (by omega)).1 (hf _ (by omega)).2 ?_)
  try dsimp only [vpush]
  have hR1 := hR
  have hs1 := hs
  have hD1 := hD
  obtain ⟨oa, ow, ot, oM⟩ := vMD_o hD1
  refine r_aload c171_597 rfl (r_aload c171_598 rfl (r_iload c171_599 rfl (r_ci c171_600 (r_iadd c171_601 (r_iald c171_602 hs1 (by omega) (by omega) (r_aload c171_603 rfl (r_iload c171_604 rfl (r_ci c171_605 (r_iadd c171_606 (r_iald c171_607 hs1 (by omega) (by omega) (r_aload c171_608 rfl (r_iload c171_609 rfl (r_ci c171_610 (r_iadd c171_611 (r_iald c171_612 hs1 (by omega) (by omega) ?_)))))))))))))))
  refine r_iv3 c171_613 vr_144 oM rfl (m_clash (vMD_n hD1) (hf _ (by omega)).1 (hf _ (by omega)).2 (hf _ (by omega)).1 (hf _ (by omega)).2 (hf _ (by omega)).1 (hf _ (by omega)).2 ?_)
  try dsimp only [vpush]
  have hR2 := hR1
  have hs2 := hs1
  have hD2 := hD1
  refine r_same c171_616 ?_
  exact back _ _ ⟨hs2, ha, hR2, hD2, hO⟩
theorem l_unlike {a b n d bc bs i : Nat} {f : Nat → Int} {σ : vSg} {h : vHp} {Q : vQ} (L : vLw h a b n f σ) (hf : vIr n f) (hi : i + 6 ≤ n) (hn : n ≤ 3072) (back : ∀ h' σ', vLw h' a b n f σ' → vW (vCall (d + 60)) 171 Q 1262 [.ref a, .ref b, .ref (b + 243), .int (iI (i : Int))] [] h' bc bs) : vW (vCall (d + 60)) 171 Q 621 [.ref a, .ref b, .ref (b + 243), .int (iI (i : Int))] [] h bc bs := by
  obtain ⟨hs, ha, hR, hD, hO⟩ := L
  have oR := hR.1
  refine r_aload c171_621 rfl (r_aload c171_622 rfl (r_iload c171_623 rfl (r_ci c171_624 (r_iadd c171_625 (r_iald c171_626 hs (by omega) (by omega) (r_aload c171_627 rfl (r_iload c171_628 rfl (r_ci c171_629 (r_iadd c171_630 (r_iald c171_631 hs (by omega) (by omega) ?_))))))))))
  refine r_iv2 c171_632 vr_70 oR rfl (k_unlike hR (hf _ (by omega)).1 (hf _ (by omega)).2 (hf _ (by omega)).1 (hf _ (by omega)).2 ?_)
  try dsimp only [vpush]
  have hR1 := hR
  have hs1 := hs
  have hD1 := hD
  obtain ⟨oa, ow, ot, oM⟩ := vMD_o hD1
  refine r_aload c171_635 rfl (r_aload c171_636 rfl (r_iload c171_637 rfl (r_ci c171_638 (r_iadd c171_639 (r_iald c171_640 hs1 (by omega) (by omega) (r_aload c171_641 rfl (r_iload c171_642 rfl (r_ci c171_643 (r_iadd c171_644 (r_iald c171_645 hs1 (by omega) (by omega) ?_))))))))))
  refine r_iv2 c171_646 vr_145 oM rfl (m_unlike (vMD_n hD1) (hf _ (by omega)).1 (hf _ (by omega)).2 (hf _ (by omega)).1 (hf _ (by omega)).2 ?_)
  try dsimp only [vpush]
  have hR2 := hR1
  have hs2 := hs1
  have hD2 := hD1
  refine r_same c171_649 ?_
  exact back _ _ ⟨hs2, ha, hR2, hD2, hO⟩
theorem l_merged {a b n d bc bs i : Nat} {f : Nat → Int} {σ : vSg} {h : vHp} {Q : vQ} (L : vLw h a b n f σ) (hf : vIr n f) (hi : i + 6 ≤ n) (hn : n ≤ 3072) (back : ∀ h' σ', vLw h' a b n f σ' → vW (vCall (d + 60)) 171 Q 1262 [.ref a, .ref b, .ref (b + 243), .int (iI (i : Int))] [] h' bc bs) : vW (vCall (d + 60)) 171 Q 654 [.ref a, .ref b, .ref (b + 243), .int (iI (i : Int))] [] h bc bs := by
  obtain ⟨hs, ha, hR, hD, hO⟩ := L
  have oR := hR.1
  refine r_aload c171_654 rfl (r_aload c171_655 rfl (r_iload c171_656 rfl (r_ci c171_657 (r_iadd c171_658 (r_iald c171_659 hs (by omega) (by omega) (r_aload c171_660 rfl (r_iload c171_661 rfl (r_ci c171_662 (r_iadd c171_663 (r_iald c171_664 hs (by omega) (by omega) ?_))))))))))
  refine r_iv2 c171_665 vr_71 oR rfl (k_merged hR (hf _ (by omega)).1 (hf _ (by omega)).2 (hf _ (by omega)).1 (hf _ (by omega)).2 (fun h1 hR1 f1 => ?_))
  try dsimp only [vpush]
  have hs1 := (f1.2.2 a (by omega)).trans hs
  have hD1 := vMD_frb hD f1
  obtain ⟨oa, ow, ot, oM⟩ := vMD_o hD1
  refine r_aload c171_668 rfl (r_aload c171_669 rfl (r_iload c171_670 rfl (r_ci c171_671 (r_iadd c171_672 (r_iald c171_673 hs1 (by omega) (by omega) (r_aload c171_674 rfl (r_iload c171_675 rfl (r_ci c171_676 (r_iadd c171_677 (r_iald c171_678 hs1 (by omega) (by omega) ?_))))))))))
  refine r_iv2 c171_679 vr_149 oM rfl (m_merged (vMD_n hD1) (hf _ (by omega)).1 (hf _ (by omega)).2 (hf _ (by omega)).1 (hf _ (by omega)).2 ?_)
  try dsimp only [vpush]
  have hR2 := hR1
  have hs2 := hs1
  have hD2 := hD1
  refine r_same c171_682 ?_
  exact back _ _ ⟨hs2, ha, hR2, hD2, hO⟩
theorem l_whose {a b n d bc bs i : Nat} {f : Nat → Int} {σ : vSg} {h : vHp} {Q : vQ} (L : vLw h a b n f σ) (hf : vIr n f) (hi : i + 6 ≤ n) (hn : n ≤ 3072) (back : ∀ h' σ', vLw h' a b n f σ' → vW (vCall (d + 60)) 171 Q 1262 [.ref a, .ref b, .ref (b + 243), .int (iI (i : Int))] [] h' bc bs) : vW (vCall (d + 60)) 171 Q 687 [.ref a, .ref b, .ref (b + 243), .int (iI (i : Int))] [] h bc bs := by
  obtain ⟨hs, ha, hR, hD, hO⟩ := L
  have oR := hR.1
  refine r_aload c171_687 rfl (r_aload c171_688 rfl (r_iload c171_689 rfl (r_ci c171_690 (r_iadd c171_691 (r_iald c171_692 hs (by omega) (by omega) (r_aload c171_693 rfl (r_iload c171_694 rfl (r_ci c171_695 (r_iadd c171_696 (r_iald c171_697 hs (by omega) (by omega) ?_))))))))))
  refine r_iv2 c171_698 vr_72 oR rfl (k_whose hR (hf _ (by omega)).1 (hf _ (by omega)).2 (hf _ (by omega)).1 (hf _ (by omega)).2 (fun h1 hR1 f1 => ?_))
  try dsimp only [vpush]
  have hs1 := (f1.2.2 a (by omega)).trans hs
  have hD1 := vMD_frb hD f1
  obtain ⟨oa, ow, ot, oM⟩ := vMD_o hD1
  refine r_aload c171_701 rfl (r_aload c171_702 rfl (r_iload c171_703 rfl (r_ci c171_704 (r_iadd c171_705 (r_iald c171_706 hs1 (by omega) (by omega) (r_aload c171_707 rfl (r_iload c171_708 rfl (r_ci c171_709 (r_iadd c171_710 (r_iald c171_711 hs1 (by omega) (by omega) ?_))))))))))
  refine r_iv2 c171_712 vr_150 oM rfl (m_whose (vMD_n hD1) (hf _ (by omega)).1 (hf _ (by omega)).2 (hf _ (by omega)).1 (hf _ (by omega)).2 ?_)
  try dsimp only [vpush]
  have hR2 := hR1
  have hs2 := hs1
  have hD2 := hD1
  refine r_same c171_715 ?_
  exact back _ _ ⟨hs2, ha, hR2, hD2, hO⟩
theorem l_busiest {a b n d bc bs i : Nat} {f : Nat → Int} {σ : vSg} {h : vHp} {Q : vQ} (L : vLw h a b n f σ) (hf : vIr n f) (hi : i + 6 ≤ n) (hn : n ≤ 3072) (back : ∀ h' σ', vLw h' a b n f σ' → vW (vCall (d + 60)) 171 Q 1262 [.ref a, .ref b, .ref (b + 243), .int (iI (i : Int))] [] h' bc bs) : vW (vCall (d + 60)) 171 Q 720 [.ref a, .ref b, .ref (b + 243), .int (iI (i : Int))] [] h bc bs := by
  obtain ⟨hs, ha, hR, hD, hO⟩ := L
  have oR := hR.1
  refine r_aload c171_720 rfl (r_aload c171_721 rfl (r_iload c171_722 rfl (r_ci c171_723 (r_iadd c171_724 (r_iald c171_725 hs (by omega) (by omega) (r_aload c171_726 rfl (r_iload c171_727 rfl (r_ci c171_728 (r_iadd c171_729 (r_iald c171_730 hs (by omega) (by omega) (r_aload c171_731 rfl (r_iload c171_732 rfl (r_ci c171_733 (r_iadd c171_734 (r_iald c171_735 hs (by omega) (by omega) ?_)))))))))))))))
  refine r_iv3 c171_736 vr_73 oR rfl (k_busiest hR (hf _ (by omega)).1 (hf _ (by omega)).2 (hf _ (by omega)).1 (hf _ (by omega)).2 (hf _ (by omega)).1 (hf _ (by omega)).2 ?_)
  try dsimp only [vpush]
  have hR1 := hR
  have hs1 := hs
  have hD1 := hD
  obtain ⟨oa, ow, ot, oM⟩ := vMD_o hD1
  refine r_aload c171_739 rfl (r_aload c171_740 rfl (r_iload c171_741 rfl (r_ci c171_742 (r_iadd c171_743 (r_iald c171_744 hs1 (by omega) (by omega) (r_aload c171_745 rfl (r_iload c171_746 rfl (r_ci c171_747 (r_iadd c171_748 (r_iald c171_749 hs1 (by omega) (by omega) (r_aload c171_750 rfl (r_iload c171_751 rfl (r_ci c171_752 (r_iadd c171_753 (r_iald c171_754 hs1 (by omega) (by omega) ?_)))))))))))))))
  refine r_iv3 c171_755 vr_152 oM rfl (m_busiest (vMD_n hD1) (hf _ (by omega)).1 (hf _ (by omega)).2 (hf _ (by omega)).1 (hf _ (by omega)).2 (hf _ (by omega)).1 (hf _ (by omega)).2 ?_)
  try dsimp only [vpush]
  have hR2 := hR1
  have hs2 := hs1
  have hD2 := hD1
  refine r_same c171_758 ?_
  exact back _ _ ⟨hs2, ha, hR2, hD2, hO⟩
theorem l_free {a b n d bc bs i : Nat} {f : Nat → Int} {σ : vSg} {h : vHp} {Q : vQ} (L : vLw h a b n f σ) (hf : vIr n f) (hi : i + 6 ≤ n) (hn : n ≤ 3072) (back : ∀ h' σ', vLw h' a b n f σ' → vW (vCall (d + 60)) 171 Q 1262 [.ref a, .ref b, .ref (b + 243), .int (iI (i : Int))] [] h' bc bs) : vW (vCall (d + 60)) 171 Q 763 [.ref a, .ref b, .ref (b + 243), .int (iI (i : Int))] [] h bc bs := by
  obtain ⟨hs, ha, hR, hD, hO⟩ := L
  have oR := hR.1
  refine r_aload c171_763 rfl (r_aload c171_764 rfl (r_iload c171_765 rfl (r_ci c171_766 (r_iadd c171_767 (r_iald c171_768 hs (by omega) (by omega) (r_aload c171_769 rfl (r_iload c171_770 rfl (r_ci c171_771 (r_iadd c171_772 (r_iald c171_773 hs (by omega) (by omega) (r_aload c171_774 rfl (r_iload c171_775 rfl (r_ci c171_776 (r_iadd c171_777 (r_iald c171_778 hs (by omega) (by omega) ?_)))))))))))))))
  refine r_iv3 c171_779 vr_74 oR rfl (k_free hR (hf _ (by omega)).1 (hf _ (by omega)).2 (hf _ (by omega)).1 (hf _ (by omega)).2 (hf _ (by omega)).1 (hf _ (by omega)).2 (fun h1 hR1 f1 => ?_))
  try dsimp only [vpush]
  have hs1 := (f1.2.2 a (by omega)).trans hs
  have hD1 := vMD_frb hD f1
  obtain ⟨oa, ow, ot, oM⟩ := vMD_o hD1
  refine r_aload c171_782 rfl (r_aload c171_783 rfl (r_iload c171_784 rfl (r_ci c171_785 (r_iadd c171_786 (r_iald c171_787 hs1 (by omega) (by omega) (r_aload c171_788 rfl (r_iload c171_789 rfl (r_ci c171_790 (r_iadd c171_791 (r_iald c171_792 hs1 (by omega) (by omega) (r_aload c171_793 rfl (r_iload c171_794 rfl (r_ci c171_795 (r_iadd c171_796 (r_iald c171_797 hs1 (by omega) (by omega) ?_)))))))))))))))
  refine r_iv3 c171_798 vr_153 oM rfl (m_free (vMD_n hD1) (hf _ (by omega)).1 (hf _ (by omega)).2 (hf _ (by omega)).1 (hf _ (by omega)).2 (hf _ (by omega)).1 (hf _ (by omega)).2 ?_)
  try dsimp only [vpush]
  have hR2 := hR1
  have hs2 := hs1
  have hD2 := hD1
  refine r_same c171_801 ?_
  exact back _ _ ⟨hs2, ha, hR2, hD2, hO⟩
theorem l_parts {a b n d bc bs i : Nat} {f : Nat → Int} {σ : vSg} {h : vHp} {Q : vQ} (L : vLw h a b n f σ) (hf : vIr n f) (hi : i + 6 ≤ n) (hn : n ≤ 3072) (back : ∀ h' σ', vLw h' a b n f σ' → vW (vCall (d + 60)) 171 Q 1262 [.ref a, .ref b, .ref (b + 243), .int (iI (i : Int))] [] h' bc bs) : vW (vCall (d + 60)) 171 Q 806 [.ref a, .ref b, .ref (b + 243), .int (iI (i : Int))] [] h bc bs := by
  obtain ⟨hs, ha, hR, hD, hO⟩ := L
  have oR := hR.1
  refine r_aload c171_806 rfl (r_aload c171_807 rfl (r_iload c171_808 rfl (r_ci c171_809 (r_iadd c171_810 (r_iald c171_811 hs (by omega) (by omega) (r_aload c171_812 rfl (r_iload c171_813 rfl (r_ci c171_814 (r_iadd c171_815 (r_iald c171_816 hs (by omega) (by omega) (r_aload c171_817 rfl (r_iload c171_818 rfl (r_ci c171_819 (r_iadd c171_820 (r_iald c171_821 hs (by omega) (by omega) ?_)))))))))))))))
  refine r_iv3 c171_822 vr_75 oR rfl (k_parts hR (hf _ (by omega)).1 (hf _ (by omega)).2 (hf _ (by omega)).1 (hf _ (by omega)).2 (hf _ (by omega)).1 (hf _ (by omega)).2 ?_)
  try dsimp only [vpush]
  have hR1 := hR
  have hs1 := hs
  have hD1 := hD
  obtain ⟨oa, ow, ot, oM⟩ := vMD_o hD1
  refine r_aload c171_825 rfl (r_aload c171_826 rfl (r_iload c171_827 rfl (r_ci c171_828 (r_iadd c171_829 (r_iald c171_830 hs1 (by omega) (by omega) (r_aload c171_831 rfl (r_iload c171_832 rfl (r_ci c171_833 (r_iadd c171_834 (r_iald c171_835 hs1 (by omega) (by omega) (r_aload c171_836 rfl (r_iload c171_837 rfl (r_ci c171_838 (r_iadd c171_839 (r_iald c171_840 hs1 (by omega) (by omega) ?_)))))))))))))))
  refine r_iv3 c171_841 vr_155 oM rfl (m_parts (vMD_n hD1) (hf _ (by omega)).1 (hf _ (by omega)).2 (hf _ (by omega)).1 (hf _ (by omega)).2 (hf _ (by omega)).1 (hf _ (by omega)).2 ?_)
  try dsimp only [vpush]
  have hR2 := hR1
  have hs2 := hs1
  have hD2 := hD1
  refine r_same c171_844 ?_
  exact back _ _ ⟨hs2, ha, hR2, hD2, hO⟩
theorem l_nth {a b n d bc bs i : Nat} {f : Nat → Int} {σ : vSg} {h : vHp} {Q : vQ} (L : vLw h a b n f σ) (hf : vIr n f) (hi : i + 6 ≤ n) (hn : n ≤ 3072) (back : ∀ h' σ', vLw h' a b n f σ' → vW (vCall (d + 60)) 171 Q 1262 [.ref a, .ref b, .ref (b + 243), .int (iI (i : Int))] [] h' bc bs) : vW (vCall (d + 60)) 171 Q 849 [.ref a, .ref b, .ref (b + 243), .int (iI (i : Int))] [] h bc bs := by
  obtain ⟨hs, ha, hR, hD, hO⟩ := L
  have oR := hR.1
  refine r_aload c171_849 rfl (r_aload c171_850 rfl (r_iload c171_851 rfl (r_ci c171_852 (r_iadd c171_853 (r_iald c171_854 hs (by omega) (by omega) (r_aload c171_855 rfl (r_iload c171_856 rfl (r_ci c171_857 (r_iadd c171_858 (r_iald c171_859 hs (by omega) (by omega) (r_aload c171_860 rfl (r_iload c171_861 rfl (r_ci c171_862 (r_iadd c171_863 (r_iald c171_864 hs (by omega) (by omega) (r_aload c171_865 rfl (r_iload c171_866 rfl (r_ci c171_867 (r_iadd c171_868 (r_iald c171_869 hs (by omega) (by omega) ?_))))))))))))))))))))
  refine r_iv4 c171_870 vr_76 oR rfl (k_nth hR (hf _ (by omega)).1 (hf _ (by omega)).2 (hf _ (by omega)).1 (hf _ (by omega)).2 (hf _ (by omega)).1 (hf _ (by omega)).2 (hf _ (by omega)).1 (hf _ (by omega)).2 ?_)
  try dsimp only [vpush]
  have hR1 := hR
  have hs1 := hs
  have hD1 := hD
  obtain ⟨oa, ow, ot, oM⟩ := vMD_o hD1
  refine r_aload c171_873 rfl (r_aload c171_874 rfl (r_iload c171_875 rfl (r_ci c171_876 (r_iadd c171_877 (r_iald c171_878 hs1 (by omega) (by omega) (r_aload c171_879 rfl (r_iload c171_880 rfl (r_ci c171_881 (r_iadd c171_882 (r_iald c171_883 hs1 (by omega) (by omega) (r_aload c171_884 rfl (r_iload c171_885 rfl (r_ci c171_886 (r_iadd c171_887 (r_iald c171_888 hs1 (by omega) (by omega) (r_aload c171_889 rfl (r_iload c171_890 rfl (r_ci c171_891 (r_iadd c171_892 (r_iald c171_893 hs1 (by omega) (by omega) ?_))))))))))))))))))))
  refine r_iv4 c171_894 vr_156 oM rfl (m_nth (vMD_n hD1) (hf _ (by omega)).1 (hf _ (by omega)).2 (hf _ (by omega)).1 (hf _ (by omega)).2 (hf _ (by omega)).1 (hf _ (by omega)).2 (hf _ (by omega)).1 (hf _ (by omega)).2 ?_)
  try dsimp only [vpush]
  have hR2 := hR1
  have hs2 := hs1
  have hD2 := hD1
  refine r_same c171_897 ?_
  exact back _ _ ⟨hs2, ha, hR2, hD2, hO⟩
theorem l_told {a b n d bc bs i : Nat} {f : Nat → Int} {σ : vSg} {h : vHp} {Q : vQ} (L : vLw h a b n f σ) (hf : vIr n f) (hi : i + 6 ≤ n) (hn : n ≤ 3072) (back : ∀ h' σ', vLw h' a b n f σ' → vW (vCall (d + 60)) 171 Q 1262 [.ref a, .ref b, .ref (b + 243), .int (iI (i : Int))] [] h' bc bs) : vW (vCall (d + 60)) 171 Q 902 [.ref a, .ref b, .ref (b + 243), .int (iI (i : Int))] [] h bc bs := by
  obtain ⟨hs, ha, hR, hD, hO⟩ := L
  have oR := hR.1
  refine r_aload c171_902 rfl (r_aload c171_903 rfl (r_iload c171_904 rfl (r_ci c171_905 (r_iadd c171_906 (r_iald c171_907 hs (by omega) (by omega) ?_)))))
  refine r_iv1 c171_908 vr_77 oR rfl (k_told hR (hf _ (by omega)).1 (hf _ (by omega)).2 ?_)
  try dsimp only [vpush]
  have hR1 := hR
  have hs1 := hs
  have hD1 := hD
  obtain ⟨oa, ow, ot, oM⟩ := vMD_o hD1
  refine r_aload c171_911 rfl (r_aload c171_912 rfl (r_iload c171_913 rfl (r_ci c171_914 (r_iadd c171_915 (r_iald c171_916 hs1 (by omega) (by omega) ?_)))))
  refine r_iv1 c171_917 vr_157 oM rfl (m_told hD1 (hf _ (by omega)).1 (hf _ (by omega)).2 ?_)
  try dsimp only [vpush]
  have hR2 := hR1
  have hs2 := hs1
  have hD2 := hD1
  refine r_same c171_920 ?_
  exact back _ _ ⟨hs2, ha, hR2, hD2, hO⟩
theorem l_remembered {a b n d bc bs i : Nat} {f : Nat → Int} {σ : vSg} {h : vHp} {Q : vQ} (L : vLw h a b n f σ) (hf : vIr n f) (hi : i + 6 ≤ n) (hn : n ≤ 3072) (back : ∀ h' σ', vLw h' a b n f σ' → vW (vCall (d + 60)) 171 Q 1262 [.ref a, .ref b, .ref (b + 243), .int (iI (i : Int))] [] h' bc bs) : vW (vCall (d + 60)) 171 Q 925 [.ref a, .ref b, .ref (b + 243), .int (iI (i : Int))] [] h bc bs := by
  obtain ⟨hs, ha, hR, hD, hO⟩ := L
  have oR := hR.1
  refine r_aload c171_925 rfl (r_aload c171_926 rfl (r_iload c171_927 rfl (r_ci c171_928 (r_iadd c171_929 (r_iald c171_930 hs (by omega) (by omega) (r_aload c171_931 rfl (r_iload c171_932 rfl (r_ci c171_933 (r_iadd c171_934 (r_iald c171_935 hs (by omega) (by omega) ?_))))))))))
  refine r_iv2 c171_936 vr_78 oR rfl (k_remembered hR (hf _ (by omega)).1 (hf _ (by omega)).2 (hf _ (by omega)).1 (hf _ (by omega)).2 ?_)
  try dsimp only [vpush]
  have hR1 := hR
  have hs1 := hs
  have hD1 := hD
  obtain ⟨oa, ow, ot, oM⟩ := vMD_o hD1
  refine r_aload c171_939 rfl (r_aload c171_940 rfl (r_iload c171_941 rfl (r_ci c171_942 (r_iadd c171_943 (r_iald c171_944 hs1 (by omega) (by omega) (r_aload c171_945 rfl (r_iload c171_946 rfl (r_ci c171_947 (r_iadd c171_948 (r_iald c171_949 hs1 (by omega) (by omega) ?_))))))))))
  refine r_iv2 c171_950 vr_158 oM rfl (m_rem hD1 hO (hf _ (by omega)).1 (hf _ (by omega)).2 (hf _ (by omega)).1 (hf _ (by omega)).2 ?_)
  try dsimp only [vpush]
  have hR2 := hR1
  have hs2 := hs1
  have hD2 := hD1
  refine r_same c171_953 ?_
  exact back _ _ ⟨hs2, ha, hR2, hD2, hO⟩
theorem l_list {a b n d bc bs i : Nat} {f : Nat → Int} {σ : vSg} {h : vHp} {Q : vQ} (L : vLw h a b n f σ) (hf : vIr n f) (hi : i + 6 ≤ n) (hn : n ≤ 3072) (back : ∀ h' σ', vLw h' a b n f σ' → vW (vCall (d + 60)) 171 Q 1262 [.ref a, .ref b, .ref (b + 243), .int (iI (i : Int))] [] h' bc bs) : vW (vCall (d + 60)) 171 Q 958 [.ref a, .ref b, .ref (b + 243), .int (iI (i : Int))] [] h bc bs := by
  obtain ⟨hs, ha, hR, hD, hO⟩ := L
  have oR := hR.1
  refine r_aload c171_958 rfl (r_aload c171_959 rfl (r_iload c171_960 rfl (r_ci c171_961 (r_iadd c171_962 (r_iald c171_963 hs (by omega) (by omega) (r_aload c171_964 rfl (r_iload c171_965 rfl (r_ci c171_966 (r_iadd c171_967 (r_iald c171_968 hs (by omega) (by omega) ?_))))))))))
  refine r_iv2 c171_969 vr_79 oR rfl (k_list hR (hf _ (by omega)).1 (hf _ (by omega)).2 (hf _ (by omega)).1 (hf _ (by omega)).2 (fun h1 hR1 f1 => ?_))
  try dsimp only [vpush]
  have hs1 := (f1.2.2 a (by omega)).trans hs
  have hD1 := vMD_frb hD f1
  obtain ⟨oa, ow, ot, oM⟩ := vMD_o hD1
  refine r_aload c171_972 rfl (r_aload c171_973 rfl (r_iload c171_974 rfl (r_ci c171_975 (r_iadd c171_976 (r_iald c171_977 hs1 (by omega) (by omega) (r_aload c171_978 rfl (r_iload c171_979 rfl (r_ci c171_980 (r_iadd c171_981 (r_iald c171_982 hs1 (by omega) (by omega) ?_))))))))))
  refine r_iv2 c171_983 vr_160 oM rfl (m_list hD1 (hf _ (by omega)).1 (hf _ (by omega)).2 (hf _ (by omega)).1 (hf _ (by omega)).2 (fun h2 hD2 f2 => ?_))
  try dsimp only [vpush]
  have hs2 := (f2.2.2 a (by unfold vZd; omega)).trans hs1
  have hR2 := vRD_frc hR1 f2
  refine r_same c171_986 ?_
  exact back _ _ ⟨hs2, ha, hR2, hD2, (vOk_list hO)⟩
theorem l_put {a b n d bc bs i : Nat} {f : Nat → Int} {σ : vSg} {h : vHp} {Q : vQ} (L : vLw h a b n f σ) (hf : vIr n f) (hi : i + 6 ≤ n) (hn : n ≤ 3072) (back : ∀ h' σ', vLw h' a b n f σ' → vW (vCall (d + 60)) 171 Q 1262 [.ref a, .ref b, .ref (b + 243), .int (iI (i : Int))] [] h' bc bs) : vW (vCall (d + 60)) 171 Q 991 [.ref a, .ref b, .ref (b + 243), .int (iI (i : Int))] [] h bc bs := by
  obtain ⟨hs, ha, hR, hD, hO⟩ := L
  have oR := hR.1
  refine r_aload c171_991 rfl (r_aload c171_992 rfl (r_iload c171_993 rfl (r_ci c171_994 (r_iadd c171_995 (r_iald c171_996 hs (by omega) (by omega) (r_aload c171_997 rfl (r_iload c171_998 rfl (r_ci c171_999 (r_iadd c171_1000 (r_iald c171_1001 hs (by omega) (by omega) (r_aload c171_1002 rfl (r_iload c171_1003 rfl (r_ci c171_1004 (r_iadd c171_1005 (r_iald c171_1006 hs (by omega) (by omega) ?_)))))))))))))))
  refine r_iv3 c171_1007 vr_80 oR rfl (k_put hR hO (hf _ (by omega)).1 (hf _ (by omega)).2 (hf _ (by omega)).1 (hf _ (by omega)).2 (fun h1 hR1 f1 => ?_))
  try dsimp only [vpush]
  have hs1 := (f1.2.2 a (by omega)).trans hs
  have hD1 := vMD_frb hD f1
  obtain ⟨oa, ow, ot, oM⟩ := vMD_o hD1
  refine r_aload c171_1010 rfl (r_aload c171_1011 rfl (r_iload c171_1012 rfl (r_ci c171_1013 (r_iadd c171_1014 (r_iald c171_1015 hs1 (by omega) (by omega) (r_aload c171_1016 rfl (r_iload c171_1017 rfl (r_ci c171_1018 (r_iadd c171_1019 (r_iald c171_1020 hs1 (by omega) (by omega) (r_aload c171_1021 rfl (r_iload c171_1022 rfl (r_ci c171_1023 (r_iadd c171_1024 (r_iald c171_1025 hs1 (by omega) (by omega) ?_)))))))))))))))
  refine r_iv3 c171_1026 vr_161 oM rfl (m_put hD1 hO (hf _ (by omega)).1 (hf _ (by omega)).2 (hf _ (by omega)).1 (hf _ (by omega)).2 (fun h2 hD2 f2 => ?_))
  try dsimp only [vpush]
  have hs2 := (f2.2.2 a (by unfold vZd; omega)).trans hs1
  have hR2 := vRD_frc hR1 f2
  refine r_same c171_1029 ?_
  exact back _ _ ⟨hs2, ha, hR2, hD2, (vOk_put hO (hf _ (by omega)).1 (hf _ (by omega)).2)⟩
theorem l_get {a b n d bc bs i : Nat} {f : Nat → Int} {σ : vSg} {h : vHp} {Q : vQ} (L : vLw h a b n f σ) (hf : vIr n f) (hi : i + 6 ≤ n) (hn : n ≤ 3072) (back : ∀ h' σ', vLw h' a b n f σ' → vW (vCall (d + 60)) 171 Q 1262 [.ref a, .ref b, .ref (b + 243), .int (iI (i : Int))] [] h' bc bs) : vW (vCall (d + 60)) 171 Q 1034 [.ref a, .ref b, .ref (b + 243), .int (iI (i : Int))] [] h bc bs := by
  obtain ⟨hs, ha, hR, hD, hO⟩ := L
  have oR := hR.1
  refine r_aload c171_1034 rfl (r_aload c171_1035 rfl (r_iload c171_1036 rfl (r_ci c171_1037 (r_iadd c171_1038 (r_iald c171_1039 hs (by omega) (by omega) (r_aload c171_1040 rfl (r_iload c171_1041 rfl (r_ci c171_1042 (r_iadd c171_1043 (r_iald c171_1044 hs (by omega) (by omega) ?_))))))))))
  refine r_iv2 c171_1045 vr_81 oR rfl (k_get hR hO (hf _ (by omega)).1 (hf _ (by omega)).2 (hf _ (by omega)).1 (hf _ (by omega)).2 ?_)
  try dsimp only [vpush]
  have hR1 := hR
  have hs1 := hs
  have hD1 := hD
  obtain ⟨oa, ow, ot, oM⟩ := vMD_o hD1
  refine r_aload c171_1048 rfl (r_aload c171_1049 rfl (r_iload c171_1050 rfl (r_ci c171_1051 (r_iadd c171_1052 (r_iald c171_1053 hs1 (by omega) (by omega) (r_aload c171_1054 rfl (r_iload c171_1055 rfl (r_ci c171_1056 (r_iadd c171_1057 (r_iald c171_1058 hs1 (by omega) (by omega) ?_))))))))))
  refine r_iv2 c171_1059 vr_162 oM rfl (m_get hD1 hO (hf _ (by omega)).1 (hf _ (by omega)).2 (hf _ (by omega)).1 (hf _ (by omega)).2 ?_)
  try dsimp only [vpush]
  have hR2 := hR1
  have hs2 := hs1
  have hD2 := hD1
  refine r_same c171_1062 ?_
  exact back _ _ ⟨hs2, ha, hR2, hD2, hO⟩
theorem l_move {a b n d bc bs i : Nat} {f : Nat → Int} {σ : vSg} {h : vHp} {Q : vQ} (L : vLw h a b n f σ) (hf : vIr n f) (hi : i + 6 ≤ n) (hn : n ≤ 3072) (back : ∀ h' σ', vLw h' a b n f σ' → vW (vCall (d + 60)) 171 Q 1262 [.ref a, .ref b, .ref (b + 243), .int (iI (i : Int))] [] h' bc bs) : vW (vCall (d + 60)) 171 Q 1067 [.ref a, .ref b, .ref (b + 243), .int (iI (i : Int))] [] h bc bs := by
  obtain ⟨hs, ha, hR, hD, hO⟩ := L
  have oR := hR.1
  refine r_aload c171_1067 rfl (r_aload c171_1068 rfl (r_iload c171_1069 rfl (r_ci c171_1070 (r_iadd c171_1071 (r_iald c171_1072 hs (by omega) (by omega) (r_aload c171_1073 rfl (r_iload c171_1074 rfl (r_ci c171_1075 (r_iadd c171_1076 (r_iald c171_1077 hs (by omega) (by omega) (r_aload c171_1078 rfl (r_iload c171_1079 rfl (r_ci c171_1080 (r_iadd c171_1081 (r_iald c171_1082 hs (by omega) (by omega) (r_aload c171_1083 rfl (r_iload c171_1084 rfl (r_ci c171_1085 (r_iadd c171_1086 (r_iald c171_1087 hs (by omega) (by omega) (r_aload c171_1088 rfl (r_iload c171_1089 rfl (r_ci c171_1090 (r_iadd c171_1091 ?_))))))))))))))))))))))))
  refine r_iald c171_1092 hs (by omega) (by omega) ?_
  refine r_iv5 c171_1093 vr_82 oR rfl (k_move hR hO (hf _ (by omega)).1 (hf _ (by omega)).2 (hf _ (by omega)).1 (hf _ (by omega)).2 (hf _ (by omega)).1 (hf _ (by omega)).2 (hf _ (by omega)).1 (hf _ (by omega)).2 (hf _ (by omega)).1 (hf _ (by omega)).2 (fun h1 hR1 f1 => ?_))
  try dsimp only [vpush]
  have hs1 := (f1.2.2 a (by omega)).trans hs
  have hD1 := vMD_frb hD f1
  obtain ⟨oa, ow, ot, oM⟩ := vMD_o hD1
  refine r_aload c171_1096 rfl (r_aload c171_1097 rfl (r_iload c171_1098 rfl (r_ci c171_1099 (r_iadd c171_1100 (r_iald c171_1101 hs1 (by omega) (by omega) (r_aload c171_1102 rfl (r_iload c171_1103 rfl (r_ci c171_1104 (r_iadd c171_1105 (r_iald c171_1106 hs1 (by omega) (by omega) (r_aload c171_1107 rfl (r_iload c171_1108 rfl (r_ci c171_1109 (r_iadd c171_1110 (r_iald c171_1111 hs1 (by omega) (by omega) (r_aload c171_1112 rfl (r_iload c171_1113 rfl (r_ci c171_1114 (r_iadd c171_1115 (r_iald c171_1116 hs1 (by omega) (by omega) (r_aload c171_1117 rfl (r_iload c171_1118 rfl (r_ci c171_1119 (r_iadd c171_1120 ?_))))))))))))))))))))))))
  refine r_iald c171_1121 hs1 (by omega) (by omega) ?_
  refine r_iv5 c171_1122 vr_163 oM rfl (m_move hD1 hO (hf _ (by omega)).1 (hf _ (by omega)).2 (hf _ (by omega)).1 (hf _ (by omega)).2 (hf _ (by omega)).1 (hf _ (by omega)).2 (hf _ (by omega)).1 (hf _ (by omega)).2 (hf _ (by omega)).1 (hf _ (by omega)).2 (fun h2 hD2 f2 => ?_))
  try dsimp only [vpush]
  have hs2 := (f2.2.2 a (by unfold vZd; omega)).trans hs1
  have hR2 := vRD_frc hR1 f2
  refine r_same c171_1125 ?_
  exact back _ _ ⟨hs2, ha, hR2, hD2, (vOk_move hO)⟩
theorem l_lay {a b n d bc bs i : Nat} {f : Nat → Int} {σ : vSg} {h : vHp} {Q : vQ} (L : vLw h a b n f σ) (hf : vIr n f) (hi : i + 6 ≤ n) (hn : n ≤ 3072) (back : ∀ h' σ', vLw h' a b n f σ' → vW (vCall (d + 60)) 171 Q 1262 [.ref a, .ref b, .ref (b + 243), .int (iI (i : Int))] [] h' bc bs) : vW (vCall (d + 60)) 171 Q 1130 [.ref a, .ref b, .ref (b + 243), .int (iI (i : Int))] [] h bc bs := by
  obtain ⟨hs, ha, hR, hD, hO⟩ := L
  have oR := hR.1
  refine r_aload c171_1130 rfl (r_aload c171_1131 rfl (r_iload c171_1132 rfl (r_ci c171_1133 (r_iadd c171_1134 (r_iald c171_1135 hs (by omega) (by omega) (r_aload c171_1136 rfl (r_iload c171_1137 rfl (r_ci c171_1138 (r_iadd c171_1139 (r_iald c171_1140 hs (by omega) (by omega) (r_aload c171_1141 rfl (r_iload c171_1142 rfl (r_ci c171_1143 (r_iadd c171_1144 (r_iald c171_1145 hs (by omega) (by omega) (r_aload c171_1146 rfl (r_iload c171_1147 rfl (r_ci c171_1148 (r_iadd c171_1149 (r_iald c171_1150 hs (by omega) (by omega) ?_))))))))))))))))))))
  refine r_iv4 c171_1151 vr_83 oR rfl (k_lay hR hO (hf _ (by omega)).1 (hf _ (by omega)).2 (hf _ (by omega)).1 (hf _ (by omega)).2 (hf _ (by omega)).1 (hf _ (by omega)).2 (hf _ (by omega)).1 (hf _ (by omega)).2 (fun h1 hR1 f1 => ?_))
  try dsimp only [vpush]
  have hs1 := (f1.2.2 a (by omega)).trans hs
  have hD1 := vMD_frb hD f1
  obtain ⟨oa, ow, ot, oM⟩ := vMD_o hD1
  refine r_aload c171_1154 rfl (r_aload c171_1155 rfl (r_iload c171_1156 rfl (r_ci c171_1157 (r_iadd c171_1158 (r_iald c171_1159 hs1 (by omega) (by omega) (r_aload c171_1160 rfl (r_iload c171_1161 rfl (r_ci c171_1162 (r_iadd c171_1163 (r_iald c171_1164 hs1 (by omega) (by omega) (r_aload c171_1165 rfl (r_iload c171_1166 rfl (r_ci c171_1167 (r_iadd c171_1168 (r_iald c171_1169 hs1 (by omega) (by omega) (r_aload c171_1170 rfl (r_iload c171_1171 rfl (r_ci c171_1172 (r_iadd c171_1173 (r_iald c171_1174 hs1 (by omega) (by omega) ?_))))))))))))))))))))
  refine r_iv4 c171_1175 vr_165 oM rfl (m_lay hD1 hO (hf _ (by omega)).1 (hf _ (by omega)).2 (hf _ (by omega)).1 (hf _ (by omega)).2 (hf _ (by omega)).1 (hf _ (by omega)).2 (hf _ (by omega)).1 (hf _ (by omega)).2 (fun h2 hD2 f2 => ?_))
  try dsimp only [vpush]
  have hs2 := (f2.2.2 a (by unfold vZd; omega)).trans hs1
  have hR2 := vRD_frc hR1 f2
  refine r_same c171_1178 ?_
  exact back _ _ ⟨hs2, ha, hR2, hD2, (vOk_lay hO)⟩
theorem l_judge {a b n d bc bs i : Nat} {f : Nat → Int} {σ : vSg} {h : vHp} {Q : vQ} (L : vLw h a b n f σ) (hf : vIr n f) (hi : i + 6 ≤ n) (hn : n ≤ 3072) (back : ∀ h' σ', vLw h' a b n f σ' → vW (vCall (d + 60)) 171 Q 1262 [.ref a, .ref b, .ref (b + 243), .int (iI (i : Int))] [] h' bc bs) : vW (vCall (d + 60)) 171 Q 1183 [.ref a, .ref b, .ref (b + 243), .int (iI (i : Int))] [] h bc bs := by
  obtain ⟨hs, ha, hR, hD, hO⟩ := L
  have oR := hR.1
  refine r_aload c171_1183 rfl (r_aload c171_1184 rfl (r_iload c171_1185 rfl (r_ci c171_1186 (r_iadd c171_1187 (r_iald c171_1188 hs (by omega) (by omega) (r_aload c171_1189 rfl (r_iload c171_1190 rfl (r_ci c171_1191 (r_iadd c171_1192 (r_iald c171_1193 hs (by omega) (by omega) (r_aload c171_1194 rfl (r_iload c171_1195 rfl (r_ci c171_1196 (r_iadd c171_1197 (r_iald c171_1198 hs (by omega) (by omega) (r_aload c171_1199 rfl (r_iload c171_1200 rfl (r_ci c171_1201 (r_iadd c171_1202 (r_iald c171_1203 hs (by omega) (by omega) ?_))))))))))))))))))))
  refine r_iv4 c171_1204 vr_84 oR rfl (k_judge hR hO (hf _ (by omega)).1 (hf _ (by omega)).2 (hf _ (by omega)).1 (hf _ (by omega)).2 (hf _ (by omega)).1 (hf _ (by omega)).2 (hf _ (by omega)).1 (hf _ (by omega)).2 ?_)
  try dsimp only [vpush]
  have hR1 := hR
  have hs1 := hs
  have hD1 := hD
  obtain ⟨oa, ow, ot, oM⟩ := vMD_o hD1
  refine r_aload c171_1207 rfl (r_aload c171_1208 rfl (r_iload c171_1209 rfl (r_ci c171_1210 (r_iadd c171_1211 (r_iald c171_1212 hs1 (by omega) (by omega) (r_aload c171_1213 rfl (r_iload c171_1214 rfl (r_ci c171_1215 (r_iadd c171_1216 (r_iald c171_1217 hs1 (by omega) (by omega) (r_aload c171_1218 rfl (r_iload c171_1219 rfl (r_ci c171_1220 (r_iadd c171_1221 (r_iald c171_1222 hs1 (by omega) (by omega) (r_aload c171_1223 rfl (r_iload c171_1224 rfl (r_ci c171_1225 (r_iadd c171_1226 (r_iald c171_1227 hs1 (by omega) (by omega) ?_))))))))))))))))))))
  refine r_iv4 c171_1228 vr_166 oM rfl (m_judge hD1 hO (hf _ (by omega)).1 (hf _ (by omega)).2 (hf _ (by omega)).1 (hf _ (by omega)).2 (hf _ (by omega)).1 (hf _ (by omega)).2 (hf _ (by omega)).1 (hf _ (by omega)).2 ?_)
  try dsimp only [vpush]
  have hR2 := hR1
  have hs2 := hs1
  have hD2 := hD1
  refine r_same c171_1231 ?_
  exact back _ _ ⟨hs2, ha, hR2, hD2, hO⟩
theorem l_image {a b n d bc bs i : Nat} {f : Nat → Int} {σ : vSg} {h : vHp} {Q : vQ} (L : vLw h a b n f σ) (hf : vIr n f) (hi : i + 6 ≤ n) (hn : n ≤ 3072) (back : ∀ h' σ', vLw h' a b n f σ' → vW (vCall (d + 60)) 171 Q 1262 [.ref a, .ref b, .ref (b + 243), .int (iI (i : Int))] [] h' bc bs) : vW (vCall (d + 60)) 171 Q 1236 [.ref a, .ref b, .ref (b + 243), .int (iI (i : Int))] [] h bc bs := by
  obtain ⟨hs, ha, hR, hD, hO⟩ := L
  have oR := hR.1
  refine r_aload c171_1236 rfl ?_
  refine r_iv0 c171_1237 vr_85 oR rfl (k_image hR  (fun h1 hR1 f1 => ?_))
  try dsimp only [vpush]
  have hs1 := (f1.2.2 a (by omega)).trans hs
  have hD1 := vMD_frb hD f1
  obtain ⟨oa, ow, ot, oM⟩ := vMD_o hD1
  refine r_aload c171_1240 rfl ?_
  refine r_iv0 c171_1241 vr_167 oM rfl (m_image hD1  (fun h2 hD2 f2 => ?_))
  try dsimp only [vpush]
  have hs2 := (f2.2.2 a (by unfold vZd; omega)).trans hs1
  have hR2 := vRD_frc hR1 f2
  refine r_same c171_1244 ?_
  exact back _ _ ⟨hs2, ha, hR2, hD2, (vOk_image hO)⟩
theorem l_undo {a b n d bc bs i : Nat} {f : Nat → Int} {σ : vSg} {h : vHp} {Q : vQ} (L : vLw h a b n f σ) (hf : vIr n f) (hi : i + 6 ≤ n) (hn : n ≤ 3072) (back : ∀ h' σ', vLw h' a b n f σ' → vW (vCall (d + 60)) 171 Q 1262 [.ref a, .ref b, .ref (b + 243), .int (iI (i : Int))] [] h' bc bs) : vW (vCall (d + 60)) 171 Q 1249 [.ref a, .ref b, .ref (b + 243), .int (iI (i : Int))] [] h bc bs := by
  obtain ⟨hs, ha, hR, hD, hO⟩ := L
  have oR := hR.1
  refine r_aload c171_1249 rfl ?_
  refine r_iv0 c171_1250 vr_86 oR rfl (k_undo hR  (fun h1 hR1 f1 => ?_))
  try dsimp only [vpush]
  have hs1 := (f1.2.2 a (by omega)).trans hs
  have hD1 := vMD_frb hD f1
  obtain ⟨oa, ow, ot, oM⟩ := vMD_o hD1
  refine r_aload c171_1253 rfl ?_
  refine r_iv0 c171_1254 vr_168 oM rfl (m_undo hD1  (fun h2 hD2 f2 => ?_))
  try dsimp only [vpush]
  have hs2 := (f2.2.2 a (by unfold vZd; omega)).trans hs1
  have hR2 := vRD_frc hR1 f2
  refine r_same c171_1257 ?_
  exact back _ _ ⟨hs2, ha, hR2, hD2, (vOk_undo hO)⟩

