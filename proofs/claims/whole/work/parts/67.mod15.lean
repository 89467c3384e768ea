theorem ml_118 : vml 118 = 8 := by decide +kernel
theorem vr_119 : vrc 119 = some (6, 1) := by decide +kernel
theorem vr_120 : vrc 120 = some (6, 1) := by decide +kernel
theorem vr_122 : vrc 122 = some (6, 2) := by decide +kernel
theorem vr_124 : vrc 124 = some (6, 2) := by decide +kernel
theorem c118_0 : vlk 118 0 = some (6, 0, 0, 0, 1) := by decide +kernel
theorem c118_1 : vlk 118 1 = some (1, 0, 0, 33, 3) := by decide +kernel
theorem c118_3 : vlk 118 3 = some (58, 111, 0, 0, 6) := by decide +kernel
theorem c118_6 : vlk 118 6 = some (70, 75, 0, 0, 9) := by decide +kernel
theorem c118_9 : vlk 118 9 = some (4, 2, 0, 0, 10) := by decide +kernel
theorem c118_10 : vlk 118 10 = some (70, 75, 0, 0, 13) := by decide +kernel
theorem c118_13 : vlk 118 13 = some (6, 0, 0, 0, 14) := by decide +kernel
theorem c118_14 : vlk 118 14 = some (34, 0, 0, 0, 15) := by decide +kernel
theorem c118_15 : vlk 118 15 = some (42, 6, 11, 0, 18) := by decide +kernel
theorem c118_18 : vlk 118 18 = some (1, 0, 0, 1, 19) := by decide +kernel
theorem c118_19 : vlk 118 19 = some (11, 0, 0, 0, 20) := by decide +kernel
theorem c118_20 : vlk 118 20 = some (43, 6, 11, 0, 23) := by decide +kernel
theorem c118_23 : vlk 118 23 = some (6, 0, 0, 0, 24) := by decide +kernel
theorem c118_24 : vlk 118 24 = some (4, 1, 0, 0, 25) := by decide +kernel
theorem c118_25 : vlk 118 25 = some (1, 0, 0, 0, 26) := by decide +kernel
theorem c118_26 : vlk 118 26 = some (58, 118, 0, 0, 29) := by decide +kernel
theorem c118_29 : vlk 118 29 = some (7, 3, 0, 0, 30) := by decide +kernel
theorem c118_30 : vlk 118 30 = some (1, 0, 0, 0, 31) := by decide +kernel
theorem c118_31 : vlk 118 31 = some (7, 4, 0, 0, 33) := by decide +kernel
theorem c118_33 : vlk 118 33 = some (4, 4, 0, 0, 35) := by decide +kernel
theorem c118_35 : vlk 118 35 = some (1, 0, 0, 720, 38) := by decide +kernel
theorem c118_38 : vlk 118 38 = some (79, 73, 0, 0, 41) := by decide +kernel
theorem c118_41 : vlk 118 41 = some (6, 0, 0, 0, 42) := by decide +kernel
theorem c118_42 : vlk 118 42 = some (42, 6, 13, 0, 45) := by decide +kernel
theorem c118_45 : vlk 118 45 = some (4, 3, 0, 0, 46) := by decide +kernel
theorem c118_46 : vlk 118 46 = some (4, 4, 0, 0, 48) := by decide +kernel
theorem c118_48 : vlk 118 48 = some (11, 0, 0, 0, 49) := by decide +kernel
theorem c118_49 : vlk 118 49 = some (6, 0, 0, 0, 50) := by decide +kernel
theorem c118_50 : vlk 118 50 = some (42, 6, 13, 0, 53) := by decide +kernel
theorem c118_53 : vlk 118 53 = some (4, 3, 0, 0, 54) := by decide +kernel
theorem c118_54 : vlk 118 54 = some (4, 4, 0, 0, 56) := by decide +kernel
theorem c118_56 : vlk 118 56 = some (11, 0, 0, 0, 57) := by decide +kernel
theorem c118_57 : vlk 118 57 = some (47, 0, 0, 0, 58) := by decide +kernel
theorem c118_61 : vlk 118 61 = some (1, 0, 0, 1, 62) := by decide +kernel
theorem c118_62 : vlk 118 62 = some (37, 66, 0, 0, 65) := by decide +kernel
theorem c118_65 : vlk 118 65 = some (1, 0, 0, 0, 66) := by decide +kernel
theorem c118_66 : vlk 118 66 = some (51, 0, 0, 0, 67) := by decide +kernel
theorem c118_67 : vlk 118 67 = some (10, 4, 0, 1, 70) := by decide +kernel
theorem c118_70 : vlk 118 70 = some (37, 33, 0, 0, 73) := by decide +kernel
theorem c118_73 : vlk 118 73 = some (4, 3, 0, 0, 74) := by decide +kernel
theorem c118_74 : vlk 118 74 = some (63, 0, 0, 0, 75) := by decide +kernel
theorem c118_75 : vlk 118 75 = some (6, 0, 0, 0, 76) := by decide +kernel
theorem c118_76 : vlk 118 76 = some (1, 0, 0, 40, 78) := by decide +kernel
theorem c118_78 : vlk 118 78 = some (58, 111, 0, 0, 81) := by decide +kernel
theorem c118_81 : vlk 118 81 = some (70, 95, 0, 0, 84) := by decide +kernel
theorem c118_84 : vlk 118 84 = some (4, 1, 0, 0, 85) := by decide +kernel
theorem c118_85 : vlk 118 85 = some (1, 0, 0, 5, 86) := by decide +kernel
theorem c118_86 : vlk 118 86 = some (79, 95, 0, 0, 89) := by decide +kernel
theorem c118_89 : vlk 118 89 = some (6, 0, 0, 0, 90) := by decide +kernel
theorem c118_90 : vlk 118 90 = some (4, 1, 0, 0, 91) := by decide +kernel
theorem c118_91 : vlk 118 91 = some (58, 117, 0, 0, 94) := by decide +kernel
theorem c118_94 : vlk 118 94 = some (63, 0, 0, 0, 95) := by decide +kernel
theorem c118_95 : vlk 118 95 = some (6, 0, 0, 0, 96) := by decide +kernel
theorem c118_96 : vlk 118 96 = some (58, 110, 0, 0, 99) := by decide +kernel
theorem c118_99 : vlk 118 99 = some (7, 3, 0, 0, 100) := by decide +kernel
theorem c118_100 : vlk 118 100 = some (4, 3, 0, 0, 101) := by decide +kernel
theorem c118_101 : vlk 118 101 = some (1, 0, 0, 110, 103) := by decide +kernel
theorem c118_103 : vlk 118 103 = some (76, 112, 0, 0, 106) := by decide +kernel
theorem c118_106 : vlk 118 106 = some (4, 3, 0, 0, 107) := by decide +kernel
theorem c118_107 : vlk 118 107 = some (1, 0, 0, 108, 109) := by decide +kernel
theorem c118_109 : vlk 118 109 = some (77, 116, 0, 0, 112) := by decide +kernel
theorem c118_112 : vlk 118 112 = some (1, 0, 0, 1, 113) := by decide +kernel
theorem c118_113 : vlk 118 113 = some (37, 117, 0, 0, 116) := by decide +kernel
theorem c118_116 : vlk 118 116 = some (1, 0, 0, 0, 117) := by decide +kernel
theorem c118_117 : vlk 118 117 = some (7, 4, 0, 0, 119) := by decide +kernel
theorem c118_119 : vlk 118 119 = some (4, 3, 0, 0, 120) := by decide +kernel
theorem c118_120 : vlk 118 120 = some (1, 0, 0, 115, 122) := by decide +kernel
theorem c118_122 : vlk 118 122 = some (76, 143, 0, 0, 125) := by decide +kernel
theorem c118_125 : vlk 118 125 = some (4, 3, 0, 0, 126) := by decide +kernel
theorem c118_126 : vlk 118 126 = some (1, 0, 0, 98, 128) := by decide +kernel
theorem c118_128 : vlk 118 128 = some (76, 143, 0, 0, 131) := by decide +kernel
theorem c118_131 : vlk 118 131 = some (4, 3, 0, 0, 132) := by decide +kernel
theorem c118_132 : vlk 118 132 = some (1, 0, 0, 112, 134) := by decide +kernel
theorem c118_134 : vlk 118 134 = some (76, 143, 0, 0, 137) := by decide +kernel
theorem c118_137 : vlk 118 137 = some (4, 3, 0, 0, 138) := by decide +kernel
theorem c118_138 : vlk 118 138 = some (1, 0, 0, 120, 140) := by decide +kernel
theorem c118_140 : vlk 118 140 = some (77, 147, 0, 0, 143) := by decide +kernel
theorem c118_143 : vlk 118 143 = some (1, 0, 0, 1, 144) := by decide +kernel
theorem c118_144 : vlk 118 144 = some (37, 148, 0, 0, 147) := by decide +kernel
theorem c118_147 : vlk 118 147 = some (1, 0, 0, 0, 148) := by decide +kernel
theorem c118_148 : vlk 118 148 = some (7, 5, 0, 0, 150) := by decide +kernel
theorem c118_150 : vlk 118 150 = some (6, 0, 0, 0, 151) := by decide +kernel
theorem c118_151 : vlk 118 151 = some (42, 6, 12, 0, 154) := by decide +kernel
theorem c118_157 : vlk 118 157 = some (4, 3, 0, 0, 158) := by decide +kernel
theorem c118_158 : vlk 118 158 = some (32, 0, 0, 0, 159) := by decide +kernel
theorem c118_159 : vlk 118 159 = some (2, 0, 0, 65, 162) := by decide +kernel
theorem c118_162 : vlk 118 162 = some (2, 0, 0, 74, 165) := by decide +kernel
theorem c118_165 : vlk 118 165 = some (59, 102, 0, 0, 168) := by decide +kernel
theorem c118_168 : vlk 118 168 = some (70, 227, 0, 0, 171) := by decide +kernel
theorem c118_171 : vlk 118 171 = some (6, 0, 0, 0, 172) := by decide +kernel
theorem c118_172 : vlk 118 172 = some (34, 0, 0, 0, 173) := by decide +kernel
theorem c118_173 : vlk 118 173 = some (42, 6, 11, 0, 176) := by decide +kernel
theorem c118_176 : vlk 118 176 = some (1, 0, 0, 1, 177) := by decide +kernel
theorem c118_177 : vlk 118 177 = some (11, 0, 0, 0, 178) := by decide +kernel
theorem c118_178 : vlk 118 178 = some (43, 6, 11, 0, 181) := by decide +kernel
theorem c118_181 : vlk 118 181 = some (6, 0, 0, 0, 182) := by decide +kernel
theorem c118_182 : vlk 118 182 = some (58, 114, 0, 0, 185) := by decide +kernel
theorem c118_185 : vlk 118 185 = some (7, 6, 0, 0, 187) := by decide +kernel
theorem c118_187 : vlk 118 187 = some (1, 0, 0, 0, 188) := by decide +kernel
theorem c118_188 : vlk 118 188 = some (7, 7, 0, 0, 190) := by decide +kernel
theorem c118_190 : vlk 118 190 = some (4, 7, 0, 0, 192) := by decide +kernel
theorem c118_192 : vlk 118 192 = some (1, 0, 0, 720, 195) := by decide +kernel
theorem c118_195 : vlk 118 195 = some (79, 224, 0, 0, 198) := by decide +kernel
theorem c118_198 : vlk 118 198 = some (6, 0, 0, 0, 199) := by decide +kernel
theorem c118_199 : vlk 118 199 = some (42, 6, 13, 0, 202) := by decide +kernel
theorem c118_202 : vlk 118 202 = some (4, 6, 0, 0, 204) := by decide +kernel
theorem c118_204 : vlk 118 204 = some (4, 7, 0, 0, 206) := by decide +kernel
theorem c118_206 : vlk 118 206 = some (11, 0, 0, 0, 207) := by decide +kernel
theorem c118_207 : vlk 118 207 = some (6, 0, 0, 0, 208) := by decide +kernel
theorem c118_208 : vlk 118 208 = some (4, 3, 0, 0, 209) := by decide +kernel
theorem c118_209 : vlk 118 209 = some (1, 0, 0, 65, 211) := by decide +kernel
theorem c118_211 : vlk 118 211 = some (12, 0, 0, 0, 212) := by decide +kernel
theorem c118_212 : vlk 118 212 = some (4, 7, 0, 0, 214) := by decide +kernel
theorem c118_214 : vlk 118 214 = some (58, 106, 0, 0, 217) := by decide +kernel
theorem c118_217 : vlk 118 217 = some (51, 0, 0, 0, 218) := by decide +kernel
theorem c118_218 : vlk 118 218 = some (10, 7, 0, 1, 221) := by decide +kernel
theorem c118_221 : vlk 118 221 = some (37, 190, 0, 0, 224) := by decide +kernel
theorem c118_224 : vlk 118 224 = some (4, 6, 0, 0, 226) := by decide +kernel
theorem c118_226 : vlk 118 226 = some (63, 0, 0, 0, 227) := by decide +kernel
theorem c118_227 : vlk 118 227 = some (6, 0, 0, 0, 228) := by decide +kernel
theorem c118_228 : vlk 118 228 = some (42, 6, 12, 0, 231) := by decide +kernel
theorem c118_234 : vlk 118 234 = some (4, 3, 0, 0, 235) := by decide +kernel
theorem c118_235 : vlk 118 235 = some (1, 0, 0, 119, 237) := by decide +kernel
theorem c118_237 : vlk 118 237 = some (76, 258, 0, 0, 240) := by decide +kernel
theorem c118_240 : vlk 118 240 = some (4, 3, 0, 0, 241) := by decide +kernel
theorem c118_241 : vlk 118 241 = some (1, 0, 0, 100, 243) := by decide +kernel
theorem c118_243 : vlk 118 243 = some (76, 258, 0, 0, 246) := by decide +kernel
theorem c118_246 : vlk 118 246 = some (4, 3, 0, 0, 247) := by decide +kernel
theorem c118_247 : vlk 118 247 = some (1, 0, 0, 109, 249) := by decide +kernel
theorem c118_249 : vlk 118 249 = some (76, 258, 0, 0, 252) := by decide +kernel
theorem c118_252 : vlk 118 252 = some (4, 3, 0, 0, 253) := by decide +kernel
theorem c118_253 : vlk 118 253 = some (1, 0, 0, 121, 255) := by decide +kernel
theorem c118_255 : vlk 118 255 = some (77, 264, 0, 0, 258) := by decide +kernel
theorem c118_258 : vlk 118 258 = some (6, 0, 0, 0, 259) := by decide +kernel
theorem c118_259 : vlk 118 259 = some (4, 3, 0, 0, 260) := by decide +kernel
theorem c118_260 : vlk 118 260 = some (58, 119, 0, 0, 263) := by decide +kernel
theorem c118_263 : vlk 118 263 = some (63, 0, 0, 0, 264) := by decide +kernel
theorem c118_264 : vlk 118 264 = some (6, 0, 0, 0, 265) := by decide +kernel
theorem c118_265 : vlk 118 265 = some (42, 6, 12, 0, 268) := by decide +kernel
theorem c118_271 : vlk 118 271 = some (4, 3, 0, 0, 272) := by decide +kernel
theorem c118_272 : vlk 118 272 = some (1, 0, 0, 101, 274) := by decide +kernel
theorem c118_274 : vlk 118 274 = some (76, 283, 0, 0, 277) := by decide +kernel
theorem c118_277 : vlk 118 277 = some (4, 3, 0, 0, 278) := by decide +kernel
theorem c118_278 : vlk 118 278 = some (1, 0, 0, 114, 280) := by decide +kernel
theorem c118_280 : vlk 118 280 = some (77, 289, 0, 0, 283) := by decide +kernel
theorem c118_283 : vlk 118 283 = some (6, 0, 0, 0, 284) := by decide +kernel
theorem c118_284 : vlk 118 284 = some (4, 3, 0, 0, 285) := by decide +kernel
theorem c118_285 : vlk 118 285 = some (58, 120, 0, 0, 288) := by decide +kernel
theorem c118_288 : vlk 118 288 = some (63, 0, 0, 0, 289) := by decide +kernel
theorem c118_289 : vlk 118 289 = some (6, 0, 0, 0, 290) := by decide +kernel
theorem c118_290 : vlk 118 290 = some (42, 6, 12, 0, 293) := by decide +kernel
theorem c118_296 : vlk 118 296 = some (4, 1, 0, 0, 297) := by decide +kernel
theorem c118_297 : vlk 118 297 = some (1, 0, 0, 5, 298) := by decide +kernel
theorem c118_298 : vlk 118 298 = some (79, 323, 0, 0, 301) := by decide +kernel
theorem c118_301 : vlk 118 301 = some (4, 4, 0, 0, 303) := by decide +kernel
theorem c118_306 : vlk 118 306 = some (6, 0, 0, 0, 307) := by decide +kernel
theorem c118_307 : vlk 118 307 = some (4, 3, 0, 0, 308) := by decide +kernel
theorem c118_308 : vlk 118 308 = some (1, 0, 0, 108, 310) := by decide +kernel
theorem c118_310 : vlk 118 310 = some (77, 317, 0, 0, 313) := by decide +kernel
theorem c118_313 : vlk 118 313 = some (1, 0, 0, 1, 314) := by decide +kernel
theorem c118_314 : vlk 118 314 = some (37, 318, 0, 0, 317) := by decide +kernel
theorem c118_317 : vlk 118 317 = some (1, 0, 0, 0, 318) := by decide +kernel
theorem c118_318 : vlk 118 318 = some (4, 1, 0, 0, 319) := by decide +kernel
theorem c118_319 : vlk 118 319 = some (58, 122, 0, 0, 322) := by decide +kernel
theorem c118_322 : vlk 118 322 = some (63, 0, 0, 0, 323) := by decide +kernel
theorem c118_323 : vlk 118 323 = some (6, 0, 0, 0, 324) := by decide +kernel
theorem c118_324 : vlk 118 324 = some (42, 6, 12, 0, 327) := by decide +kernel
theorem c118_330 : vlk 118 330 = some (4, 1, 0, 0, 331) := by decide +kernel
theorem c118_331 : vlk 118 331 = some (1, 0, 0, 5, 332) := by decide +kernel
theorem c118_332 : vlk 118 332 = some (79, 347, 0, 0, 335) := by decide +kernel
theorem c118_335 : vlk 118 335 = some (4, 5, 0, 0, 337) := by decide +kernel
theorem c118_340 : vlk 118 340 = some (6, 0, 0, 0, 341) := by decide +kernel
theorem c118_341 : vlk 118 341 = some (4, 3, 0, 0, 342) := by decide +kernel
theorem c118_342 : vlk 118 342 = some (4, 1, 0, 0, 343) := by decide +kernel
theorem c118_343 : vlk 118 343 = some (58, 124, 0, 0, 346) := by decide +kernel
theorem c118_346 : vlk 118 346 = some (63, 0, 0, 0, 347) := by decide +kernel
theorem c118_347 : vlk 118 347 = some (6, 0, 0, 0, 348) := by decide +kernel
theorem c118_348 : vlk 118 348 = some (1, 0, 0, 0, 349) := by decide +kernel
theorem c118_349 : vlk 118 349 = some (43, 6, 12, 0, 352) := by decide +kernel
theorem c118_352 : vlk 118 352 = some (6, 0, 0, 0, 353) := by decide +kernel
theorem c118_353 : vlk 118 353 = some (58, 114, 0, 0, 356) := by decide +kernel
theorem c118_356 : vlk 118 356 = some (63, 0, 0, 0, 357) := by decide +kernel
/-! the reference's reading: factors, and the whole recursion -/
theorem vpe0_or {n : Nat} {t : Nat → Int} (p : Nat) : vpe0 n t p = vch n t p ∧ p < n ∨ vpe0 n t p = 0 ∧ vch n t p = -1 := by
  unfold vpe0 vch
  split
  · rename_i q; exact Or.inl ⟨rfl, q⟩
  · exact Or.inr ⟨rfl, rfl⟩
theorem vKm_up {d m : Nat} {as : List Value} {c : Nat} {X : vMX} {mx : Nat} {f : Nat → vPr} (hK : vKm d m as c X mx f) : vKm (d + 1) m as c X mx f := fun h a w tp G Q hM ha ht k => vCall_up (hK h a w tp G Q hM ha ht k)
abbrev vfo (d c dep mx : Nat) (X : vMX) (fo : Option (Nat → vPr)) : Prop := (dep = 5 ∧ fo = none) ∨ (dep < 5 ∧ 2 ≤ mx ∧ ∃ f, fo = some f ∧ vKm (d + 4) 117 [.int (iI (dep : Int))] c X mx (vbr X.2.1 X.2.2.1 f))
theorem k_mfac75 {d c dep mx : Nat} {X : vMX} {fo : Option (Nat → vPr)} (hf : vfo d c dep mx X fo) (hmx : 1 ≤ mx) {h : vHp} {a : Nat} {w : Bool} {tp : Nat} {G : Nat → Bool} {Q : vQ} (hM : vRp h c X a w tp G) (ha : a ≤ X.2.1) (ht : tp + mx ≤ 50) (k : ∀ (h' : vHp) (a' : Nat) (w' : Bool) (G' : Nat → Bool), vRp h' c X a' w' (tp + 1) G' → a' ≤ X.2.1 → vpre G G' (720 * tp) → vrs (vpn X.2.1 X.2.2.1 (fun i => vDd X.2.2.2.2.2.2 i) fo a) a w a' w' (720 * tp) G' → vFr (vZp c) h h' → Q (some (.int (iI ((720 * tp : Nat) : Int)))) h') {tu : Int} {x3 x4 x5 x6 x7 : Value} : vW (vCall (d + 5)) 118 Q 75 [.ref c, .int (iI (dep : Int)), .int (iI tu), x3, x4, x5, x6, x7] [] h 0 0 := by
  have ho := hM.1
  have hlo := hM.2.2.2.2.1
  have hd5 : dep ≤ 5 := by rcases hf with q | q <;> omega
  have rg := vpe0_rg hM.2.2.2.2.2 a
  have po := vpe0_or (n := X.2.1) (t := X.2.2.1) a
  have none' : (w = true → vpn X.2.1 X.2.2.1 (fun i => vDd X.2.2.2.2.2.2 i) fo a = (a, none)) → ∀ x3 x4 x5 x6 x7 : Value, vW (vCall (d + 5)) 118 Q 347 [.ref c, .int (iI (dep : Int)), .int (iI tu), x3, x4, x5, x6, x7] [] h 0 0 := by
    intro e x3 x4 x5 x6 x7
    refine r_aload c118_347 rfl (r_ci c118_348 ?_)
    refine r_put c118_349 ho hlo rfl (vmwf false) (fun h2 s2 => ?_)
    have hM2 := vRp_obj (a2 := a) (w2 := false) (tp2 := tp) hM s2
    refine r_aload c118_352 rfl ?_
    refine r_iv0 c118_353 vr_114 hM2.1 rfl (k_fresh hM2 (by omega) (fun h3 G3 hM3 p3 f3 => ?_))
    dsimp only [vpush]
    refine r_iret (st := []) c118_356 ?_
    exact k h3 a false G3 hM3 ha p3 (vrs_no (fun _ => rfl) e) (vFr_tr (vZp_o s2) f3)
  have from150 : ∀ (b1 b2 : Bool) (x6 x7 : Value), b1 = decide (vpe0 X.2.1 X.2.2.1 a = 110 ∨ vpe0 X.2.1 X.2.2.1 a = 108) → b2 = decide (vpe0 X.2.1 X.2.2.1 a = 115 ∨ vpe0 X.2.1 X.2.2.1 a = 98 ∨ vpe0 X.2.1 X.2.2.1 a = 112 ∨ vpe0 X.2.1 X.2.2.1 a = 120) → ¬ (w = true ∧ vch X.2.1 X.2.2.1 a = 40 ∧ dep < 5) → vW (vCall (d + 5)) 118 Q 150 [.ref c, .int (iI (dep : Int)), .int (iI tu), .int (iI (vpe0 X.2.1 X.2.2.1 a)), .int (iI (vBi b1)), .int (iI (vBi b2)), x6, x7] [] h 0 0 := by
    intro b1 b2 x6 x7 hb1 hb2 hno
    have none'' := none'
    cases w
    · refine r_aload c118_150 rfl (r_get c118_151 ho rfl ?_)
      refine vife (by decide +kernel : vlk 118 154 = some (70, 227, 0, 0, 157)) (fun _ => ?_) (fun b => by cases b)
      refine r_aload c118_227 rfl (r_get c118_228 ho rfl ?_)
      refine vife (by decide +kernel : vlk 118 231 = some (70, 264, 0, 0, 234)) (fun _ => ?_) (fun b => by cases b)
      refine r_aload c118_264 rfl (r_get c118_265 ho rfl ?_)
      refine vife (by decide +kernel : vlk 118 268 = some (70, 289, 0, 0, 271)) (fun _ => ?_) (fun b => by cases b)
      refine r_aload c118_289 rfl (r_get c118_290 ho rfl ?_)
      refine vife (by decide +kernel : vlk 118 293 = some (70, 323, 0, 0, 296)) (fun _ => ?_) (fun b => by cases b)
      refine r_aload c118_323 rfl (r_get c118_324 ho rfl ?_)
      refine vife (by decide +kernel : vlk 118 327 = some (70, 347, 0, 0, 330)) (fun _ => ?_) (fun b => by cases b)
      exact none'' (fun q => by cases q) _ _ _ _ _
    · refine r_aload c118_150 rfl (r_get c118_151 ho rfl ?_)
      refine vife (by decide +kernel : vlk 118 154 = some (70, 227, 0, 0, 157)) (fun b => by cases b) (fun _ => ?_)
      refine r_iload c118_157 rfl (r_i2l c118_158 (by omega) (by omega) (r_cl c118_159 (r_cl c118_162 ?_)))
      refine r_is3 c118_165 vr_102 rfl (k_isIn (by constructor <;> omega) (by constructor <;> omega) (by constructor <;> omega) (fun q1 q2 => ?_) (fun q => ?_))
      · dsimp only [vpush]
        have hl : a + 1 ≤ X.2.1 := by omega
        have er : vpn X.2.1 X.2.2.1 (fun i => vDd X.2.2.2.2.2.2 i) fo a = (a + 1, some (vDd X.2.2.2.2.2.2 (vch X.2.1 X.2.2.1 a - 65).toNat)) := vpn_B (by omega)
        obtain ⟨m, hm⟩ := Int.eq_ofNat_of_zero_le (show 0 ≤ vpe0 X.2.1 X.2.2.1 a - 65 by omega)
        rw [show vch X.2.1 X.2.2.1 a - 65 = (m : Int) by omega, Int.toNat_natCast] at er
        rw [er] at k
        refine r_ifeq c118_168 (by omega) (by omega) (fun q => by exfalso; omega) (fun c_168 => ?_)
        refine r_aload c118_171 rfl (r_dup c118_172 rfl (r_get c118_173 ho rfl (r_ci c118_176 (r_iadd c118_177 ?_))))
        refine r_put c118_178 ho hlo rfl ⟨rfl, rfl⟩ (fun h2 s2 => ?_)
        rw [vsu] at s2
        have hM2 := vRp_obj (a2 := a + 1) (w2 := true) (tp2 := tp) hM s2
        refine r_aload c118_181 rfl ?_
        refine r_iv0 c118_182 vr_114 hM2.1 rfl (k_fresh hM2 (by omega) (fun h3 G3 hM3 p3 f3 => ?_))
        dsimp only [vpush]
        have loop : ∀ u i : Nat, i + u = 720 → ∀ (h4 : vHp) (G4 : Nat → Bool), vRp h4 c X (a + 1) true (tp + 1) G4 → vfil G3 G4 (720 * tp) (vDd X.2.2.2.2.2.2 m) i → vFr (vZp c) h h4 → vW (vCall (d + 5)) 118 Q 190 [.ref c, .int (iI (dep : Int)), .int (iI tu), .int (iI (vpe0 X.2.1 X.2.2.1 a)), .int (iI (vBi b1)), .int (iI (vBi b2)), .int (iI ((720 * tp : Nat) : Int)), .int (iI (i : Int))] [] h4 0 0 := by
          intro u
          induction u with
          | zero =>
            intro i hi h4 G4 hM4 hf4 f4
            obtain rfl : i = 720 := by omega
            refine r_iload c118_190 rfl (r_ci c118_192 ?_)
            refine r_icge c118_195 (by omega) (by omega) (by omega) (by omega) (fun c_195 => ?_) (fun q => by exfalso; omega)
            refine r_iload c118_224 rfl ?_
            refine r_iret (st := []) c118_226 ?_
            exact k h4 (a + 1) true G4 hM4 hl (vpre_tr p3 (vfil_pre hf4) (Nat.le_refl _)) ⟨fun q => (by cases q), fun _ => ⟨rfl, fun q => (by cases q), fun _ => ⟨_, rfl, hf4.1⟩⟩⟩ f4
          | succ u ih =>
            intro i hi h4 G4 hM4 hf4 f4
            obtain ⟨g, g1, g2⟩ := hM4.2.1
            refine r_iload c118_190 rfl (r_ci c118_192 ?_)
            refine r_icge c118_195 (by omega) (by omega) (by omega) (by omega) (fun q => by exfalso; omega) (fun c_195 => ?_)
            refine r_aload c118_198 rfl (r_get c118_199 hM4.1 rfl (r_iload c118_202 rfl (r_iload c118_204 rfl (r_iadd c118_206 (r_aload c118_207 rfl (r_iload c118_208 rfl (r_ci c118_209 (r_isub c118_211 (r_iload c118_212 rfl ?_)))))))))
            rw [hm]
            refine r_iv2 c118_214 vr_106 hM4.1 rfl (k_mOf (vRp_n hM4) (by omega) (by omega) ?_)
            dsimp only [vpush]
            refine r_bast c118_217 g1 (Nat.le_add_right_of_le hM4.2.2.2.2.1) (by omega) (by omega) (by cases vDd X.2.2.2.2.2.2 m i <;> decide) (fun h5 s5 => ?_)
            refine r_iinc c118_218 rfl rfl (r_goto c118_221 ?_)
            try dsimp only [vst]
            rw [vsu]
            rw [show (((720 * tp : Nat) : Int) + (i : Int)).toNat = 720 * tp + i by omega] at s5
            exact ih (i + 1) (by omega) h5 _ (vRp_set hM4 g2 s5 rfl) (vfil_su hf4 rfl) (vFr_tr f4 (vZp_s s5))
        refine r_istore c118_185 rfl (r_ci c118_187 (r_istore c118_188 rfl ?_))
        try dsimp only [vst]
        exact loop 720 0 rfl h3 G3 hM3 vfil_0 (vFr_tr (vZp_o s2) f3)
      · dsimp only [vpush]
        refine r_ifeq c118_168 (by omega) (by omega) (fun c_168 => ?_) (fun q => by exfalso; omega)
        refine r_aload c118_227 rfl (r_get c118_228 ho rfl ?_)
        refine vife (by decide +kernel : vlk 118 231 = some (70, 264, 0, 0, 234)) (fun b => by cases b) (fun _ => ?_)
        have unit : (vpe0 X.2.1 X.2.2.1 a = 119 ∨ vpe0 X.2.1 X.2.2.1 a = 100 ∨ vpe0 X.2.1 X.2.2.1 a = 109 ∨ vpe0 X.2.1 X.2.2.1 a = 121) → vW (vCall (d + 5)) 118 Q 258 [.ref c, .int (iI (dep : Int)), .int (iI tu), .int (iI (vpe0 X.2.1 X.2.2.1 a)), .int (iI (vBi b1)), .int (iI (vBi b2)), x6, x7] [] h 0 0 := by
          intro gu
          have er : vpn X.2.1 X.2.2.1 (fun i => vDd X.2.2.2.2.2.2 i) fo a = vpu X.2.1 X.2.2.1 (vch X.2.1 X.2.2.1 a) (a + 1) := vpn_U (by omega)
          rw [er] at k
          have eq : vch X.2.1 X.2.2.1 a = vpe0 X.2.1 X.2.2.1 a := by omega
          rw [eq] at k
          refine r_aload c118_258 rfl (r_iload c118_259 rfl ?_)
          refine r_iv1 c118_260 vr_119 ho rfl (k_mcal gu h a tp G _ hM (by omega) (by omega) (fun h' a' w' G' c1 c2 c3 c4 c5 => ?_))
          dsimp only [vpush]
          refine r_iret (st := []) c118_263 ?_
          exact k h' a' w' G' c1 c2 c3 ⟨fun q => (by cases q), c4.2⟩ c5
        have from264 : ¬ (vpe0 X.2.1 X.2.2.1 a = 119 ∨ vpe0 X.2.1 X.2.2.1 a = 100 ∨ vpe0 X.2.1 X.2.2.1 a = 109 ∨ vpe0 X.2.1 X.2.2.1 a = 121) → vW (vCall (d + 5)) 118 Q 264 [.ref c, .int (iI (dep : Int)), .int (iI tu), .int (iI (vpe0 X.2.1 X.2.2.1 a)), .int (iI (vBi b1)), .int (iI (vBi b2)), x6, x7] [] h 0 0 := by
          intro gu
          have pair : (vpe0 X.2.1 X.2.2.1 a = 101 ∨ vpe0 X.2.1 X.2.2.1 a = 114) → vW (vCall (d + 5)) 118 Q 283 [.ref c, .int (iI (dep : Int)), .int (iI tu), .int (iI (vpe0 X.2.1 X.2.2.1 a)), .int (iI (vBi b1)), .int (iI (vBi b2)), x6, x7] [] h 0 0 := by
            intro gp
            have er : vpn X.2.1 X.2.2.1 (fun i => vDd X.2.2.2.2.2.2 i) fo a = vpp X.2.1 X.2.2.1 (vch X.2.1 X.2.2.1 a) (a + 1) := vpn_P (by omega)
            rw [er] at k
            have eq : vch X.2.1 X.2.2.1 a = vpe0 X.2.1 X.2.2.1 a := by omega
            rw [eq] at k
            refine r_aload c118_283 rfl (r_iload c118_284 rfl ?_)
            refine r_iv1 c118_285 vr_120 ho rfl (k_mstr gp h a tp G _ hM (by omega) (by omega) (fun h' a' w' G' c1 c2 c3 c4 c5 => ?_))
            dsimp only [vpush]
            refine r_iret (st := []) c118_288 ?_
            exact k h' a' w' G' c1 c2 c3 ⟨fun q => (by cases q), c4.2⟩ c5
          have from289 : ¬ (vpe0 X.2.1 X.2.2.1 a = 101 ∨ vpe0 X.2.1 X.2.2.1 a = 114) → vW (vCall (d + 5)) 118 Q 289 [.ref c, .int (iI (dep : Int)), .int (iI tu), .int (iI (vpe0 X.2.1 X.2.2.1 a)), .int (iI (vBi b1)), .int (iI (vBi b2)), x6, x7] [] h 0 0 := by
            intro gp
            have last : (dep = 5 ∨ ¬ (vhb (vch X.2.1 X.2.2.1 a))) → vpn X.2.1 X.2.2.1 (fun i => vDd X.2.2.2.2.2.2 i) fo a = (a, none) := by
              intro q5
              by_cases hh : vhb (vch X.2.1 X.2.2.1 a)
              · rcases hf with q | q
                · rw [q.2]; exact vpn_N hh
                · exfalso
                  rcases q5 with z | z
                  · omega
                  · exact z hh
              · exact vpn_0 hh (by omega) (by omega) (by omega)
            have hhb : vhb (vch X.2.1 X.2.2.1 a) ↔ (vch X.2.1 X.2.2.1 a = 40 ∨ vpe0 X.2.1 X.2.2.1 a = 98 ∨ vpe0 X.2.1 X.2.2.1 a = 108 ∨ vpe0 X.2.1 X.2.2.1 a = 110 ∨ vpe0 X.2.1 X.2.2.1 a = 112 ∨ vpe0 X.2.1 X.2.2.1 a = 115 ∨ vpe0 X.2.1 X.2.2.1 a = 120) := by unfold vhb; omega
            have from323 : (b1 = false ∨ dep = 5) → vW (vCall (d + 5)) 118 Q 323 [.ref c, .int (iI (dep : Int)), .int (iI tu), .int (iI (vpe0 X.2.1 X.2.2.1 a)), .int (iI (vBi b1)), .int (iI (vBi b2)), x6, x7] [] h 0 0 := by
              intro nb1
              refine r_aload c118_323 rfl (r_get c118_324 ho rfl ?_)
              refine vife (by decide +kernel : vlk 118 327 = some (70, 347, 0, 0, 330)) (fun b => by cases b) (fun _ => ?_)
              refine r_iload c118_330 rfl (r_ci c118_331 ?_)
              refine r_icge c118_332 (by omega) (by omega) (by omega) (by omega) (fun c_332 => ?_) (fun c_332 => ?_)
              · exact none' (fun _ => last (Or.inl (by omega))) _ _ _ _ _
              · refine r_iload c118_335 rfl ?_
                have nb1' : b1 = false := by rcases nb1 with q | q; exact q; omega
                have n1 := of_decide_eq_false (hb1.symm.trans nb1')
                refine vife (by decide +kernel : vlk 118 337 = some (70, 347, 0, 0, 340)) (fun b => ?_) (fun b => ?_)
                · have n2 := of_decide_eq_false (hb2.symm.trans b)
                  refine none' (fun _ => last (Or.inr (fun q => ?_))) _ _ _ _ _
                  have := hhb.1 q
                  exact hno ⟨rfl, by omega, by omega⟩
                · have y2 := of_decide_eq_true (hb2.symm.trans b)
                  rcases hf with q | ⟨q1, q2, f, q3, q4⟩
                  · exfalso; omega
                  · have er : vpn X.2.1 X.2.2.1 (fun i => vDd X.2.2.2.2.2.2 i) fo a = vpc X.2.1 X.2.2.1 f (vpe0 X.2.1 X.2.2.1 a) (a + 1) := by
                      have eq : vch X.2.1 X.2.2.1 a = vpe0 X.2.1 X.2.2.1 a := by omega
                      rw [q3]
                      unfold vpn
                      dsimp only
                      rw [eq, if_neg (by omega), if_neg (by omega), if_neg (by omega), if_neg (by omega), if_neg (by omega), if_pos y2]
                    rw [er] at k
                    refine r_aload c118_340 rfl (r_iload c118_341 rfl (r_iload c118_342 rfl ?_))
                    refine r_iv2 c118_343 vr_124 ho rfl (k_mwho q4 q2 y2 h a tp G _ hM (by omega) ht (fun h' a' w' G' c1 c2 c3 c4 c5 => ?_))
                    dsimp only [vpush]
                    refine r_iret (st := []) c118_346 ?_
                    exact k h' a' w' G' c1 c2 c3 ⟨fun q => (by cases q), c4.2⟩ c5
            refine r_aload c118_289 rfl (r_get c118_290 ho rfl ?_)
            refine vife (by decide +kernel : vlk 118 293 = some (70, 323, 0, 0, 296)) (fun b => by cases b) (fun _ => ?_)
            refine r_iload c118_296 rfl (r_ci c118_297 ?_)
            refine r_icge c118_298 (by omega) (by omega) (by omega) (by omega) (fun c_298 => ?_) (fun c_298 => ?_)
            · exact from323 (Or.inr (by omega))
            · refine r_iload c118_301 rfl ?_
              refine vife (by decide +kernel : vlk 118 303 = some (70, 323, 0, 0, 306)) (fun b => ?_) (fun b => ?_)
              · exact from323 (Or.inl b)
              · have y1 := of_decide_eq_true (hb1.symm.trans b)
                rcases hf with q | ⟨q1, q2, f, q3, q4⟩
                · exfalso; omega
                · have er : vpn X.2.1 X.2.2.1 (fun i => vDd X.2.2.2.2.2.2 i) fo a = vpb X.2.1 X.2.2.1 f (vpe0 X.2.1 X.2.2.1 a) (a + 1) := by
                    have eq : vch X.2.1 X.2.2.1 a = vpe0 X.2.1 X.2.2.1 a := by omega
                    rw [q3]
                    unfold vpn
                    dsimp only
                    rw [eq, if_neg (by omega), if_neg (by omega), if_neg (by omega), if_neg (by omega), if_pos y1]
                  rw [er] at k
                  refine r_aload c118_306 rfl (r_iload c118_307 rfl (r_ci c118_308 ?_))
                  refine r_icne c118_310 (by omega) (by omega) (by omega) (by omega) (fun c_310 => ?_) (fun c_310 => ?_)
                  · refine r_ci c118_317 (r_iload c118_318 rfl ?_)
                    refine r_iv2 c118_319 vr_122 ho rfl (k_mblk (la := false) q4 q2 (decide_eq_false c_310).symm y1 h a tp G _ hM (by omega) ht (fun h' a' w' G' c1 c2 c3 c4 c5 => ?_))
                    dsimp only [vpush]
                    refine r_iret (st := []) c118_322 ?_
                    exact k h' a' w' G' c1 c2 c3 ⟨fun q => (by cases q), c4.2⟩ c5
                  · refine r_ci c118_313 (r_goto c118_314 (r_iload c118_318 rfl ?_))
                    refine r_iv2 c118_319 vr_122 ho rfl (k_mblk (la := true) q4 q2 (decide_eq_true c_310).symm y1 h a tp G _ hM (by omega) ht (fun h' a' w' G' c1 c2 c3 c4 c5 => ?_))
                    dsimp only [vpush]
                    refine r_iret (st := []) c118_322 ?_
                    exact k h' a' w' G' c1 c2 c3 ⟨fun q => (by cases q), c4.2⟩ c5
          refine r_aload c118_264 rfl (r_get c118_265 ho rfl ?_)
          refine vife (by decide +kernel : vlk 118 268 = some (70, 289, 0, 0, 271)) (fun b => by cases b) (fun _ => ?_)
          refine r_iload c118_271 rfl (r_ci c118_272 ?_)
          refine r_iceq c118_274 (by omega) (by omega) (by omega) (by omega) (fun c_274 => ?_) (fun c_274 => ?_)
          · exact pair (Or.inl c_274)
          · refine r_iload c118_277 rfl (r_ci c118_278 ?_)
            refine r_icne c118_280 (by omega) (by omega) (by omega) (by omega) (fun c_280 => ?_) (fun c_280 => ?_)
            · exact from289 (by omega)
            · exact pair (Or.inr c_280)
        refine r_iload c118_234 rfl (r_ci c118_235 ?_)
        refine r_iceq c118_237 (by omega) (by omega) (by omega) (by omega) (fun c_237 => ?_) (fun c_237 => ?_)
        · exact unit (Or.inl c_237)
        · refine r_iload c118_240 rfl (r_ci c118_241 ?_)
          refine r_iceq c118_243 (by omega) (by omega) (by omega) (by omega) (fun c_243 => ?_) (fun c_243 => ?_)
          · exact unit (by omega)
          · refine r_iload c118_246 rfl (r_ci c118_247 ?_)
            refine r_iceq c118_249 (by omega) (by omega) (by omega) (by omega) (fun c_249 => ?_) (fun c_249 => ?_)
            · exact unit (by omega)
            · refine r_iload c118_252 rfl (r_ci c118_253 ?_)
              refine r_icne c118_255 (by omega) (by omega) (by omega) (by omega) (fun c_255 => ?_) (fun c_255 => ?_)
              · exact from264 (by omega)
              · exact unit (by omega)
  have from95 : ¬ (w = true ∧ vch X.2.1 X.2.2.1 a = 40 ∧ dep < 5) → ∀ x3 x4 x5 x6 x7 : Value, vW (vCall (d + 5)) 118 Q 95 [.ref c, .int (iI (dep : Int)), .int (iI tu), x3, x4, x5, x6, x7] [] h 0 0 := by
    intro hno x3 x4 x5 x6 x7
    have from119 : ∀ (b1 : Bool), b1 = decide (vpe0 X.2.1 X.2.2.1 a = 110 ∨ vpe0 X.2.1 X.2.2.1 a = 108) → vW (vCall (d + 5)) 118 Q 119 [.ref c, .int (iI (dep : Int)), .int (iI tu), .int (iI (vpe0 X.2.1 X.2.2.1 a)), .int (iI (vBi b1)), x5, x6, x7] [] h 0 0 := by
      intro b1 hb1
      have yes : (vpe0 X.2.1 X.2.2.1 a = 115 ∨ vpe0 X.2.1 X.2.2.1 a = 98 ∨ vpe0 X.2.1 X.2.2.1 a = 112 ∨ vpe0 X.2.1 X.2.2.1 a = 120) → vW (vCall (d + 5)) 118 Q 143 [.ref c, .int (iI (dep : Int)), .int (iI tu), .int (iI (vpe0 X.2.1 X.2.2.1 a)), .int (iI (vBi b1)), x5, x6, x7] [] h 0 0 := by
        intro y
        refine r_ci c118_143 (r_goto c118_144 (r_istore c118_148 rfl ?_))
        try dsimp only [vst]
        exact from150 b1 true _ _ hb1 (decide_eq_true y).symm hno
      refine r_iload c118_119 rfl (r_ci c118_120 ?_)
      refine r_iceq c118_122 (by omega) (by omega) (by omega) (by omega) (fun c_122 => ?_) (fun c_122 => ?_)
      · exact yes (Or.inl c_122)
      · refine r_iload c118_125 rfl (r_ci c118_126 ?_)
        refine r_iceq c118_128 (by omega) (by omega) (by omega) (by omega) (fun c_128 => ?_) (fun c_128 => ?_)
        · exact yes (by omega)
        · refine r_iload c118_131 rfl (r_ci c118_132 ?_)
          refine r_iceq c118_134 (by omega) (by omega) (by omega) (by omega) (fun c_134 => ?_) (fun c_134 => ?_)
          · exact yes (by omega)
          · refine r_iload c118_137 rfl (r_ci c118_138 ?_)
            refine r_icne c118_140 (by omega) (by omega) (by omega) (by omega) (fun c_140 => ?_) (fun c_140 => ?_)
            · refine r_ci c118_147 (r_istore c118_148 rfl ?_)
              try dsimp only [vst]
              exact from150 b1 false _ _ hb1 (decide_eq_false (by omega)).symm hno
            · exact yes (by omega)
    refine r_aload c118_95 rfl ?_
    refine r_iv0 c118_96 vr_110 ho rfl (k_peek hM ha ?_)
    dsimp only [vpush]
    refine r_istore c118_99 rfl (r_iload c118_100 rfl (r_ci c118_101 ?_))
    try dsimp only [vst]
    refine r_iceq c118_103 (by omega) (by omega) (by omega) (by omega) (fun c_103 => ?_) (fun c_103 => ?_)
    · refine r_ci c118_112 (r_goto c118_113 (r_istore c118_117 rfl ?_))
      try dsimp only [vst]
      exact from119 true (decide_eq_true (Or.inl c_103)).symm
    · refine r_iload c118_106 rfl (r_ci c118_107 ?_)
      refine r_icne c118_109 (by omega) (by omega) (by omega) (by omega) (fun c_109 => ?_) (fun c_109 => ?_)
      · refine r_ci c118_116 (r_istore c118_117 rfl ?_)
        try dsimp only [vst]
        exact from119 false (decide_eq_false (by omega)).symm
      · refine r_ci c118_112 (r_goto c118_113 (r_istore c118_117 rfl ?_))
        try dsimp only [vst]
        exact from119 true (decide_eq_true (Or.inr c_109)).symm
  refine r_aload c118_75 rfl (r_ci c118_76 ?_)
  refine r_iv1 c118_78 vr_111 ho rfl (k_isAt hM ha (by omega) (by omega) (fun q1 q2 => ?_) (fun q => ?_))
  · dsimp only [vpush]
    refine r_ifeq c118_81 (by omega) (by omega) (fun q => by exfalso; omega) (fun c_81 => ?_)
    refine r_iload c118_84 rfl (r_ci c118_85 ?_)
    refine r_icge c118_86 (by omega) (by omega) (by omega) (by omega) (fun c_86 => ?_) (fun c_86 => ?_)
    · exact from95 (by omega) _ _ _ _ _
    · rcases hf with g | ⟨g1, g2, f, g3, g4⟩
      · exfalso; omega
      · have er : vpn X.2.1 X.2.2.1 (fun i => vDd X.2.2.2.2.2.2 i) fo a = vbr X.2.1 X.2.2.1 f a := by
          rw [g3]
          unfold vpn
          dsimp only
          exact if_pos q2
        rw [er] at k
        refine r_aload c118_89 rfl (r_iload c118_90 rfl ?_)
        refine r_iv1 c118_91 vr_117 ho rfl (vKm_up g4 h a w tp G _ hM ha ht (fun h' a' w' G' c1 c2 c3 c4 c5 => ?_))
        dsimp only [vpush]
        refine r_iret (st := []) c118_94 ?_
        exact k h' a' w' G' c1 c2 c3 c4 c5
  · dsimp only [vpush]
    refine r_ifeq c118_81 (by omega) (by omega) (fun c_81 => ?_) (fun q => by exfalso; omega)
    exact from95 (fun z => q ⟨z.1, z.2.1⟩) _ _ _ _ _
theorem vfo_up {d c dep mx : Nat} {X : vMX} {fo : Option (Nat → vPr)} (hf : vfo d c dep mx X fo) : vfo (d + 1) c dep mx X fo := by
  rcases hf with q | ⟨q1, q2, f, q3, q4⟩
  · exact Or.inl q
  · exact Or.inr ⟨q1, q2, f, q3, vKm_up q4⟩
theorem k_mfac0 {d c dep mx : Nat} {X : vMX} {fo : Option (Nat → vPr)} (hf : vfo d c dep mx X fo) (hmx : 1 ≤ mx) : vKm (d + 6) 118 [.int (iI (dep : Int)), .int (iI 0)] c X mx (vpn X.2.1 X.2.2.1 (fun i => vDd X.2.2.2.2.2.2 i) fo) := by
  intro h a w tp G Q hM ha ht k
  refine vin 8 [_, _, _, _, _, _, _, _] ml_118 rfl rfl ?_
  refine r_aload c118_0 rfl (r_ci c118_1 ?_)
  refine r_iv1 c118_3 vr_111 hM.1 rfl (k_isAt hM ha (by omega) (by omega) (fun q1 q2 => ?_) (fun q => ?_))
  · dsimp only [vpush]
    refine r_ifeq c118_6 (by omega) (by omega) (fun q => by exfalso; omega) (fun c_6 => ?_)
    refine r_iload c118_9 rfl ?_
    refine r_ifeq c118_10 (by omega) (by omega) (fun c_10 => ?_) (fun q => by exfalso; omega)
    exact k_mfac75 hf hmx hM ha ht k
  · dsimp only [vpush]
    refine r_ifeq c118_6 (by omega) (by omega) (fun c_6 => ?_) (fun q => by exfalso; omega)
    exact k_mfac75 hf hmx hM ha ht k
theorem k_mfac1 {d c dep mx : Nat} {X : vMX} {fo : Option (Nat → vPr)} (hf : vfo d c dep mx X fo) (hmx : 1 ≤ mx) : vKm (d + 7) 118 [.int (iI (dep : Int)), .int (iI 1)] c X mx (vpf X.2.1 X.2.2.1 (fun i => vDd X.2.2.2.2.2.2 i) fo) := by
  intro h a w tp G Q hM ha ht k
  have ho := hM.1
  refine vin 8 [_, _, _, _, _, _, _, _] ml_118 rfl rfl ?_
  refine r_aload c118_0 rfl (r_ci c118_1 ?_)
  refine r_iv1 c118_3 vr_111 ho rfl (k_isAt hM ha (by omega) (by omega) (fun q1 q2 => ?_) (fun q => ?_))
  · dsimp only [vpush]
    subst q1
    have hl := vch_lt (n := X.2.1) (t := X.2.2.1) (p := a) (by omega)
    have er : vpf X.2.1 X.2.2.1 (fun i => vDd X.2.2.2.2.2.2 i) fo a = vth (vpn X.2.1 X.2.2.1 (fun i => vDd X.2.2.2.2.2.2 i) fo (a + 1)) (fun q S => (q, some (fun d => !S d))) := if_pos q2
    rw [er] at k
    refine r_ifeq c118_6 (by omega) (by omega) (fun q => by exfalso; omega) (fun c_6 => ?_)
    refine r_iload c118_9 rfl ?_
    refine r_ifeq c118_10 (by omega) (by omega) (fun q => by exfalso; omega) (fun c_10 => ?_)
    refine r_aload c118_13 rfl (r_dup c118_14 rfl (r_get c118_15 ho rfl (r_ci c118_18 (r_iadd c118_19 ?_))))
    refine r_put c118_20 ho hM.2.2.2.2.1 rfl ⟨rfl, rfl⟩ (fun h2 s2 => ?_)
    rw [vsu] at s2
    have hM2 := vRp_obj (a2 := a + 1) (w2 := true) (tp2 := tp) hM s2
    refine r_aload c118_23 rfl (r_iload c118_24 rfl (r_ci c118_25 ?_))
    refine r_iv2 c118_26 vr_118 hM2.1 rfl (k_mfac0 hf hmx h2 _ _ _ _ _ hM2 hl ht (fun h3 a3 w3 G3 hM3 ha3 p3 r3 f3 => ?_))
    dsimp only [vpush]
    obtain ⟨g1, g2, g3⟩ := r3.2 rfl
    have loop : ∀ u i : Nat, i + u = 720 → ∀ (h4 : vHp) (G4 : Nat → Bool) (x5 x6 x7 : Value), vRp h4 c X a3 w3 (tp + 1) G4 → vfil G3 G4 (720 * tp) (fun e => !G3 (720 * tp + e)) i → vFr (vZp c) h h4 → vW (vCall (d + 6)) 118 Q 33 [.ref c, .int (iI (dep : Int)), .int (iI 1), .int (iI ((720 * tp : Nat) : Int)), .int (iI (i : Int)), x5, x6, x7] [] h4 0 0 := by
      intro u
      induction u with
      | zero =>
        intro i hi h4 G4 x5 x6 x7 hM4 hf4 f4
        obtain rfl : i = 720 := by omega
        refine r_iload c118_33 rfl (r_ci c118_35 ?_)
        refine r_icge c118_38 (by omega) (by omega) (by omega) (by omega) (fun c_38 => ?_) (fun q => by exfalso; omega)
        refine r_iload c118_73 rfl ?_
        refine r_iret (st := []) c118_74 ?_
        refine k h4 a3 w3 G4 hM4 ha3 (vpre_tr p3 (vfil_pre hf4) (Nat.le_refl _)) ?_ f4
        cases w3
        · exact vrs_no (fun q => by cases q) (fun _ => by rw [vth_none (g2 rfl), ← g1])
        · obtain ⟨S, t1, t2⟩ := g3 rfl
          rw [vth_some t1, ← g1]
          exact ⟨fun q => (by cases q), fun _ => ⟨rfl, fun q => (by cases q), fun _ => ⟨_, rfl, fun e he => by
            have g0 := hf4.1 e he
            dsimp only at g0
            rw [g0, t2 e he]⟩⟩⟩
      | succ u ih =>
        intro i hi h4 G4 x5 x6 x7 hM4 hf4 f4
        obtain ⟨g, e1, e2⟩ := hM4.2.1
        have fin : ∀ b : Bool, b = (!G3 (720 * tp + i)) → vW (vCall (d + 6)) 118 Q 66 [.ref c, .int (iI (dep : Int)), .int (iI 1), .int (iI ((720 * tp : Nat) : Int)), .int (iI (i : Int)), x5, x6, x7] [.int (iI (vBi b)), .int (iI (((720 * tp : Nat) : Int) + (i : Int))), .ref (c + 10)] h4 0 0 := by
          intro b hb
          refine r_bast c118_66 e1 (Nat.le_add_right_of_le hM4.2.2.2.2.1) (by omega) (by omega) (by cases b <;> decide) (fun h5 s5 => ?_)
          refine r_iinc c118_67 rfl rfl (r_goto c118_70 ?_)
          try dsimp only [vst]
          rw [vsu]
          rw [show (((720 * tp : Nat) : Int) + (i : Int)).toNat = 720 * tp + i by omega] at s5
          exact ih (i + 1) (by omega) h5 _ _ _ _ (vRp_set hM4 e2 s5 rfl) (vfil_su hf4 hb) (vFr_tr f4 (vZp_s s5))
        rw [← hf4.2 (720 * tp + i) (Or.inr (Nat.le_refl _))] at fin
        refine r_iload c118_33 rfl (r_ci c118_35 ?_)
        refine r_icge c118_38 (by omega) (by omega) (by omega) (by omega) (fun q => by exfalso; omega) (fun c_38 => ?_)
        refine r_aload c118_41 rfl (r_get c118_42 hM4.1 rfl (r_iload c118_45 rfl (r_iload c118_46 rfl (r_iadd c118_48 (r_aload c118_49 rfl (r_get c118_50 hM4.1 rfl (r_iload c118_53 rfl (r_iload c118_54 rfl (r_iadd c118_56 (r_bald c118_57 e1 (by omega) (by omega) ?_))))))))))
        rw [show (((720 * tp : Nat) : Int) + (i : Int)).toNat = 720 * tp + i by omega, e2 _ (by omega)]
        refine vifb (by decide +kernel : vlk 118 58 = some (71, 65, 0, 0, 61)) (fun b => ?_) (fun b => ?_)
        · refine r_ci c118_65 ?_
          exact fin false (by rw [b]; rfl)
        · refine r_ci c118_61 (r_goto c118_62 ?_)
          exact fin true (by rw [b]; rfl)
    refine r_istore c118_29 rfl (r_ci c118_30 (r_istore c118_31 rfl ?_))
    try dsimp only [vst]
    exact loop 720 0 rfl h3 G3 _ _ _ hM3 vfil_0 (vFr_tr (vZp_o s2) f3)
  · dsimp only [vpush]
    refine r_ifeq c118_6 (by omega) (by omega) (fun c_6 => ?_) (fun q => by exfalso; omega)
    refine k_mfac75 (vfo_up hf) hmx hM ha ht (fun h' a' w' G' c1 c2 c3 c4 c5 => k h' a' w' G' c1 c2 c3 ?_ c5)
    cases w
    · exact ⟨c4.1, fun q => by cases q⟩
    · rw [show vpf X.2.1 X.2.2.1 (fun i => vDd X.2.2.2.2.2.2 i) fo a = vpn X.2.1 X.2.2.1 (fun i => vDd X.2.2.2.2.2.2 i) fo a from if_neg (fun z => q ⟨rfl, z⟩)]
      exact c4
theorem vex_0 {n : Nat} {t : Nat → Int} {D : Nat → vSt1} : vex n t D 0 = vpz n t (vpd n t (vpf n t D none) 81 (fun _ => true)) 81 false (fun _ => false) := funext (fun p => by rw [vex])
theorem vex_s {n e : Nat} {t : Nat → Int} {D : Nat → vSt1} : vex n t D (e + 1) = vpz n t (vpd n t (vpf n t D (some (vex n t D e))) 81 (fun _ => true)) 81 false (fun _ => false) := funext (fun p => by rw [vex])
theorem k_mexp {c : Nat} {X : vMX} : ∀ (e dep d : Nat), dep + e = 5 → vKm (d + 9 + 6 * e) 115 [.int (iI (dep : Int))] c X (3 + 2 * e) (vex X.2.1 X.2.2.1 (fun i => vDd X.2.2.2.2.2.2 i) e)
  | 0, dep, d, hd => by
    rw [vex_0]
    have f1 := k_mfac1 (d := d) (c := c) (dep := dep) (mx := 1) (X := X) (fo := none) (Or.inl ⟨by omega, rfl⟩) (Nat.le_refl _)
    have fok := vfac_ok (f := none) (n := X.2.1) (t := X.2.2.1) (D := fun i => vDd X.2.2.2.2.2.2 i) (Or.inl rfl)
    have t1 := k_mterm (d := d + 4) f1 fok (Nat.le_refl _)
    exact k_mexpr (d := d + 5) (U := 80) t1 (fun p hp => vpd_ok fok 81 (fun _ => true) p hp) (by omega) (Nat.le_refl _)
  | e + 1, dep, d, hd => by
    rw [vex_s]
    have ih := k_mexp (c := c) (X := X) e (dep + 1) d (by omega)
    have b1 := k_brd (d := d + 6 + 6 * e) (dep := dep) (by rw [show d + 6 + 6 * e + 3 = d + 9 + 6 * e by omega]; exact ih)
    have f1 := k_mfac1 (d := d + 6 + 6 * e) (c := c) (dep := dep) (mx := 3 + 2 * e) (X := X) (fo := some (vex X.2.1 X.2.2.1 (fun i => vDd X.2.2.2.2.2.2 i) e)) (Or.inr ⟨by omega, by omega, _, rfl, b1⟩) (by omega)
    have fok := vfac_ok (f := some (vex X.2.1 X.2.2.1 (fun i => vDd X.2.2.2.2.2.2 i) e)) (n := X.2.1) (t := X.2.2.1) (D := fun i => vDd X.2.2.2.2.2.2 i) (Or.inr ⟨e, rfl⟩)
    have t1 := k_mterm (d := d + 10 + 6 * e) (by rw [show d + 10 + 6 * e + 3 = d + 6 + 6 * e + 7 by omega]; exact f1) fok (by omega)
    have g := k_mexpr (d := d + 11 + 6 * e) (U := 80) (by rw [show d + 11 + 6 * e + 3 = d + 10 + 6 * e + 4 by omega]; exact t1) (fun p hp => vpd_ok fok 81 (fun _ => true) p hp) (by omega) (Nat.le_refl _)
    rw [show d + 9 + 6 * (e + 1) = d + 11 + 6 * e + 4 by omega, show 3 + 2 * (e + 1) = 3 + 2 * e + 1 + 1 by omega]
    exact g

