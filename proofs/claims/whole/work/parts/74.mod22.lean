theorem ml_141 : vml 141 = 7 := by decide +kernel
theorem c141_0 : vlk 141 0 = some (4, 1, 0, 0, 1) := by decide +kernel
theorem c141_1 : vlk 141 1 = some (59, 103, 0, 0, 4) := by decide +kernel
theorem c141_4 : vlk 141 4 = some (71, 9, 0, 0, 7) := by decide +kernel
theorem c141_7 : vlk 141 7 = some (1, 0, 0, (-1), 8) := by decide +kernel
theorem c141_8 : vlk 141 8 = some (63, 0, 0, 0, 9) := by decide +kernel
theorem c141_9 : vlk 141 9 = some (4, 2, 0, 0, 10) := by decide +kernel
theorem c141_10 : vlk 141 10 = some (59, 104, 0, 0, 13) := by decide +kernel
theorem c141_13 : vlk 141 13 = some (70, 28, 0, 0, 16) := by decide +kernel
theorem c141_16 : vlk 141 16 = some (4, 3, 0, 0, 17) := by decide +kernel
theorem c141_17 : vlk 141 17 = some (59, 104, 0, 0, 20) := by decide +kernel
theorem c141_20 : vlk 141 20 = some (70, 28, 0, 0, 23) := by decide +kernel
theorem c141_23 : vlk 141 23 = some (4, 3, 0, 0, 24) := by decide +kernel
theorem c141_24 : vlk 141 24 = some (4, 2, 0, 0, 25) := by decide +kernel
theorem c141_25 : vlk 141 25 = some (79, 31, 0, 0, 28) := by decide +kernel
theorem c141_28 : vlk 141 28 = some (1, 0, 0, (-2), 30) := by decide +kernel
theorem c141_30 : vlk 141 30 = some (63, 0, 0, 0, 31) := by decide +kernel
theorem c141_31 : vlk 141 31 = some (1, 0, 0, 0, 32) := by decide +kernel
theorem c141_32 : vlk 141 32 = some (7, 4, 0, 0, 34) := by decide +kernel
theorem c141_34 : vlk 141 34 = some (1, 0, 0, 0, 35) := by decide +kernel
theorem c141_35 : vlk 141 35 = some (7, 5, 0, 0, 37) := by decide +kernel
theorem c141_37 : vlk 141 37 = some (4, 5, 0, 0, 39) := by decide +kernel
theorem c141_39 : vlk 141 39 = some (6, 0, 0, 0, 40) := by decide +kernel
theorem c141_40 : vlk 141 40 = some (42, 6, 15, 0, 43) := by decide +kernel
theorem c141_43 : vlk 141 43 = some (79, 122, 0, 0, 46) := by decide +kernel
theorem c141_46 : vlk 141 46 = some (6, 0, 0, 0, 47) := by decide +kernel
theorem c141_47 : vlk 141 47 = some (42, 6, 16, 0, 50) := by decide +kernel
theorem c141_50 : vlk 141 50 = some (4, 5, 0, 0, 52) := by decide +kernel
theorem c141_52 : vlk 141 52 = some (45, 0, 0, 0, 53) := by decide +kernel
theorem c141_53 : vlk 141 53 = some (4, 1, 0, 0, 54) := by decide +kernel
theorem c141_54 : vlk 141 54 = some (77, 79, 0, 0, 57) := by decide +kernel
theorem c141_57 : vlk 141 57 = some (6, 0, 0, 0, 58) := by decide +kernel
theorem c141_58 : vlk 141 58 = some (42, 6, 17, 0, 61) := by decide +kernel
theorem c141_61 : vlk 141 61 = some (4, 5, 0, 0, 63) := by decide +kernel
theorem c141_63 : vlk 141 63 = some (45, 0, 0, 0, 64) := by decide +kernel
theorem c141_64 : vlk 141 64 = some (4, 2, 0, 0, 65) := by decide +kernel
theorem c141_65 : vlk 141 65 = some (77, 79, 0, 0, 68) := by decide +kernel
theorem c141_68 : vlk 141 68 = some (6, 0, 0, 0, 69) := by decide +kernel
theorem c141_69 : vlk 141 69 = some (42, 6, 18, 0, 72) := by decide +kernel
theorem c141_72 : vlk 141 72 = some (4, 5, 0, 0, 74) := by decide +kernel
theorem c141_74 : vlk 141 74 = some (45, 0, 0, 0, 75) := by decide +kernel
theorem c141_75 : vlk 141 75 = some (4, 3, 0, 0, 76) := by decide +kernel
theorem c141_76 : vlk 141 76 = some (76, 116, 0, 0, 79) := by decide +kernel
theorem c141_79 : vlk 141 79 = some (6, 0, 0, 0, 80) := by decide +kernel
theorem c141_80 : vlk 141 80 = some (4, 4, 0, 0, 82) := by decide +kernel
theorem c141_82 : vlk 141 82 = some (6, 0, 0, 0, 83) := by decide +kernel
theorem c141_83 : vlk 141 83 = some (42, 6, 16, 0, 86) := by decide +kernel
theorem c141_86 : vlk 141 86 = some (4, 5, 0, 0, 88) := by decide +kernel
theorem c141_88 : vlk 141 88 = some (45, 0, 0, 0, 89) := by decide +kernel
theorem c141_89 : vlk 141 89 = some (6, 0, 0, 0, 90) := by decide +kernel
theorem c141_90 : vlk 141 90 = some (42, 6, 17, 0, 93) := by decide +kernel
theorem c141_93 : vlk 141 93 = some (4, 5, 0, 0, 95) := by decide +kernel
theorem c141_95 : vlk 141 95 = some (45, 0, 0, 0, 96) := by decide +kernel
theorem c141_96 : vlk 141 96 = some (6, 0, 0, 0, 97) := by decide +kernel
theorem c141_97 : vlk 141 97 = some (42, 6, 18, 0, 100) := by decide +kernel
theorem c141_100 : vlk 141 100 = some (4, 5, 0, 0, 102) := by decide +kernel
theorem c141_102 : vlk 141 102 = some (45, 0, 0, 0, 103) := by decide +kernel
theorem c141_103 : vlk 141 103 = some (6, 0, 0, 0, 104) := by decide +kernel
theorem c141_104 : vlk 141 104 = some (42, 6, 19, 0, 107) := by decide +kernel
theorem c141_107 : vlk 141 107 = some (4, 5, 0, 0, 109) := by decide +kernel
theorem c141_109 : vlk 141 109 = some (45, 0, 0, 0, 110) := by decide +kernel
theorem c141_110 : vlk 141 110 = some (58, 140, 0, 0, 113) := by decide +kernel
theorem c141_113 : vlk 141 113 = some (10, 4, 0, 1, 116) := by decide +kernel
theorem c141_116 : vlk 141 116 = some (10, 5, 0, 1, 119) := by decide +kernel
theorem c141_119 : vlk 141 119 = some (37, 37, 0, 0, 122) := by decide +kernel
theorem c141_122 : vlk 141 122 = some (6, 0, 0, 0, 123) := by decide +kernel
theorem c141_123 : vlk 141 123 = some (34, 0, 0, 0, 124) := by decide +kernel
theorem c141_124 : vlk 141 124 = some (42, 6, 20, 0, 127) := by decide +kernel
theorem c141_127 : vlk 141 127 = some (4, 4, 0, 0, 129) := by decide +kernel
theorem c141_129 : vlk 141 129 = some (6, 0, 0, 0, 130) := by decide +kernel
theorem c141_130 : vlk 141 130 = some (42, 6, 15, 0, 133) := by decide +kernel
theorem c141_133 : vlk 141 133 = some (79, 140, 0, 0, 136) := by decide +kernel
theorem c141_136 : vlk 141 136 = some (1, 0, 0, 1, 137) := by decide +kernel
theorem c141_137 : vlk 141 137 = some (37, 141, 0, 0, 140) := by decide +kernel
theorem c141_140 : vlk 141 140 = some (1, 0, 0, 0, 141) := by decide +kernel
theorem c141_141 : vlk 141 141 = some (11, 0, 0, 0, 142) := by decide +kernel
theorem c141_142 : vlk 141 142 = some (43, 6, 20, 0, 145) := by decide +kernel
theorem c141_145 : vlk 141 145 = some (6, 0, 0, 0, 146) := by decide +kernel
theorem c141_146 : vlk 141 146 = some (34, 0, 0, 0, 147) := by decide +kernel
theorem c141_147 : vlk 141 147 = some (42, 6, 21, 0, 150) := by decide +kernel
theorem c141_150 : vlk 141 150 = some (4, 4, 0, 0, 152) := by decide +kernel
theorem c141_152 : vlk 141 152 = some (6, 0, 0, 0, 153) := by decide +kernel
theorem c141_153 : vlk 141 153 = some (42, 6, 15, 0, 156) := by decide +kernel
theorem c141_156 : vlk 141 156 = some (79, 163, 0, 0, 159) := by decide +kernel
theorem c141_159 : vlk 141 159 = some (1, 0, 0, 0, 160) := by decide +kernel
theorem c141_160 : vlk 141 160 = some (37, 164, 0, 0, 163) := by decide +kernel
theorem c141_163 : vlk 141 163 = some (1, 0, 0, 1, 164) := by decide +kernel
theorem c141_164 : vlk 141 164 = some (11, 0, 0, 0, 165) := by decide +kernel
theorem c141_165 : vlk 141 165 = some (43, 6, 21, 0, 168) := by decide +kernel
theorem c141_168 : vlk 141 168 = some (6, 0, 0, 0, 169) := by decide +kernel
theorem c141_169 : vlk 141 169 = some (4, 1, 0, 0, 170) := by decide +kernel
theorem c141_170 : vlk 141 170 = some (4, 2, 0, 0, 171) := by decide +kernel
theorem c141_171 : vlk 141 171 = some (4, 3, 0, 0, 172) := by decide +kernel
theorem c141_172 : vlk 141 172 = some (58, 139, 0, 0, 175) := by decide +kernel
theorem c141_175 : vlk 141 175 = some (7, 5, 0, 0, 177) := by decide +kernel
theorem c141_177 : vlk 141 177 = some (6, 0, 0, 0, 178) := by decide +kernel
theorem c141_178 : vlk 141 178 = some (4, 4, 0, 0, 180) := by decide +kernel
theorem c141_180 : vlk 141 180 = some (4, 1, 0, 0, 181) := by decide +kernel
theorem c141_181 : vlk 141 181 = some (4, 2, 0, 0, 182) := by decide +kernel
theorem c141_182 : vlk 141 182 = some (4, 3, 0, 0, 183) := by decide +kernel
theorem c141_183 : vlk 141 183 = some (4, 5, 0, 0, 185) := by decide +kernel
theorem c141_185 : vlk 141 185 = some (58, 140, 0, 0, 188) := by decide +kernel
theorem c141_188 : vlk 141 188 = some (6, 0, 0, 0, 189) := by decide +kernel
theorem c141_189 : vlk 141 189 = some (4, 4, 0, 0, 191) := by decide +kernel
theorem c141_191 : vlk 141 191 = some (1, 0, 0, 1, 192) := by decide +kernel
theorem c141_192 : vlk 141 192 = some (11, 0, 0, 0, 193) := by decide +kernel
theorem c141_193 : vlk 141 193 = some (43, 6, 15, 0, 196) := by decide +kernel
theorem c141_196 : vlk 141 196 = some (6, 0, 0, 0, 197) := by decide +kernel
theorem c141_197 : vlk 141 197 = some (42, 6, 15, 0, 200) := by decide +kernel
theorem c141_200 : vlk 141 200 = some (1, 0, 0, 7, 202) := by decide +kernel
theorem c141_202 : vlk 141 202 = some (77, 269, 0, 0, 205) := by decide +kernel
theorem c141_205 : vlk 141 205 = some (1, 0, 0, 0, 206) := by decide +kernel
theorem c141_206 : vlk 141 206 = some (7, 6, 0, 0, 208) := by decide +kernel
theorem c141_208 : vlk 141 208 = some (4, 6, 0, 0, 210) := by decide +kernel
theorem c141_210 : vlk 141 210 = some (1, 0, 0, 6, 212) := by decide +kernel
theorem c141_212 : vlk 141 212 = some (79, 263, 0, 0, 215) := by decide +kernel
theorem c141_215 : vlk 141 215 = some (6, 0, 0, 0, 216) := by decide +kernel
theorem c141_216 : vlk 141 216 = some (4, 6, 0, 0, 218) := by decide +kernel
theorem c141_218 : vlk 141 218 = some (6, 0, 0, 0, 219) := by decide +kernel
theorem c141_219 : vlk 141 219 = some (42, 6, 16, 0, 222) := by decide +kernel
theorem c141_222 : vlk 141 222 = some (4, 6, 0, 0, 224) := by decide +kernel
theorem c141_224 : vlk 141 224 = some (1, 0, 0, 1, 225) := by decide +kernel
theorem c141_225 : vlk 141 225 = some (11, 0, 0, 0, 226) := by decide +kernel
theorem c141_226 : vlk 141 226 = some (45, 0, 0, 0, 227) := by decide +kernel
theorem c141_227 : vlk 141 227 = some (6, 0, 0, 0, 228) := by decide +kernel
theorem c141_228 : vlk 141 228 = some (42, 6, 17, 0, 231) := by decide +kernel
theorem c141_231 : vlk 141 231 = some (4, 6, 0, 0, 233) := by decide +kernel
theorem c141_233 : vlk 141 233 = some (1, 0, 0, 1, 234) := by decide +kernel
theorem c141_234 : vlk 141 234 = some (11, 0, 0, 0, 235) := by decide +kernel
theorem c141_235 : vlk 141 235 = some (45, 0, 0, 0, 236) := by decide +kernel
theorem c141_236 : vlk 141 236 = some (6, 0, 0, 0, 237) := by decide +kernel
theorem c141_237 : vlk 141 237 = some (42, 6, 18, 0, 240) := by decide +kernel
theorem c141_240 : vlk 141 240 = some (4, 6, 0, 0, 242) := by decide +kernel
theorem c141_242 : vlk 141 242 = some (1, 0, 0, 1, 243) := by decide +kernel
theorem c141_243 : vlk 141 243 = some (11, 0, 0, 0, 244) := by decide +kernel
theorem c141_244 : vlk 141 244 = some (45, 0, 0, 0, 245) := by decide +kernel
theorem c141_245 : vlk 141 245 = some (6, 0, 0, 0, 246) := by decide +kernel
theorem c141_246 : vlk 141 246 = some (42, 6, 19, 0, 249) := by decide +kernel
theorem c141_249 : vlk 141 249 = some (4, 6, 0, 0, 251) := by decide +kernel
theorem c141_251 : vlk 141 251 = some (1, 0, 0, 1, 252) := by decide +kernel
theorem c141_252 : vlk 141 252 = some (11, 0, 0, 0, 253) := by decide +kernel
theorem c141_253 : vlk 141 253 = some (45, 0, 0, 0, 254) := by decide +kernel
theorem c141_254 : vlk 141 254 = some (58, 140, 0, 0, 257) := by decide +kernel
theorem c141_257 : vlk 141 257 = some (10, 6, 0, 1, 260) := by decide +kernel
theorem c141_260 : vlk 141 260 = some (37, 208, 0, 0, 263) := by decide +kernel
theorem c141_263 : vlk 141 263 = some (6, 0, 0, 0, 264) := by decide +kernel
theorem c141_264 : vlk 141 264 = some (1, 0, 0, 6, 266) := by decide +kernel
theorem c141_266 : vlk 141 266 = some (43, 6, 15, 0, 269) := by decide +kernel
theorem c141_269 : vlk 141 269 = some (4, 5, 0, 0, 271) := by decide +kernel
theorem c141_271 : vlk 141 271 = some (63, 0, 0, 0, 272) := by decide +kernel
/-! the reference: counting, remembered -/
theorem m_count {d c : Nat} {σ : vSg} {x y z : Int} {h : vHp} {Q : vQ} (hD : vMD h c σ) (hO : vOk σ) (x1 : -2147483648 ≤ x) (x2 : x ≤ 2147483647) (y1 : -2147483648 ≤ y) (y2 : y ≤ 2147483647) (z1 : -2147483648 ≤ z) (z2 : z ≤ 2147483647) (k : ∀ h', vMD h' c (vS_count σ x y z) → vFr (vZd c) h h' → Q (some (.int (iI (vQ_count σ.1 x y z)))) h') : vCall (d + 3) 0 0 141 [.ref c, .int (iI x), .int (iI y), .int (iI z)] h Q := by
  obtain ⟨a, w, tp, ho⟩ := vMD_o hD
  have hlo := vMD_lo hD
  have hD0 := hD
  have no : ¬ (0 ≤ y ∧ y ≤ z ∧ z < 720) → (0 ≤ x ∧ x < 10) → ∀ x4 x5 x6 : Value, vW (vCall (d + 2)) 141 Q 28 [.ref c, .int (iI x), .int (iI y), .int (iI z), x4, x5, x6] [] h 0 0 := fun q p x4 x5 x6 => by
    have hs : ¬ vSpn x y z := fun g => q g.2
    have eS : vS_count σ x y z = σ := if_neg hs
    have eQ : vQ_count σ.1 x y z = -2 := (if_neg hs).trans (if_pos p)
    rw [eS, eQ] at k
    refine r_ci c141_28 ?_
    refine r_iret (st := []) c141_30 ?_
    exact k h hD0 vFr_rf
  refine vin 7 [_, _, _, _, _, _, _] ml_141 rfl rfl ?_
  refine r_iload c141_0 rfl ?_
  refine r_is1 c141_1 vr_103 rfl (k_mName x1 x2 (fun p1 p2 => ?_) (fun q => ?_))
  · dsimp only [vpush]
    refine r_ifne c141_4 (by omega) (by omega) (fun c_4 => ?_) (fun q => by exfalso; omega)
    refine r_iload c141_9 rfl ?_
    refine r_is1 c141_10 vr_104 rfl (k_mDay y1 y2 (fun r1 r2 => ?_) (fun q => ?_))
    · dsimp only [vpush]
      refine r_ifeq c141_13 (by omega) (by omega) (fun q => by exfalso; omega) (fun c_13 => ?_)
      refine r_iload c141_16 rfl ?_
      refine r_is1 c141_17 vr_104 rfl (k_mDay z1 z2 (fun t1 t2 => ?_) (fun q => ?_))
      · dsimp only [vpush]
        refine r_ifeq c141_20 (by omega) (by omega) (fun q => by exfalso; omega) (fun c_20 => ?_)
        refine r_iload c141_23 rfl (r_iload c141_24 rfl ?_)
        refine r_icge c141_25 (by omega) (by omega) (by omega) (by omega) (fun c_25 => ?_) (fun c_25 => ?_)
        · have hsp : vSpn x y z := ⟨⟨p1, p2⟩, r1, c_25, t2⟩
          have eS : vS_count σ x y z = (σ.1, σ.2.1, (vask σ.2.2.1.1 x y z (vQ_count σ.1 x y z), σ.2.2.1.2.1 + vBi (vhit σ.2.2.1.1 x y z), σ.2.2.1.2.2 + vBi (!vhit σ.2.2.1.1 x y z)), σ.2.2.2) := if_pos hsp
          have eQ : vQ_count σ.1 x y z = ((vcn (vDd σ.1 x.toNat) y.toNat (z.toNat + 1 - y.toNat) : Nat) : Int) := if_pos hsp
          rw [eS, eQ] at k
          have hlen := hO.2.2.1
          have hb := hO.2.1
          have hn := vMD_n hD0
          obtain ⟨-, -, -, ⟨g0, hS0, hg0⟩, -⟩ := hD
          obtain ⟨nm, rfl⟩ := Int.eq_ofNat_of_zero_le p1
          obtain ⟨fr, rfl⟩ := Int.eq_ofNat_of_zero_le r1
          obtain ⟨to, rfl⟩ := Int.eq_ofNat_of_zero_le t1
          rw [Int.toNat_natCast, Int.toNat_natCast, Int.toNat_natCast] at k
          have hcl := vcn_le (vDd σ.1 nm) fr (to + 1 - fr)
          generalize hcw : vcn (vDd σ.1 nm) fr (to + 1 - fr) = cw at *
          generalize hl : σ.2.2.1.1 = l at *
          have fin : ∀ (h1 : vHp) (g : Nat → vSp), vSr h1 c g → (∀ j s, (l.filter (vnk (nm : Int) (fr : Int) (to : Int)))[j]? = some s → g j = s) → vFr (fun q => c + 11 ≤ q ∧ q < c + 15) h h1 → ∀ x6 : Value, vW (vCall (d + 2)) 141 Q 122 [.ref c, .int (iI (nm : Int)), .int (iI (fr : Int)), .int (iI (to : Int)), .int (iI (((l.filter (vnk (nm : Int) (fr : Int) (to : Int))).length : Nat) : Int)), .int (iI (l.length : Int)), x6] [] h1 0 0 := by
            intro h1 g hS hgg f1 x6
            have ho1 := (f1.2.2 c (by omega)).trans ho
            have hfl : (l.filter (vnk (nm : Int) (fr : Int) (to : Int))).length ≤ l.length := List.length_filter_le _ _
            have hhit : vhit l (nm : Int) (fr : Int) (to : Int) = decide ((l.filter (vnk (nm : Int) (fr : Int) (to : Int))).length < l.length) := rfl
            have eask : vask l (nm : Int) (fr : Int) (to : Int) (cw : Int) = if ((l.filter (vnk (nm : Int) (fr : Int) (to : Int))) ++ [((nm : Int), (fr : Int), (to : Int), (cw : Int))]).length = 7 then ((l.filter (vnk (nm : Int) (fr : Int) (to : Int))) ++ [((nm : Int), (fr : Int), (to : Int), (cw : Int))]).drop 1 else (l.filter (vnk (nm : Int) (fr : Int) (to : Int))) ++ [((nm : Int), (fr : Int), (to : Int), (cw : Int))] := rfl
            generalize hF : l.filter (vnk (nm : Int) (fr : Int) (to : Int)) = F at *
            generalize hht : vhit l (nm : Int) (fr : Int) (to : Int) = ht at *
            have from168 : ∀ h3 : vHp, hg h3 c = some (.inr (6, vMF c σ.2.1.1 σ.2.2.2.1.1 a w tp l.length (σ.2.2.1.2.1 + vBi ht) (σ.2.2.1.2.2 + vBi (!ht)))) → vFr (fun q => q = c) h1 h3 → vW (vCall (d + 2)) 141 Q 168 [.ref c, .int (iI (nm : Int)), .int (iI (fr : Int)), .int (iI (to : Int)), .int (iI ((F.length : Nat) : Int)), .int (iI (l.length : Int)), x6] [] h3 0 0 := by
              intro h3 ho3 f3
              have f13 : vFr (fun q => q = c ∨ (c + 11 ≤ q ∧ q < c + 15)) h h3 := vFr_tr (vFr_up f1 (fun q e => Or.inr e)) (vFr_up f3 (fun q e => Or.inl e))
              have hn3 : vMn h3 c σ.1 := by
                obtain ⟨fs, ar, ao, ax, -, q1, q2, q3, b1, b2, b3⟩ := hn
                obtain ⟨⟨aa, ww, tt, GG, hM⟩, -⟩ := hD0
                exact ⟨_, c + 2, c + 3, c + 4, ho3, rfl, rfl, rfl, vBr_fr hM.2.2.2.1.1 f13 (by omega), vBr_fr hM.2.2.2.1.2.1 f13 (by omega), vBr_fr hM.2.2.2.1.2.2 f13 (by omega)⟩
              have hS3 := vSr_fr hS f3 (fun q e1 e2 => by omega)
              refine r_aload c141_168 rfl (r_iload c141_169 rfl (r_iload c141_170 rfl (r_iload c141_171 rfl ?_)))
              refine r_iv3 c141_172 vr_139 ho3 rfl (k_counted hn3 (by omega) (by omega) (by omega) ?_)
              dsimp only [vpush]
              rw [hcw]
              refine r_istore c141_175 rfl (r_aload c141_177 rfl (r_iload c141_178 rfl (r_iload c141_180 rfl (r_iload c141_181 rfl (r_iload c141_182 rfl (r_iload c141_183 rfl ?_))))))
              try dsimp only [vst]
              refine r_iv5 c141_185 vr_140 ho3 rfl (m_puts ho3 hS3 (by rw [f13.1]; exact hlo) (by omega) (fun h4 hS4 f4 => ?_))
              dsimp only [vpush]
              have ho4 := (f4.2.2 c (by omega)).trans ho3
              have f14 : vFr (fun q => q = c ∨ (c + 11 ≤ q ∧ q < c + 15)) h h4 := vFr_tr f13 (vFr_up f4 (fun q e => Or.inr e))
              refine r_aload c141_188 rfl (r_iload c141_189 rfl (r_ci c141_191 (r_iadd c141_192 ?_)))
              refine r_put c141_193 ho4 (by rw [f14.1]; exact hlo) rfl ⟨rfl, rfl⟩ (fun h5 s5 => ?_)
              have f5 := vFr_st s5
              have f15 : vFr (fun q => q = c ∨ (c + 11 ≤ q ∧ q < c + 15)) h h5 := vFr_tr f14 (vFr_up f5 (fun q e => Or.inl e))
              rw [vsu] at s5
              have ho5 : hg h5 c = some (.inr (6, vMF c σ.2.1.1 σ.2.2.2.1.1 a w tp (F.length + 1) (σ.2.2.1.2.1 + vBi ht) (σ.2.2.1.2.2 + vBi (!ht)))) := s5.2.2.1
              have hS5 := vSr_fr hS4 f5 (fun q e1 e2 => by omega)
              have rows : ∀ j s, (F ++ [((nm : Int), (fr : Int), (to : Int), (cw : Int))])[j]? = some s → vup g F.length ((nm : Int), (fr : Int), (to : Int), (cw : Int)) j = s := by
                intro j s hs
                rw [List.getElem?_append] at hs
                unfold vup
                by_cases q : j < F.length
                · rw [if_pos q] at hs
                  rw [if_neg (by omega)]
                  exact hgg j s hs
                · rw [if_neg q] at hs
                  by_cases q2 : j = F.length
                  · rw [if_pos q2]
                    rw [q2, Nat.sub_self] at hs
                    simpa using hs
                  · rw [List.getElem?_eq_none (by simp; omega)] at hs
                    cases hs
              have lenA : (F ++ [((nm : Int), (fr : Int), (to : Int), (cw : Int))]).length = F.length + 1 := by rw [List.length_append]; rfl
              generalize hA : F ++ [((nm : Int), (fr : Int), (to : Int), (cw : Int))] = A at *
              generalize vup g F.length ((nm : Int), (fr : Int), (to : Int), (cw : Int)) = gA at *
              refine r_aload c141_196 rfl (r_get c141_197 ho5 rfl (r_ci c141_200 ?_))
              refine r_icne c141_202 (by omega) (by omega) (by omega) (by omega) (fun c_202 => ?_) (fun c_202 => ?_)
              · rw [if_neg (by omega)] at eask
                rw [eask] at k
                refine r_iload c141_269 rfl ?_
                refine r_iret (st := []) c141_271 ?_
                refine k h5 (vMD_m hD0 (a := a) (w := w) (tp := tp) (by rw [lenA]; exact ho5) ⟨gA, hS5, rows⟩ f15) (vFr_up f15 (fun q e => by unfold vZd; omega))
              · rw [if_pos (by omega)] at eask
                rw [eask] at k
                have shift : ∀ u i : Nat, i + u = 6 → ∀ (h6 : vHp) (g6 : Nat → vSp), vSr h6 c g6 → (∀ j, j < i → g6 j = gA (j + 1)) → (∀ j, i ≤ j → j < 7 → g6 j = gA j) → vFr (fun q => c + 11 ≤ q ∧ q < c + 15) h5 h6 → vW (vCall (d + 2)) 141 Q 208 [.ref c, .int (iI (nm : Int)), .int (iI (fr : Int)), .int (iI (to : Int)), .int (iI ((F.length : Nat) : Int)), .int (iI (cw : Int)), .int (iI (i : Int))] [] h6 0 0 := by
                  intro u
                  induction u with
                  | zero =>
                    intro i hi h6 g6 hS6 a1 a2 f6
                    obtain rfl : i = 6 := by omega
                    have ho6 := (f6.2.2 c (by omega)).trans ho5
                    have f16 := vFr_tr f15 (vFr_up f6 (Y := fun q => q = c ∨ (c + 11 ≤ q ∧ q < c + 15)) (fun q e => Or.inr e))
                    refine r_iload c141_208 rfl (r_ci c141_210 ?_)
                    refine r_icge c141_212 (by omega) (by omega) (by omega) (by omega) (fun c_212 => ?_) (fun q => by exfalso; omega)
                    refine r_aload c141_263 rfl (r_ci c141_264 ?_)
                    refine r_put c141_266 ho6 (by rw [f16.1]; exact hlo) rfl ⟨rfl, rfl⟩ (fun h7 s7 => ?_)
                    have f7 := vFr_st s7
                    have f17 := vFr_tr f16 (vFr_up f7 (Y := fun q => q = c ∨ (c + 11 ≤ q ∧ q < c + 15)) (fun q e => Or.inl e))
                    refine r_iload c141_269 rfl ?_
                    refine r_iret (st := []) c141_271 ?_
                    have ld : (A.drop 1).length = 6 := by rw [List.length_drop]; omega
                    refine k h7 (vMD_m hD0 (a := a) (w := w) (tp := tp) (by rw [ld]; exact s7.2.2.1) ⟨g6, vSr_fr hS6 f7 (fun q e1 e2 => by omega), fun j s hs => ?_⟩ f17) (vFr_up f17 (fun q e => by unfold vZd; omega))
                    have hj : j < (A.drop 1).length := (List.getElem?_eq_some_iff.1 hs).1
                    rw [List.getElem?_drop] at hs
                    rw [a1 j (by omega)]
                    exact rows (j + 1) s (by rw [Nat.add_comm]; exact hs)
                  | succ u ih =>
                    intro i hi h6 g6 hS6 a1 a2 f6
                    have ho6 := (f6.2.2 c (by omega)).trans ho5
                    have gi := a2 (i + 1) (by omega) (by omega)
                    refine r_iload c141_208 rfl (r_ci c141_210 ?_)
                    refine r_icge c141_212 (by omega) (by omega) (by omega) (by omega) (fun q => by exfalso; omega) (fun c_212 => ?_)
                    refine r_aload c141_215 rfl (r_iload c141_216 rfl (r_aload c141_218 rfl (r_get c141_219 ho6 rfl (r_iload c141_222 rfl (r_ci c141_224 (r_iadd c141_225 (r_iald c141_226 hS6.1 (by omega) (by omega) (r_aload c141_227 rfl (r_get c141_228 ho6 rfl (r_iload c141_231 rfl (r_ci c141_233 (r_iadd c141_234 (r_iald c141_235 hS6.2.1 (by omega) (by omega) (r_aload c141_236 rfl (r_get c141_237 ho6 rfl (r_iload c141_240 rfl (r_ci c141_242 (r_iadd c141_243 (r_iald c141_244 hS6.2.2.1 (by omega) (by omega) (r_aload c141_245 rfl (r_get c141_246 ho6 rfl (r_iload c141_249 rfl (r_ci c141_251 (r_iadd c141_252 ?_))))))))))))))))))))))))
                    refine r_iald c141_253 hS6.2.2.2 (by omega) (by omega) ?_
                    rw [vsu i, Int.toNat_natCast, gi]
                    refine r_iv5 c141_254 vr_140 ho6 rfl (m_puts ho6 hS6 (by rw [f6.1, f15.1]; exact hlo) (by omega) (fun h7 hS7 f7 => ?_))
                    dsimp only [vpush]
                    refine r_iinc c141_257 rfl rfl (r_goto c141_260 ?_)
                    try dsimp only [vst]
                    rw [vsu]
                    refine ih (i + 1) (by omega) h7 _ hS7 (fun j hj => ?_) (fun j hj hj7 => ?_) (vFr_tr f6 f7)
                    · unfold vup
                      by_cases e : j = i
                      · rw [if_pos e, e]
                      · rw [if_neg e]; exact a1 j (by omega)
                    · unfold vup
                      rw [if_neg (by omega)]; exact a2 j (by omega) hj7
                refine r_ci c141_205 (r_istore c141_206 rfl ?_)
                try dsimp only [vst]
                exact shift 6 0 rfl h5 gA hS5 (fun j hj => absurd hj (by omega)) (fun j _ _ => rfl) vFr_rf
            have from145 : ∀ h3 : vHp, hg h3 c = some (.inr (6, vMF c σ.2.1.1 σ.2.2.2.1.1 a w tp l.length (σ.2.2.1.2.1 + vBi ht) σ.2.2.1.2.2)) → vFr (fun q => q = c) h1 h3 → vW (vCall (d + 2)) 141 Q 145 [.ref c, .int (iI (nm : Int)), .int (iI (fr : Int)), .int (iI (to : Int)), .int (iI ((F.length : Nat) : Int)), .int (iI (l.length : Int)), x6] [] h3 0 0 := by
              intro h3 ho3 f3
              have put : ∀ b : Bool, b = !ht → vW (vCall (d + 2)) 141 Q 164 [.ref c, .int (iI (nm : Int)), .int (iI (fr : Int)), .int (iI (to : Int)), .int (iI ((F.length : Nat) : Int)), .int (iI (l.length : Int)), x6] [.int (iI (vBi b)), .int (iI σ.2.2.1.2.2), .ref c] h3 0 0 := by
                intro b hb
                refine r_iadd c141_164 ?_
                refine r_put c141_165 ho3 (by rw [f3.1, f1.1]; exact hlo) rfl ⟨rfl, rfl⟩ (fun h4 s4 => ?_)
                rw [hb] at s4
                exact from168 h4 s4.2.2.1 (vFr_tr f3 (vFr_st s4))
              refine r_aload c141_145 rfl (r_dup c141_146 rfl (r_get c141_147 ho3 rfl (r_iload c141_150 rfl (r_aload c141_152 rfl (r_get c141_153 ho3 rfl ?_)))))
              refine r_icge c141_156 (by omega) (by omega) (by omega) (by omega) (fun c_156 => ?_) (fun c_156 => ?_)
              · rw [decide_eq_false (by omega)] at hhit
                refine r_ci c141_163 ?_
                exact put true (by rw [hhit]; rfl)
              · rw [decide_eq_true (by omega)] at hhit
                refine r_ci c141_159 (r_goto c141_160 ?_)
                exact put false (by rw [hhit]; rfl)
            have put : ∀ b : Bool, b = ht → vW (vCall (d + 2)) 141 Q 141 [.ref c, .int (iI (nm : Int)), .int (iI (fr : Int)), .int (iI (to : Int)), .int (iI ((F.length : Nat) : Int)), .int (iI (l.length : Int)), x6] [.int (iI (vBi b)), .int (iI σ.2.2.1.2.1), .ref c] h1 0 0 := by
              intro b hb
              refine r_iadd c141_141 ?_
              refine r_put c141_142 ho1 (by rw [f1.1]; exact hlo) rfl ⟨rfl, rfl⟩ (fun h4 s4 => ?_)
              rw [hb] at s4
              exact from145 h4 s4.2.2.1 (vFr_st s4)
            refine r_aload c141_122 rfl (r_dup c141_123 rfl (r_get c141_124 ho1 rfl (r_iload c141_127 rfl (r_aload c141_129 rfl (r_get c141_130 ho1 rfl ?_)))))
            refine r_icge c141_133 (by omega) (by omega) (by omega) (by omega) (fun c_133 => ?_) (fun c_133 => ?_)
            · rw [decide_eq_false (by omega)] at hhit
              refine r_ci c141_140 ?_
              exact put false (by rw [hhit])
            · rw [decide_eq_true (by omega)] at hhit
              refine r_ci c141_136 (r_goto c141_137 ?_)
              exact put true (by rw [hhit])
          have loop : ∀ u i : Nat, i + u = l.length → ∀ (h1 : vHp) (g : Nat → vSp), vSr h1 c g → vcR l (vnk (nm : Int) (fr : Int) (to : Int)) g i → vFr (fun q => c + 11 ≤ q ∧ q < c + 15) h h1 → ∀ x6 : Value, vW (vCall (d + 2)) 141 Q 37 [.ref c, .int (iI (nm : Int)), .int (iI (fr : Int)), .int (iI (to : Int)), .int (iI ((((l.take i).filter (vnk (nm : Int) (fr : Int) (to : Int))).length : Nat) : Int)), .int (iI (i : Int)), x6] [] h1 0 0 := by
            intro u
            induction u with
            | zero =>
              intro i hi h1 g hS hR f1 x6
              have ho1 := (f1.2.2 c (by omega)).trans ho
              have et : l.take i = l := List.take_of_length_le (by omega)
              rw [et]
              refine r_iload c141_37 rfl (r_aload c141_39 rfl (r_get c141_40 ho1 rfl ?_))
              refine r_icge c141_43 (by omega) (by omega) (by omega) (by omega) (fun c_43 => ?_) (fun q => by exfalso; omega)
              rw [show (i : Int) = (l.length : Int) by omega]
              exact fin h1 g hS (fun j s hs => hR.1 j s (by rw [et]; exact hs)) f1 x6
            | succ u ih =>
              intro i hi h1 g hS hR f1 x6
              have ho1 := (f1.2.2 c (by omega)).trans ho
              have hil : i < l.length := by omega
              obtain ⟨s, hs⟩ : ∃ s, l[i]? = some s := ⟨l[i], List.getElem?_eq_getElem hil⟩
              have gi := hR.2 i s (Nat.le_refl _) hs
              have bs := hb s (List.mem_of_getElem? hs)
              have fl := vcR_len l (vnk (nm : Int) (fr : Int) (to : Int)) i
              have stay : ¬ (s.1 = (nm : Int) ∧ s.2.1 = (fr : Int) ∧ s.2.2.1 = (to : Int)) → vW (vCall (d + 2)) 141 Q 79 [.ref c, .int (iI (nm : Int)), .int (iI (fr : Int)), .int (iI (to : Int)), .int (iI ((((l.take i).filter (vnk (nm : Int) (fr : Int) (to : Int))).length : Nat) : Int)), .int (iI (i : Int)), x6] [] h1 0 0 := by
                intro q
                have st := vcR_keep hR hs (show vnk (nm : Int) (fr : Int) (to : Int) s = true by unfold vnk vky; rw [decide_eq_false q]; rfl)
                refine r_aload c141_79 rfl (r_iload c141_80 rfl (r_aload c141_82 rfl (r_get c141_83 ho1 rfl (r_iload c141_86 rfl (r_iald c141_88 hS.1 (by omega) (by omega) (r_aload c141_89 rfl (r_get c141_90 ho1 rfl (r_iload c141_93 rfl (r_iald c141_95 hS.2.1 (by omega) (by omega) (r_aload c141_96 rfl (r_get c141_97 ho1 rfl (r_iload c141_100 rfl (r_iald c141_102 hS.2.2.1 (by omega) (by omega) (r_aload c141_103 rfl (r_get c141_104 ho1 rfl (r_iload c141_107 rfl (r_iald c141_109 hS.2.2.2 (by omega) (by omega) ?_)))))))))))))))))
                rw [Int.toNat_natCast, gi]
                refine r_iv5 c141_110 vr_140 ho1 rfl (m_puts ho1 hS (by rw [f1.1]; exact hlo) (by omega) (fun h2 hS2 f2 => ?_))
                dsimp only [vpush]
                refine r_iinc c141_113 rfl rfl (r_iinc c141_116 rfl rfl (r_goto c141_119 ?_))
                try dsimp only [vst]
                rw [vsu, vsu, ← st.2]
                exact ih (i + 1) (by omega) h2 _ hS2 st.1 (vFr_tr f1 f2) _
              refine r_iload c141_37 rfl (r_aload c141_39 rfl (r_get c141_40 ho1 rfl ?_))
              refine r_icge c141_43 (by omega) (by omega) (by omega) (by omega) (fun q => by exfalso; omega) (fun c_43 => ?_)
              refine r_aload c141_46 rfl (r_get c141_47 ho1 rfl (r_iload c141_50 rfl (r_iald c141_52 hS.1 (by omega) (by omega) ?_)))
              rw [Int.toNat_natCast, gi]
              refine r_iload c141_53 rfl ?_
              refine r_icne c141_54 (by omega) (by omega) (by omega) (by omega) (fun c_54 => ?_) (fun c_54 => ?_)
              · exact stay (fun q => c_54 q.1)
              · refine r_aload c141_57 rfl (r_get c141_58 ho1 rfl (r_iload c141_61 rfl (r_iald c141_63 hS.2.1 (by omega) (by omega) ?_)))
                rw [Int.toNat_natCast, gi]
                refine r_iload c141_64 rfl ?_
                refine r_icne c141_65 (by omega) (by omega) (by omega) (by omega) (fun c_65 => ?_) (fun c_65 => ?_)
                · exact stay (fun q => c_65 q.2.1)
                · refine r_aload c141_68 rfl (r_get c141_69 ho1 rfl (r_iload c141_72 rfl (r_iald c141_74 hS.2.2.1 (by omega) (by omega) ?_)))
                  rw [Int.toNat_natCast, gi]
                  refine r_iload c141_75 rfl ?_
                  refine r_iceq c141_76 (by omega) (by omega) (by omega) (by omega) (fun c_76 => ?_) (fun c_76 => ?_)
                  · have st := vcR_drop hR hs (show ¬ vnk (nm : Int) (fr : Int) (to : Int) s = true by unfold vnk vky; rw [decide_eq_true ⟨c_54, c_65, c_76⟩]; decide)
                    refine r_iinc c141_116 rfl rfl (r_goto c141_119 ?_)
                    try dsimp only [vst]
                    rw [vsu, ← st.2]
                    exact ih (i + 1) (by omega) h1 g hS st.1 f1 _
                  · exact stay (fun q => c_76 q.2.2)
          refine r_ci c141_31 (r_istore c141_32 rfl (r_ci c141_34 (r_istore c141_35 rfl ?_)))
          try dsimp only [vst]
          exact loop l.length 0 (by omega) h g0 hS0 ⟨fun j s hs => by simp at hs, fun j s _ hs => hg0 j s hs⟩ vFr_rf _
        · exact no (by omega) ⟨p1, p2⟩ _ _ _
      · dsimp only [vpush]
        refine r_ifeq c141_20 (by omega) (by omega) (fun c_20 => ?_) (fun q => by exfalso; omega)
        exact no (by omega) ⟨p1, p2⟩ _ _ _
    · dsimp only [vpush]
      refine r_ifeq c141_13 (by omega) (by omega) (fun c_13 => ?_) (fun q => by exfalso; omega)
      exact no (by omega) ⟨p1, p2⟩ _ _ _
  · have hs : ¬ vSpn x y z := fun g => q g.1
    have eS : vS_count σ x y z = σ := if_neg hs
    have eQ : vQ_count σ.1 x y z = -1 := (if_neg hs).trans (if_neg q)
    rw [eS, eQ] at k
    dsimp only [vpush]
    refine r_ifne c141_4 (by omega) (by omega) (fun q => by exfalso; omega) (fun c_4 => ?_)
    refine r_ci c141_7 ?_
    refine r_iret (st := []) c141_8 ?_
    exact k h hD0 vFr_rf

