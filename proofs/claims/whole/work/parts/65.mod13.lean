theorem ml_122 : vml 122 = 11 := by decide +kernel
theorem vr_117 : vrc 117 = some (6, 1) := by decide +kernel
theorem vr_121 : vrc 121 = some (6, 2) := by decide +kernel
theorem vr_123 : vrc 123 = some (6, 2) := by decide +kernel
theorem c122_0 : vlk 122 0 = some (6, 0, 0, 0, 1) := by decide +kernel
theorem c122_1 : vlk 122 1 = some (34, 0, 0, 0, 2) := by decide +kernel
theorem c122_2 : vlk 122 2 = some (42, 6, 11, 0, 5) := by decide +kernel
theorem c122_5 : vlk 122 5 = some (1, 0, 0, 1, 6) := by decide +kernel
theorem c122_6 : vlk 122 6 = some (11, 0, 0, 0, 7) := by decide +kernel
theorem c122_7 : vlk 122 7 = some (43, 6, 11, 0, 10) := by decide +kernel
theorem c122_10 : vlk 122 10 = some (6, 0, 0, 0, 11) := by decide +kernel
theorem c122_11 : vlk 122 11 = some (1, 0, 0, 1, 12) := by decide +kernel
theorem c122_12 : vlk 122 12 = some (1, 0, 0, 99, 14) := by decide +kernel
theorem c122_14 : vlk 122 14 = some (58, 113, 0, 0, 17) := by decide +kernel
theorem c122_17 : vlk 122 17 = some (7, 3, 0, 0, 18) := by decide +kernel
theorem c122_18 : vlk 122 18 = some (6, 0, 0, 0, 19) := by decide +kernel
theorem c122_19 : vlk 122 19 = some (1, 0, 0, 119, 21) := by decide +kernel
theorem c122_21 : vlk 122 21 = some (58, 111, 0, 0, 24) := by decide +kernel
theorem c122_24 : vlk 122 24 = some (70, 31, 0, 0, 27) := by decide +kernel
theorem c122_27 : vlk 122 27 = some (1, 0, 0, 0, 28) := by decide +kernel
theorem c122_28 : vlk 122 28 = some (37, 58, 0, 0, 31) := by decide +kernel
theorem c122_31 : vlk 122 31 = some (6, 0, 0, 0, 32) := by decide +kernel
theorem c122_32 : vlk 122 32 = some (1, 0, 0, 109, 34) := by decide +kernel
theorem c122_34 : vlk 122 34 = some (58, 111, 0, 0, 37) := by decide +kernel
theorem c122_37 : vlk 122 37 = some (70, 44, 0, 0, 40) := by decide +kernel
theorem c122_40 : vlk 122 40 = some (1, 0, 0, 1, 41) := by decide +kernel
theorem c122_41 : vlk 122 41 = some (37, 58, 0, 0, 44) := by decide +kernel
theorem c122_44 : vlk 122 44 = some (6, 0, 0, 0, 45) := by decide +kernel
theorem c122_45 : vlk 122 45 = some (1, 0, 0, 121, 47) := by decide +kernel
theorem c122_47 : vlk 122 47 = some (58, 111, 0, 0, 50) := by decide +kernel
theorem c122_50 : vlk 122 50 = some (70, 57, 0, 0, 53) := by decide +kernel
theorem c122_53 : vlk 122 53 = some (1, 0, 0, 2, 54) := by decide +kernel
theorem c122_54 : vlk 122 54 = some (37, 58, 0, 0, 57) := by decide +kernel
theorem c122_57 : vlk 122 57 = some (1, 0, 0, (-1), 58) := by decide +kernel
theorem c122_58 : vlk 122 58 = some (7, 4, 0, 0, 60) := by decide +kernel
theorem c122_60 : vlk 122 60 = some (4, 4, 0, 0, 62) := by decide +kernel
theorem c122_62 : vlk 122 62 = some (73, 70, 0, 0, 65) := by decide +kernel
theorem c122_65 : vlk 122 65 = some (6, 0, 0, 0, 66) := by decide +kernel
theorem c122_66 : vlk 122 66 = some (1, 0, 0, 0, 67) := by decide +kernel
theorem c122_67 : vlk 122 67 = some (43, 6, 12, 0, 70) := by decide +kernel
theorem c122_70 : vlk 122 70 = some (6, 0, 0, 0, 71) := by decide +kernel
theorem c122_71 : vlk 122 71 = some (34, 0, 0, 0, 72) := by decide +kernel
theorem c122_72 : vlk 122 72 = some (42, 6, 11, 0, 75) := by decide +kernel
theorem c122_75 : vlk 122 75 = some (6, 0, 0, 0, 76) := by decide +kernel
theorem c122_76 : vlk 122 76 = some (42, 6, 12, 0, 79) := by decide +kernel
theorem c122_82 : vlk 122 82 = some (1, 0, 0, 1, 83) := by decide +kernel
theorem c122_83 : vlk 122 83 = some (37, 87, 0, 0, 86) := by decide +kernel
theorem c122_86 : vlk 122 86 = some (1, 0, 0, 0, 87) := by decide +kernel
theorem c122_87 : vlk 122 87 = some (11, 0, 0, 0, 88) := by decide +kernel
theorem c122_88 : vlk 122 88 = some (43, 6, 11, 0, 91) := by decide +kernel
theorem c122_91 : vlk 122 91 = some (6, 0, 0, 0, 92) := by decide +kernel
theorem c122_92 : vlk 122 92 = some (4, 2, 0, 0, 93) := by decide +kernel
theorem c122_93 : vlk 122 93 = some (58, 117, 0, 0, 96) := by decide +kernel
theorem c122_96 : vlk 122 96 = some (7, 5, 0, 0, 98) := by decide +kernel
theorem c122_98 : vlk 122 98 = some (6, 0, 0, 0, 99) := by decide +kernel
theorem c122_99 : vlk 122 99 = some (58, 114, 0, 0, 102) := by decide +kernel
theorem c122_102 : vlk 122 102 = some (7, 6, 0, 0, 104) := by decide +kernel
theorem c122_104 : vlk 122 104 = some (1, 0, 0, 0, 105) := by decide +kernel
theorem c122_105 : vlk 122 105 = some (7, 7, 0, 0, 107) := by decide +kernel
theorem c122_107 : vlk 122 107 = some (4, 7, 0, 0, 109) := by decide +kernel
theorem c122_109 : vlk 122 109 = some (1, 0, 0, 720, 112) := by decide +kernel
theorem c122_112 : vlk 122 112 = some (79, 255, 0, 0, 115) := by decide +kernel
theorem c122_115 : vlk 122 115 = some (6, 0, 0, 0, 116) := by decide +kernel
theorem c122_116 : vlk 122 116 = some (42, 6, 12, 0, 119) := by decide +kernel
theorem c122_122 : vlk 122 122 = some (1, 0, 0, 0, 123) := by decide +kernel
theorem c122_123 : vlk 122 123 = some (7, 8, 0, 0, 125) := by decide +kernel
theorem c122_125 : vlk 122 125 = some (1, 0, 0, 0, 126) := by decide +kernel
theorem c122_126 : vlk 122 126 = some (7, 9, 0, 0, 128) := by decide +kernel
theorem c122_128 : vlk 122 128 = some (4, 9, 0, 0, 130) := by decide +kernel
theorem c122_130 : vlk 122 130 = some (1, 0, 0, 720, 133) := by decide +kernel
theorem c122_133 : vlk 122 133 = some (79, 215, 0, 0, 136) := by decide +kernel
theorem c122_136 : vlk 122 136 = some (6, 0, 0, 0, 137) := by decide +kernel
theorem c122_137 : vlk 122 137 = some (42, 6, 13, 0, 140) := by decide +kernel
theorem c122_140 : vlk 122 140 = some (4, 5, 0, 0, 142) := by decide +kernel
theorem c122_142 : vlk 122 142 = some (4, 9, 0, 0, 144) := by decide +kernel
theorem c122_144 : vlk 122 144 = some (11, 0, 0, 0, 145) := by decide +kernel
theorem c122_145 : vlk 122 145 = some (47, 0, 0, 0, 146) := by decide +kernel
theorem c122_149 : vlk 122 149 = some (4, 4, 0, 0, 151) := by decide +kernel
theorem c122_151 : vlk 122 151 = some (4, 9, 0, 0, 153) := by decide +kernel
theorem c122_153 : vlk 122 153 = some (59, 121, 0, 0, 156) := by decide +kernel
theorem c122_156 : vlk 122 156 = some (4, 4, 0, 0, 158) := by decide +kernel
theorem c122_158 : vlk 122 158 = some (4, 7, 0, 0, 160) := by decide +kernel
theorem c122_160 : vlk 122 160 = some (59, 121, 0, 0, 163) := by decide +kernel
theorem c122_163 : vlk 122 163 = some (77, 170, 0, 0, 166) := by decide +kernel
theorem c122_166 : vlk 122 166 = some (1, 0, 0, 1, 167) := by decide +kernel
theorem c122_167 : vlk 122 167 = some (37, 171, 0, 0, 170) := by decide +kernel
theorem c122_170 : vlk 122 170 = some (1, 0, 0, 0, 171) := by decide +kernel
theorem c122_171 : vlk 122 171 = some (7, 10, 0, 0, 173) := by decide +kernel
theorem c122_173 : vlk 122 173 = some (4, 8, 0, 0, 175) := by decide +kernel
theorem c122_175 : vlk 122 175 = some (4, 10, 0, 0, 177) := by decide +kernel
theorem c122_180 : vlk 122 180 = some (4, 1, 0, 0, 181) := by decide +kernel
theorem c122_184 : vlk 122 184 = some (4, 9, 0, 0, 186) := by decide +kernel
theorem c122_186 : vlk 122 186 = some (4, 7, 0, 0, 188) := by decide +kernel
theorem c122_188 : vlk 122 188 = some (78, 205, 0, 0, 191) := by decide +kernel
theorem c122_191 : vlk 122 191 = some (37, 201, 0, 0, 194) := by decide +kernel
theorem c122_194 : vlk 122 194 = some (4, 9, 0, 0, 196) := by decide +kernel
theorem c122_196 : vlk 122 196 = some (4, 7, 0, 0, 198) := by decide +kernel
theorem c122_198 : vlk 122 198 = some (80, 205, 0, 0, 201) := by decide +kernel
theorem c122_201 : vlk 122 201 = some (1, 0, 0, 1, 202) := by decide +kernel
theorem c122_202 : vlk 122 202 = some (37, 206, 0, 0, 205) := by decide +kernel
theorem c122_205 : vlk 122 205 = some (1, 0, 0, 0, 206) := by decide +kernel
theorem c122_206 : vlk 122 206 = some (11, 0, 0, 0, 207) := by decide +kernel
theorem c122_207 : vlk 122 207 = some (7, 8, 0, 0, 209) := by decide +kernel
theorem c122_209 : vlk 122 209 = some (10, 9, 0, 1, 212) := by decide +kernel
theorem c122_212 : vlk 122 212 = some (37, 128, 0, 0, 215) := by decide +kernel
theorem c122_215 : vlk 122 215 = some (6, 0, 0, 0, 216) := by decide +kernel
theorem c122_216 : vlk 122 216 = some (42, 6, 13, 0, 219) := by decide +kernel
theorem c122_219 : vlk 122 219 = some (4, 6, 0, 0, 221) := by decide +kernel
theorem c122_221 : vlk 122 221 = some (4, 7, 0, 0, 223) := by decide +kernel
theorem c122_223 : vlk 122 223 = some (11, 0, 0, 0, 224) := by decide +kernel
theorem c122_224 : vlk 122 224 = some (6, 0, 0, 0, 225) := by decide +kernel
theorem c122_225 : vlk 122 225 = some (42, 6, 13, 0, 228) := by decide +kernel
theorem c122_228 : vlk 122 228 = some (4, 5, 0, 0, 230) := by decide +kernel
theorem c122_230 : vlk 122 230 = some (4, 7, 0, 0, 232) := by decide +kernel
theorem c122_232 : vlk 122 232 = some (11, 0, 0, 0, 233) := by decide +kernel
theorem c122_233 : vlk 122 233 = some (47, 0, 0, 0, 234) := by decide +kernel
theorem c122_237 : vlk 122 237 = some (4, 8, 0, 0, 239) := by decide +kernel
theorem c122_239 : vlk 122 239 = some (4, 3, 0, 0, 240) := by decide +kernel
theorem c122_240 : vlk 122 240 = some (77, 247, 0, 0, 243) := by decide +kernel
theorem c122_243 : vlk 122 243 = some (1, 0, 0, 1, 244) := by decide +kernel
theorem c122_244 : vlk 122 244 = some (37, 248, 0, 0, 247) := by decide +kernel
theorem c122_247 : vlk 122 247 = some (1, 0, 0, 0, 248) := by decide +kernel
theorem c122_248 : vlk 122 248 = some (51, 0, 0, 0, 249) := by decide +kernel
theorem c122_249 : vlk 122 249 = some (10, 7, 0, 1, 252) := by decide +kernel
theorem c122_252 : vlk 122 252 = some (37, 107, 0, 0, 255) := by decide +kernel
theorem c122_255 : vlk 122 255 = some (6, 0, 0, 0, 256) := by decide +kernel
theorem c122_256 : vlk 122 256 = some (4, 6, 0, 0, 258) := by decide +kernel
theorem c122_258 : vlk 122 258 = some (4, 5, 0, 0, 260) := by decide +kernel
theorem c122_260 : vlk 122 260 = some (58, 123, 0, 0, 263) := by decide +kernel
theorem c122_263 : vlk 122 263 = some (63, 0, 0, 0, 264) := by decide +kernel
/-! the reference's reading: of each block -/
theorem k_mblk {d c dep mx : Nat} {ch : Int} {la : Bool} {X : vMX} {f : Nat → vPr} (hB : vKm (d + 4) 117 [.int (iI (dep : Int))] c X mx (vbr X.2.1 X.2.2.1 f)) (hmx : 2 ≤ mx) (hla : la = decide (ch = 108)) (hc : ch = 110 ∨ ch = 108) : vKw (d + 5) 122 [.int (iI (vBi la)), .int (iI (dep : Int))] c X mx (vpb X.2.1 X.2.2.1 f ch) := by
  intro h a tp G Q hM ha ht k
  have ho := hM.1
  refine vin 11 [_, _, _, _, _, _, _, _, _, _, _] ml_122 rfl rfl ?_
  refine r_aload c122_0 rfl (r_dup c122_1 rfl (r_get c122_2 ho rfl (r_ci c122_5 (r_iadd c122_6 ?_))))
  refine r_put c122_7 ho hM.2.2.2.2.1 rfl ⟨rfl, rfl⟩ (fun h1 s1 => ?_)
  rw [vsu] at s1
  have hM1 := vRp_obj (a2 := a + 1) (w2 := true) (tp2 := tp) hM s1
  have f1 := vZp_o s1
  have rg := vnm_rg (n := X.2.1) (t := X.2.2.1) (lo := 1) (hi := 99) (p := a + 1) ha
  have er : vpb X.2.1 X.2.2.1 f ch (a + 1) = _ := rfl
  conv at er => rhs; unfold vpb
  refine r_aload c122_10 rfl (r_ci c122_11 (r_ci c122_12 ?_))
  refine r_iv2 c122_14 vr_113 hM1.1 rfl (k_mnum hM1 ha (by omega) (by omega) (by omega) (by omega) (fun h2 v w2 hM2 e2 e3 v1 v2 f2 => ?_))
  dsimp only [vpush]
  rw [if_pos rfl] at hM2
  rw [Bool.true_and] at e2
  generalize hz : vnm X.2.1 X.2.2.1 1 99 (a + 1) = z at *
  generalize hr : vpb X.2.1 X.2.2.1 f ch (a + 1) = r at *
  have fin : ∀ (a2 : Nat) (w3 : Bool) (G4 : Nat → Bool) (h4 : vHp) (bl : Int) (x7 x8 x9 x10 : Value), a2 ≤ X.2.1 → vRp h4 c X a2 w3 (tp + 1 + 1) G4 → vpre G G4 (720 * tp) → vFr (vZp c) h h4 → (w3 = false → r = (a2, none)) → (w3 = true → ∃ R, r = (a2, some R) ∧ ∀ e, e < 720 → G4 (720 * (tp + 1) + e) = R e) → vW (vCall (d + 4)) 122 Q 255 [.ref c, .int (iI (vBi la)), .int (iI (dep : Int)), .int (iI v), .int (iI bl), .int (iI ((720 * tp : Nat) : Int)), .int (iI ((720 * (tp + 1) : Nat) : Int)), x7, x8, x9, x10] [] h4 0 0 := by
    intro a2 w3 G4 h4 bl x7 x8 x9 x10 ha2 hM4 p4 f4 c1 c2
    refine r_aload c122_255 rfl (r_iload c122_256 rfl (r_iload c122_258 rfl ?_))
    refine r_iv2 c122_260 vr_123 hM4.1 rfl (k_over hM4 (t0 := tp) (t1 := tp + 1) (by omega) (by omega) (fun h5 G5 hM5 hf f5 => ?_))
    dsimp only [vpush]
    refine r_iret (st := []) c122_263 ?_
    refine k h5 a2 w3 G5 hM5 ha2 (vpre_tr p4 (vfil_pre hf) (Nat.le_refl _)) ?_ (vFr_tr f4 f5)
    cases w3
    · exact vrs_no (fun q => by cases q) (fun _ => c1 rfl)
    · obtain ⟨R, r1, r2⟩ := c2 rfl
      rw [r1]
      exact ⟨fun q => (by cases q), fun _ => ⟨rfl, fun q => (by cases q), fun _ => ⟨R, rfl, fun e he => by rw [hf.1 e he]; exact r2 e he⟩⟩⟩
  have bra : ∀ (bl : Int) (a1 : Nat) (w1 : Bool) (h3 : vHp) (x5 x6 x7 x8 x9 x10 : Value), a1 ≤ X.2.1 → vRp h3 c X a1 w1 tp G → vFr (vZp c) h h3 → (w1 = true → 0 ≤ bl ∧ bl ≤ 2 ∧ 1 ≤ v ∧ v ≤ 99 ∧ r = vth (vbr X.2.1 X.2.2.1 f a1) (fun q T => (q, some (vbs ch (vbL bl) v T)))) → (w1 = false → r = (a1, none)) → vW (vCall (d + 4)) 122 Q 91 [.ref c, .int (iI (vBi la)), .int (iI (dep : Int)), .int (iI v), .int (iI bl), x5, x6, x7, x8, x9, x10] [] h3 0 0 := by
    intro bl a1 w1 h3 x5 x6 x7 x8 x9 x10 ha1 hM3 f3 c1 c2
    refine r_aload c122_91 rfl (r_iload c122_92 rfl ?_)
    refine r_iv1 c122_93 vr_117 hM3.1 rfl (hB h3 _ _ _ _ _ hM3 ha1 ht (fun h4 a2 w3 G4 hM4 ha2 p4 r4 f4 => ?_))
    dsimp only [vpush]
    refine r_istore c122_96 rfl (r_aload c122_98 rfl ?_)
    try dsimp only [vst]
    refine r_iv0 c122_99 vr_114 hM4.1 rfl (k_fresh hM4 (by omega) (fun h5 G5 hM5 p5 f5 => ?_))
    dsimp only [vpush]
    have p45 : vpre G G5 (720 * tp) := vpre_tr p4 p5 (by omega)
    have f35 := vFr_tr f3 (vFr_tr f4 f5)
    refine r_istore c122_102 rfl (r_ci c122_104 (r_istore c122_105 rfl ?_))
    try dsimp only [vst]
    cases w3
    · have g := fin a2 false G5 h5 bl (.int (iI ((0 : Nat) : Int))) x8 x9 x10 ha2 hM5 p45 f35 (fun _ => by
        cases w1
        · rw [c2 rfl, (r4.1 rfl).1]
        · rw [(c1 rfl).2.2.2.2, vth_none ((r4.2 rfl).2.1 rfl), (r4.2 rfl).1]) (fun q => by cases q)
      refine r_iload c122_107 rfl (r_ci c122_109 ?_)
      refine r_icge c122_112 (by omega) (by omega) (by omega) (by omega) (fun q => by exfalso; omega) (fun c_112 => ?_)
      refine r_aload c122_115 rfl (r_get c122_116 hM5.1 rfl ?_)
      refine vife (by decide +kernel : vlk 122 119 = some (70, 255, 0, 0, 122)) (fun _ => ?_) (fun b => by cases b)
      exact g
    · have hw1 : w1 = true := by
        cases w1
        · exact absurd (r4.1 rfl).2 (by decide)
        · rfl
      subst hw1
      obtain ⟨b1, b2, b3, b4, b5⟩ := c1 rfl
      obtain ⟨q1, q2, q3⟩ := r4.2 rfl
      obtain ⟨S, t1, t2⟩ := q3 rfl
      have hL := vbL_3 bl
      have row : ∀ e, e < 720 → G5 (720 * tp + e) = S e := fun e he => (p5 _ (by omega)).trans (t2 e he)
      rw [vth_some t1, ← q1] at b5
      have outer : ∀ u i : Nat, i + u = 720 → ∀ (h6 : vHp) (G6 : Nat → Bool) (x8 x9 x10 : Value), vRp h6 c X a2 true (tp + 1 + 1) G6 → vfil G5 G6 (720 * (tp + 1)) (fun e => S e && decide (((vcn (vpi S (vbL bl) la e) 0 720 : Nat) : Int) = v)) i → vFr (vZp c) h h6 → vW (vCall (d + 4)) 122 Q 107 [.ref c, .int (iI (vBi la)), .int (iI (dep : Int)), .int (iI v), .int (iI bl), .int (iI ((720 * tp : Nat) : Int)), .int (iI ((720 * (tp + 1) : Nat) : Int)), .int (iI (i : Int)), x8, x9, x10] [] h6 0 0 := by
        intro u
        induction u with
        | zero =>
          intro i hi h6 G6 x8 x9 x10 hM6 hf f6
          obtain rfl : i = 720 := by omega
          refine r_iload c122_107 rfl (r_ci c122_109 ?_)
          refine r_icge c122_112 (by omega) (by omega) (by omega) (by omega) (fun c_112 => ?_) (fun q => by exfalso; omega)
          refine fin a2 true G6 h6 bl _ _ _ _ ha2 hM6 (vpre_tr p45 (vfil_pre hf) (by omega)) f6 (fun q => by cases q) (fun _ => ⟨_, b5, fun e he => ?_⟩)
          have g0 := hf.1 e he
          dsimp only at g0
          rw [g0, vblk hL he b3]
          unfold vbs
          rw [hla]
          rcases hc with rfl | rfl <;> rfl
        | succ u ih =>
          intro i hi h6 G6 x8 x9 x10 hM6 hf f6
          obtain ⟨g, g1, g2⟩ := hM6.2.1
          have row6 : ∀ e, e < 720 → G6 (720 * tp + e) = S e := fun e he => (hf.2 _ (Or.inl (by omega))).trans (row e he)
          have inner : ∀ w j : Nat, j + w = 720 → ∀ x10 : Value, vW (vCall (d + 4)) 122 Q 128 [.ref c, .int (iI (vBi la)), .int (iI (dep : Int)), .int (iI v), .int (iI bl), .int (iI ((720 * tp : Nat) : Int)), .int (iI ((720 * (tp + 1) : Nat) : Int)), .int (iI (i : Int)), .int (iI ((vcn (vpi S (vbL bl) la i) 0 j : Nat) : Int)), .int (iI (j : Int)), x10] [] h6 0 0 := by
            intro w
            induction w with
            | zero =>
              intro j hj x10
              obtain rfl : j = 720 := by omega
              have cl := vcn_le (vpi S (vbL bl) la i) 0 720
              have sto : ∀ b : Bool, b = (S i && decide (((vcn (vpi S (vbL bl) la i) 0 720 : Nat) : Int) = v)) → vW (vCall (d + 4)) 122 Q 248 [.ref c, .int (iI (vBi la)), .int (iI (dep : Int)), .int (iI v), .int (iI bl), .int (iI ((720 * tp : Nat) : Int)), .int (iI ((720 * (tp + 1) : Nat) : Int)), .int (iI (i : Int)), .int (iI ((vcn (vpi S (vbL bl) la i) 0 720 : Nat) : Int)), .int (iI ((720 : Nat) : Int)), x10] [.int (iI (vBi b)), .int (iI (((720 * (tp + 1) : Nat) : Int) + (i : Int))), .ref (c + 10)] h6 0 0 := by
                intro b hb
                refine r_bast c122_248 g1 (Nat.le_add_right_of_le hM6.2.2.2.2.1) (by omega) (by omega) (by cases b <;> decide) (fun h7 s7 => ?_)
                refine r_iinc c122_249 rfl rfl (r_goto c122_252 ?_)
                try dsimp only [vst]
                rw [vsu]
                rw [show (((720 * (tp + 1) : Nat) : Int) + (i : Int)).toNat = 720 * (tp + 1) + i by omega] at s7
                exact ih (i + 1) (by omega) h7 _ _ _ _ (vRp_set hM6 g2 s7 rfl) (vfil_su hf hb) (vFr_tr f6 (vZp_s s7))
              refine r_iload c122_128 rfl (r_ci c122_130 ?_)
              refine r_icge c122_133 (by omega) (by omega) (by omega) (by omega) (fun c_133 => ?_) (fun q => by exfalso; omega)
              refine r_aload c122_215 rfl (r_get c122_216 hM6.1 rfl (r_iload c122_219 rfl (r_iload c122_221 rfl (r_iadd c122_223 (r_aload c122_224 rfl (r_get c122_225 hM6.1 rfl (r_iload c122_228 rfl (r_iload c122_230 rfl (r_iadd c122_232 (r_bald c122_233 g1 (by omega) (by omega) ?_))))))))))
              rw [show (((720 * tp : Nat) : Int) + (i : Int)).toNat = 720 * tp + i by omega, g2 _ (by omega), row6 i (by omega)]
              refine vife (by decide +kernel : vlk 122 234 = some (70, 247, 0, 0, 237)) (fun b => ?_) (fun b => ?_)
              · refine r_ci c122_247 ?_
                exact sto false (by rw [b]; rfl)
              · refine r_iload c122_237 rfl (r_iload c122_239 rfl ?_)
                refine r_icne c122_240 (by omega) (by omega) (by omega) (by omega) (fun c_240 => ?_) (fun c_240 => ?_)
                · refine r_ci c122_247 ?_
                  exact sto false (by rw [b, decide_eq_false c_240]; rfl)
                · refine r_ci c122_243 (r_goto c122_244 ?_)
                  exact sto true (by rw [b, decide_eq_true c_240]; rfl)
            | succ w ihw =>
              intro j hj x10
              have cl := vcn_le (vpi S (vbL bl) la i) 0 j
              have at206 : ∀ (b : Bool) (x10 : Value), b = vpi S (vbL bl) la i j → vW (vCall (d + 4)) 122 Q 206 [.ref c, .int (iI (vBi la)), .int (iI (dep : Int)), .int (iI v), .int (iI bl), .int (iI ((720 * tp : Nat) : Int)), .int (iI ((720 * (tp + 1) : Nat) : Int)), .int (iI (i : Int)), .int (iI ((vcn (vpi S (vbL bl) la i) 0 j : Nat) : Int)), .int (iI (j : Int)), x10] [.int (iI (vBi b)), .int (iI ((vcn (vpi S (vbL bl) la i) 0 j : Nat) : Int))] h6 0 0 := by
                intro b x10 hb
                have e : vcn (vpi S (vbL bl) la i) 0 (j + 1) = vcn (vpi S (vbL bl) la i) 0 j + (if vpi S (vbL bl) la i (0 + j) = true then 1 else 0) := rfl
                rw [Nat.zero_add, ← hb] at e
                have e2 : ((vcn (vpi S (vbL bl) la i) 0 j : Nat) : Int) + vBi b = ((vcn (vpi S (vbL bl) la i) 0 (j + 1) : Nat) : Int) := by
                  rw [e]; unfold vBi
                  cases b
                  · rw [if_neg (by decide), if_neg (by decide)]; omega
                  · rw [if_pos rfl, if_pos rfl]; omega
                refine r_iadd c122_206 (r_istore c122_207 rfl (r_iinc c122_209 rfl rfl (r_goto c122_212 ?_)))
                try dsimp only [vst]
                rw [e2, vsu]
                exact ihw (j + 1) (by omega) _
              have at171 : ∀ b : Bool, b = (S j && decide (j / vbL bl = i / vbL bl)) → vW (vCall (d + 4)) 122 Q 171 [.ref c, .int (iI (vBi la)), .int (iI (dep : Int)), .int (iI v), .int (iI bl), .int (iI ((720 * tp : Nat) : Int)), .int (iI ((720 * (tp + 1) : Nat) : Int)), .int (iI (i : Int)), .int (iI ((vcn (vpi S (vbL bl) la i) 0 j : Nat) : Int)), .int (iI (j : Int)), x10] [.int (iI (vBi b))] h6 0 0 := by
                intro b hb
                have ev : vpi S (vbL bl) la i j = (b && (if la = true then decide (i ≤ j) else decide (j ≤ i))) := by rw [hb]; rfl
                refine r_istore c122_171 rfl (r_iload c122_173 rfl (r_iload c122_175 rfl ?_))
                try dsimp only [vst]
                refine vife (by decide +kernel : vlk 122 177 = some (70, 205, 0, 0, 180)) (fun b0 => ?_) (fun b0 => ?_)
                · refine r_ci c122_205 ?_
                  exact at206 false _ (by rw [ev, b0, Bool.false_and])
                · rw [b0, Bool.true_and] at ev
                  refine r_iload c122_180 rfl ?_
                  refine vife (by decide +kernel : vlk 122 181 = some (70, 194, 0, 0, 184)) (fun bl0 => ?_) (fun bl0 => ?_)
                  · rw [if_neg (by rw [bl0]; decide)] at ev
                    refine r_iload c122_194 rfl (r_iload c122_196 rfl ?_)
                    refine r_icgt c122_198 (by omega) (by omega) (by omega) (by omega) (fun c_198 => ?_) (fun c_198 => ?_)
                    · refine r_ci c122_205 ?_
                      exact at206 false _ (by rw [ev]; exact (decide_eq_false (by omega)).symm)
                    · refine r_ci c122_201 (r_goto c122_202 ?_)
                      exact at206 true _ (by rw [ev]; exact (decide_eq_true (by omega)).symm)
                  · rw [if_pos bl0] at ev
                    refine r_iload c122_184 rfl (r_iload c122_186 rfl ?_)
                    refine r_iclt c122_188 (by omega) (by omega) (by omega) (by omega) (fun c_188 => ?_) (fun c_188 => ?_)
                    · refine r_ci c122_205 ?_
                      exact at206 false _ (by rw [ev]; exact (decide_eq_false (by omega)).symm)
                    · refine r_goto c122_191 (r_ci c122_201 (r_goto c122_202 ?_))
                      exact at206 true _ (by rw [ev]; exact (decide_eq_true (by omega)).symm)
              have dl : ∀ m : Nat, m / vbL bl ≤ m := fun m => Nat.div_le_self _ _
              have dl1 := dl i
              have dl2 := dl j
              have dn1 : (0 : Int) ≤ ((i / vbL bl : Nat) : Int) := Int.natCast_nonneg _
              have dn2 : (0 : Int) ≤ ((j / vbL bl : Nat) : Int) := Int.natCast_nonneg _
              refine r_iload c122_128 rfl (r_ci c122_130 ?_)
              refine r_icge c122_133 (by omega) (by omega) (by omega) (by omega) (fun q => by exfalso; omega) (fun c_133 => ?_)
              refine r_aload c122_136 rfl (r_get c122_137 hM6.1 rfl (r_iload c122_140 rfl (r_iload c122_142 rfl (r_iadd c122_144 (r_bald c122_145 g1 (by omega) (by omega) ?_)))))
              rw [show (((720 * tp : Nat) : Int) + (j : Int)).toNat = 720 * tp + j by omega, g2 _ (by omega), row6 j (by omega)]
              refine vife (by decide +kernel : vlk 122 146 = some (70, 170, 0, 0, 149)) (fun b => ?_) (fun b => ?_)
              · refine r_ci c122_170 ?_
                exact at171 false (by rw [b]; rfl)
              · refine r_iload c122_149 rfl (r_iload c122_151 rfl ?_)
                refine r_is2 c122_153 vr_121 rfl (k_mblockOf b1 b2 (by omega) ?_)
                dsimp only [vpush]
                refine r_iload c122_156 rfl (r_iload c122_158 rfl ?_)
                refine r_is2 c122_160 vr_121 rfl (k_mblockOf b1 b2 (by omega) ?_)
                dsimp only [vpush]
                refine r_icne c122_163 (by omega) (by omega) (by omega) (by omega) (fun c_163 => ?_) (fun c_163 => ?_)
                · refine r_ci c122_170 ?_
                  exact at171 false (by rw [b, decide_eq_false (by omega)]; rfl)
                · refine r_ci c122_166 (r_goto c122_167 ?_)
                  exact at171 true (by rw [b, decide_eq_true (by omega)]; rfl)
          refine r_iload c122_107 rfl (r_ci c122_109 ?_)
          refine r_icge c122_112 (by omega) (by omega) (by omega) (by omega) (fun q => by exfalso; omega) (fun c_112 => ?_)
          refine r_aload c122_115 rfl (r_get c122_116 hM6.1 rfl ?_)
          refine vife (by decide +kernel : vlk 122 119 = some (70, 255, 0, 0, 122)) (fun b => by cases b) (fun _ => ?_)
          refine r_ci c122_122 (r_istore c122_123 rfl (r_ci c122_125 (r_istore c122_126 rfl ?_)))
          try dsimp only [vst]
          exact inner 720 0 rfl x10
      exact outer 720 0 rfl h5 G5 _ _ _ hM5 vfil_0 f35
  have f12 := vFr_tr f1 f2
  have upd : ∀ bl : Int, (w2 = true → bl = vbo (vch X.2.1 X.2.2.1 z.1)) → (w2 = false → bl = -1) → ∀ x4 x5 x6 x7 x8 x9 x10 : Value, vW (vCall (d + 4)) 122 Q 58 [.ref c, .int (iI (vBi la)), .int (iI (dep : Int)), .int (iI v), x4, x5, x6, x7, x8, x9, x10] [.int (iI bl)] h2 0 0 := by
    intro bl c1 c2 x4 x5 x6 x7 x8 x9 x10
    have hbl : -1 ≤ bl ∧ bl ≤ 2 := by
      cases w2
      · rw [c2 rfl]; decide
      · rw [c1 rfl]; unfold vbo; split; decide; split; decide; split <;> decide
    refine r_istore c122_58 rfl (r_iload c122_60 rfl ?_)
    try dsimp only [vst]
    refine r_ifge c122_62 (by omega) (by omega) (fun c_62 => ?_) (fun c_62 => ?_)
    · have hw2 : w2 = true := by
        cases w2
        · rw [c2 rfl] at c_62; exact absurd c_62 (by decide)
        · rfl
      subst hw2
      have e2' : ¬ z.2 = -1 := by simpa using e2.symm
      have cb := c1 rfl
      have hv0 : 0 ≤ vch X.2.1 X.2.2.1 z.1 := by
        rw [cb] at c_62
        unfold vbo at c_62
        split at c_62
        · omega
        · split at c_62
          · omega
          · split at c_62
            · omega
            · exact absurd c_62 (by decide)
      have hl := vch_lt hv0
      refine r_aload c122_70 rfl (r_dup c122_71 rfl (r_get c122_72 hM2.1 rfl (r_aload c122_75 rfl (r_get c122_76 hM2.1 rfl ?_))))
      refine vife (v := true) (by decide +kernel : vlk 122 79 = some (70, 86, 0, 0, 82)) (fun b => by cases b) (fun _ => ?_)
      refine r_ci c122_82 (r_goto c122_83 (r_iadd c122_87 ?_))
      refine r_put c122_88 hM2.1 hM2.2.2.2.2.1 rfl ⟨rfl, rfl⟩ (fun h3 s3 => ?_)
      rw [vsu] at s3
      have hM3 := vRp_obj (a2 := z.1 + 1) (w2 := true) (tp2 := tp) hM2 s3
      refine bra bl (z.1 + 1) true h3 _ _ _ _ _ _ hl hM3 (vFr_tr f12 (vZp_o s3)) (fun _ => ⟨by omega, by omega, ?_, ?_, ?_⟩) (fun q => by cases q)
      · have := e3 rfl; omega
      · have := e3 rfl; omega
      · rw [er, if_neg e2', if_neg (by omega), e3 rfl, cb]
    · refine r_aload c122_65 rfl (r_ci c122_66 ?_)
      refine r_put c122_67 hM2.1 hM2.2.2.2.2.1 rfl (vmwf false) (fun h3 s3 => ?_)
      have hM3 := vRp_obj (a2 := z.1) (w2 := false) (tp2 := tp) hM2 s3
      refine r_aload c122_70 rfl (r_dup c122_71 rfl (r_get c122_72 hM3.1 rfl (r_aload c122_75 rfl (r_get c122_76 hM3.1 rfl ?_))))
      refine vife (v := false) (by decide +kernel : vlk 122 79 = some (70, 86, 0, 0, 82)) (fun _ => ?_) (fun b => by cases b)
      refine r_ci c122_86 (r_iadd c122_87 ?_)
      rw [Int.add_zero]
      refine r_put c122_88 hM3.1 hM3.2.2.2.2.1 rfl ⟨rfl, rfl⟩ (fun h4 s4 => ?_)
      have hM4 := vRp_obj (a2 := z.1) (w2 := false) (tp2 := tp) hM3 s4
      refine bra bl z.1 false h4 _ _ _ _ _ _ (by omega) hM4 (vFr_tr f12 (vFr_tr (vZp_o s3) (vZp_o s4))) (fun q => by cases q) (fun _ => ?_)
      rw [er]
      cases w2
      · exact if_pos (by simpa using e2.symm)
      · rw [if_neg (by simpa using e2.symm), if_pos (by rw [← c1 rfl]; exact c_62)]
  refine r_istore c122_17 rfl (r_aload c122_18 rfl (r_ci c122_19 ?_))
  try dsimp only [vst]
  refine r_iv1 c122_21 vr_111 hM2.1 rfl (k_isAt hM2 (by omega) (by omega) (by omega) (fun q1 q2 => ?_) (fun q => ?_))
  · dsimp only [vpush]
    refine r_ifeq c122_24 (by omega) (by omega) (fun q => by exfalso; omega) (fun c_24 => ?_)
    refine r_ci c122_27 (r_goto c122_28 ?_)
    exact upd 0 (fun _ => by rw [q2]; rfl) (fun g => by rw [q1] at g; cases g) _ _ _ _ _ _ _
  · dsimp only [vpush]
    refine r_ifeq c122_24 (by omega) (by omega) (fun c_24 => ?_) (fun q => by exfalso; omega)
    refine r_aload c122_31 rfl (r_ci c122_32 ?_)
    refine r_iv1 c122_34 vr_111 hM2.1 rfl (k_isAt hM2 (by omega) (by omega) (by omega) (fun q1 q2 => ?_) (fun p => ?_))
    · dsimp only [vpush]
      refine r_ifeq c122_37 (by omega) (by omega) (fun q => by exfalso; omega) (fun c_37 => ?_)
      refine r_ci c122_40 (r_goto c122_41 ?_)
      exact upd 1 (fun _ => by rw [q2]; rfl) (fun g => by rw [q1] at g; cases g) _ _ _ _ _ _ _
    · dsimp only [vpush]
      refine r_ifeq c122_37 (by omega) (by omega) (fun c_37 => ?_) (fun q => by exfalso; omega)
      refine r_aload c122_44 rfl (r_ci c122_45 ?_)
      refine r_iv1 c122_47 vr_111 hM2.1 rfl (k_isAt hM2 (by omega) (by omega) (by omega) (fun q1 q2 => ?_) (fun o => ?_))
      · dsimp only [vpush]
        refine r_ifeq c122_50 (by omega) (by omega) (fun q => by exfalso; omega) (fun c_50 => ?_)
        refine r_ci c122_53 (r_goto c122_54 ?_)
        exact upd 2 (fun _ => by rw [q2]; rfl) (fun g => by rw [q1] at g; cases g) _ _ _ _ _ _ _
      · dsimp only [vpush]
        refine r_ifeq c122_50 (by omega) (by omega) (fun c_50 => ?_) (fun q => by exfalso; omega)
        refine r_ci c122_57 ?_
        refine upd (-1) (fun g => ?_) (fun _ => rfl) _ _ _ _ _ _ _
        unfold vbo
        rw [if_neg (fun y => q ⟨g, y⟩), if_neg (fun y => p ⟨g, y⟩), if_neg (fun y => o ⟨g, y⟩)]

