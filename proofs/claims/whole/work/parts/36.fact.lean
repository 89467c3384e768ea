theorem ml_40 : vml 40 = 5 := by decide +kernel
theorem ml_41 : vml 41 = 5 := by decide +kernel
theorem vr_9 : vrc 9 = some (0, 0) := by decide +kernel
theorem vr_41 : vrc 41 = some (3, 3) := by decide +kernel
theorem vr_42 : vrc 42 = some (3, 1) := by decide +kernel
theorem vr_43 : vrc 43 = some (3, 2) := by decide +kernel
theorem vr_44 : vrc 44 = some (3, 2) := by decide +kernel
theorem vr_45 : vrc 45 = some (3, 4) := by decide +kernel
theorem vr_46 : vrc 46 = some (3, 4) := by decide +kernel
theorem vr_47 : vrc 47 = some (3, 3) := by decide +kernel
theorem c40_0 : vlk 40 0 = some (6, 0, 0, 0, 1) := by decide +kernel
theorem c40_1 : vlk 40 1 = some (42, 3, 5, 0, 4) := by decide +kernel
theorem c40_4 : vlk 40 4 = some (4, 1, 0, 0, 5) := by decide +kernel
theorem c40_5 : vlk 40 5 = some (48, 0, 0, 0, 6) := by decide +kernel
theorem c40_6 : vlk 40 6 = some (9, 3, 0, 0, 7) := by decide +kernel
theorem c40_7 : vlk 40 7 = some (6, 0, 0, 0, 8) := by decide +kernel
theorem c40_8 : vlk 40 8 = some (1, 0, 0, 33, 10) := by decide +kernel
theorem c40_10 : vlk 40 10 = some (58, 37, 0, 0, 13) := by decide +kernel
theorem c40_13 : vlk 40 13 = some (7, 4, 0, 0, 15) := by decide +kernel
theorem c40_15 : vlk 40 15 = some (6, 0, 0, 0, 16) := by decide +kernel
theorem c40_16 : vlk 40 16 = some (4, 1, 0, 0, 17) := by decide +kernel
theorem c40_17 : vlk 40 17 = some (6, 3, 0, 0, 18) := by decide +kernel
theorem c40_18 : vlk 40 18 = some (6, 2, 0, 0, 19) := by decide +kernel
theorem c40_19 : vlk 40 19 = some (58, 41, 0, 0, 22) := by decide +kernel
theorem c40_22 : vlk 40 22 = some (71, 27, 0, 0, 25) := by decide +kernel
theorem c40_25 : vlk 40 25 = some (3, 0, 0, 0, 26) := by decide +kernel
theorem c40_26 : vlk 40 26 = some (65, 0, 0, 0, 27) := by decide +kernel
theorem c40_27 : vlk 40 27 = some (4, 4, 0, 0, 29) := by decide +kernel
theorem c40_29 : vlk 40 29 = some (70, 36, 0, 0, 32) := by decide +kernel
theorem c40_32 : vlk 40 32 = some (6, 3, 0, 0, 33) := by decide +kernel
theorem c40_33 : vlk 40 33 = some (58, 9, 0, 0, 36) := by decide +kernel
theorem c40_36 : vlk 40 36 = some (6, 3, 0, 0, 37) := by decide +kernel
theorem c40_37 : vlk 40 37 = some (65, 0, 0, 0, 38) := by decide +kernel
theorem c41_0 : vlk 41 0 = some (6, 0, 0, 0, 1) := by decide +kernel
theorem c41_1 : vlk 41 1 = some (58, 36, 0, 0, 4) := by decide +kernel
theorem c41_4 : vlk 41 4 = some (7, 4, 0, 0, 6) := by decide +kernel
theorem c41_6 : vlk 41 6 = some (4, 1, 0, 0, 7) := by decide +kernel
theorem c41_7 : vlk 41 7 = some (1, 0, 0, 5, 8) := by decide +kernel
theorem c41_8 : vlk 41 8 = some (78, 21, 0, 0, 11) := by decide +kernel
theorem c41_11 : vlk 41 11 = some (4, 4, 0, 0, 13) := by decide +kernel
theorem c41_13 : vlk 41 13 = some (59, 42, 0, 0, 16) := by decide +kernel
theorem c41_16 : vlk 41 16 = some (70, 21, 0, 0, 19) := by decide +kernel
theorem c41_19 : vlk 41 19 = some (1, 0, 0, 0, 20) := by decide +kernel
theorem c41_20 : vlk 41 20 = some (63, 1, 0, 0, 21) := by decide +kernel
theorem c41_21 : vlk 41 21 = some (4, 4, 0, 0, 23) := by decide +kernel
theorem c41_23 : vlk 41 23 = some (1, 0, 0, 40, 25) := by decide +kernel
theorem c41_25 : vlk 41 25 = some (77, 36, 0, 0, 28) := by decide +kernel
theorem c41_28 : vlk 41 28 = some (6, 0, 0, 0, 29) := by decide +kernel
theorem c41_29 : vlk 41 29 = some (4, 1, 0, 0, 30) := by decide +kernel
theorem c41_30 : vlk 41 30 = some (6, 2, 0, 0, 31) := by decide +kernel
theorem c41_31 : vlk 41 31 = some (6, 3, 0, 0, 32) := by decide +kernel
theorem c41_32 : vlk 41 32 = some (58, 47, 0, 0, 35) := by decide +kernel
theorem c41_35 : vlk 41 35 = some (63, 1, 0, 0, 36) := by decide +kernel
theorem c41_36 : vlk 41 36 = some (4, 4, 0, 0, 38) := by decide +kernel
theorem c41_38 : vlk 41 38 = some (1, 0, 0, 65, 40) := by decide +kernel
theorem c41_40 : vlk 41 40 = some (78, 76, 0, 0, 43) := by decide +kernel
theorem c41_43 : vlk 41 43 = some (4, 4, 0, 0, 45) := by decide +kernel
theorem c41_45 : vlk 41 45 = some (1, 0, 0, 74, 47) := by decide +kernel
theorem c41_47 : vlk 41 47 = some (80, 76, 0, 0, 50) := by decide +kernel
theorem c41_50 : vlk 41 50 = some (6, 0, 0, 0, 51) := by decide +kernel
theorem c41_51 : vlk 41 51 = some (34, 0, 0, 0, 52) := by decide +kernel
theorem c41_52 : vlk 41 52 = some (42, 3, 2, 0, 55) := by decide +kernel
theorem c41_55 : vlk 41 55 = some (1, 0, 0, 1, 56) := by decide +kernel
theorem c41_56 : vlk 41 56 = some (11, 0, 0, 0, 57) := by decide +kernel
theorem c41_57 : vlk 41 57 = some (43, 3, 2, 0, 60) := by decide +kernel
theorem c41_60 : vlk 41 60 = some (6, 2, 0, 0, 61) := by decide +kernel
theorem c41_61 : vlk 41 61 = some (6, 3, 0, 0, 62) := by decide +kernel
theorem c41_62 : vlk 41 62 = some (4, 4, 0, 0, 64) := by decide +kernel
theorem c41_64 : vlk 41 64 = some (1, 0, 0, 65, 66) := by decide +kernel
theorem c41_66 : vlk 41 66 = some (12, 0, 0, 0, 67) := by decide +kernel
theorem c41_67 : vlk 41 67 = some (48, 0, 0, 0, 68) := by decide +kernel
theorem c41_68 : vlk 41 68 = some (42, 2, 4, 0, 71) := by decide +kernel
theorem c41_71 : vlk 41 71 = some (58, 5, 0, 0, 74) := by decide +kernel
theorem c41_74 : vlk 41 74 = some (1, 0, 0, 1, 75) := by decide +kernel
theorem c41_75 : vlk 41 75 = some (63, 1, 0, 0, 76) := by decide +kernel
theorem c41_76 : vlk 41 76 = some (4, 4, 0, 0, 78) := by decide +kernel
theorem c41_78 : vlk 41 78 = some (67, 0, 0, 0, 188) := by decide +kernel
theorem c41_188 : vlk 41 188 = some (6, 0, 0, 0, 189) := by decide +kernel
theorem c41_189 : vlk 41 189 = some (34, 0, 0, 0, 190) := by decide +kernel
theorem c41_190 : vlk 41 190 = some (42, 3, 2, 0, 193) := by decide +kernel
theorem c41_193 : vlk 41 193 = some (1, 0, 0, 1, 194) := by decide +kernel
theorem c41_194 : vlk 41 194 = some (11, 0, 0, 0, 195) := by decide +kernel
theorem c41_195 : vlk 41 195 = some (43, 3, 2, 0, 198) := by decide +kernel
theorem c41_198 : vlk 41 198 = some (6, 0, 0, 0, 199) := by decide +kernel
theorem c41_199 : vlk 41 199 = some (4, 4, 0, 0, 201) := by decide +kernel
theorem c41_201 : vlk 41 201 = some (6, 2, 0, 0, 202) := by decide +kernel
theorem c41_202 : vlk 41 202 = some (58, 43, 0, 0, 205) := by decide +kernel
theorem c41_205 : vlk 41 205 = some (63, 1, 0, 0, 206) := by decide +kernel
theorem c41_206 : vlk 41 206 = some (6, 0, 0, 0, 207) := by decide +kernel
theorem c41_207 : vlk 41 207 = some (34, 0, 0, 0, 208) := by decide +kernel
theorem c41_208 : vlk 41 208 = some (42, 3, 2, 0, 211) := by decide +kernel
theorem c41_211 : vlk 41 211 = some (1, 0, 0, 1, 212) := by decide +kernel
theorem c41_212 : vlk 41 212 = some (11, 0, 0, 0, 213) := by decide +kernel
theorem c41_213 : vlk 41 213 = some (43, 3, 2, 0, 216) := by decide +kernel
theorem c41_216 : vlk 41 216 = some (6, 0, 0, 0, 217) := by decide +kernel
theorem c41_217 : vlk 41 217 = some (4, 4, 0, 0, 219) := by decide +kernel
theorem c41_219 : vlk 41 219 = some (6, 2, 0, 0, 220) := by decide +kernel
theorem c41_220 : vlk 41 220 = some (58, 44, 0, 0, 223) := by decide +kernel
theorem c41_223 : vlk 41 223 = some (63, 1, 0, 0, 224) := by decide +kernel
theorem c41_224 : vlk 41 224 = some (6, 0, 0, 0, 225) := by decide +kernel
theorem c41_225 : vlk 41 225 = some (34, 0, 0, 0, 226) := by decide +kernel
theorem c41_226 : vlk 41 226 = some (42, 3, 2, 0, 229) := by decide +kernel
theorem c41_229 : vlk 41 229 = some (1, 0, 0, 1, 230) := by decide +kernel
theorem c41_230 : vlk 41 230 = some (11, 0, 0, 0, 231) := by decide +kernel
theorem c41_231 : vlk 41 231 = some (43, 3, 2, 0, 234) := by decide +kernel
theorem c41_234 : vlk 41 234 = some (6, 0, 0, 0, 235) := by decide +kernel
theorem c41_235 : vlk 41 235 = some (4, 4, 0, 0, 237) := by decide +kernel
theorem c41_237 : vlk 41 237 = some (4, 1, 0, 0, 238) := by decide +kernel
theorem c41_238 : vlk 41 238 = some (6, 2, 0, 0, 239) := by decide +kernel
theorem c41_239 : vlk 41 239 = some (6, 3, 0, 0, 240) := by decide +kernel
theorem c41_240 : vlk 41 240 = some (58, 45, 0, 0, 243) := by decide +kernel
theorem c41_243 : vlk 41 243 = some (63, 1, 0, 0, 244) := by decide +kernel
theorem c41_244 : vlk 41 244 = some (6, 0, 0, 0, 245) := by decide +kernel
theorem c41_245 : vlk 41 245 = some (34, 0, 0, 0, 246) := by decide +kernel
theorem c41_246 : vlk 41 246 = some (42, 3, 2, 0, 249) := by decide +kernel
theorem c41_249 : vlk 41 249 = some (1, 0, 0, 1, 250) := by decide +kernel
theorem c41_250 : vlk 41 250 = some (11, 0, 0, 0, 251) := by decide +kernel
theorem c41_251 : vlk 41 251 = some (43, 3, 2, 0, 254) := by decide +kernel
theorem c41_254 : vlk 41 254 = some (6, 0, 0, 0, 255) := by decide +kernel
theorem c41_255 : vlk 41 255 = some (4, 4, 0, 0, 257) := by decide +kernel
theorem c41_257 : vlk 41 257 = some (4, 1, 0, 0, 258) := by decide +kernel
theorem c41_258 : vlk 41 258 = some (6, 2, 0, 0, 259) := by decide +kernel
theorem c41_259 : vlk 41 259 = some (6, 3, 0, 0, 260) := by decide +kernel
theorem c41_260 : vlk 41 260 = some (58, 46, 0, 0, 263) := by decide +kernel
theorem c41_263 : vlk 41 263 = some (63, 1, 0, 0, 264) := by decide +kernel
theorem c41_264 : vlk 41 264 = some (1, 0, 0, 0, 265) := by decide +kernel
theorem c41_265 : vlk 41 265 = some (63, 1, 0, 0, 266) := by decide +kernel
/-! Reader: factors -/
theorem vpn_B {n p : Nat} {t : Nat → Int} {D : Nat → vSt1} {f : Option (Nat → vPr)} (h : 65 ≤ vch n t p ∧ vch n t p ≤ 74) : vpn n t D f p = (p + 1, some (D (vch n t p - 65).toNat)) := by
  cases f with
  | none => unfold vpn; dsimp only; rw [if_neg (by omega), if_pos h]
  | some g => unfold vpn; dsimp only; rw [if_neg (by omega), if_pos h]
theorem vpn_U {n p : Nat} {t : Nat → Int} {D : Nat → vSt1} {f : Option (Nat → vPr)} (h : vch n t p = 119 ∨ vch n t p = 100 ∨ vch n t p = 109 ∨ vch n t p = 121) : vpn n t D f p = vpu n t (vch n t p) (p + 1) := by
  cases f with
  | none => unfold vpn; dsimp only; rw [if_neg (by omega), if_neg (by omega), if_pos h]
  | some g => unfold vpn; dsimp only; rw [if_neg (by omega), if_neg (by omega), if_pos h]
theorem vpn_P {n p : Nat} {t : Nat → Int} {D : Nat → vSt1} {f : Option (Nat → vPr)} (h : vch n t p = 101 ∨ vch n t p = 114) : vpn n t D f p = vpp n t (vch n t p) (p + 1) := by
  cases f with
  | none => unfold vpn; dsimp only; rw [if_neg (by omega), if_neg (by omega), if_neg (by omega), if_pos h]
  | some g => unfold vpn; dsimp only; rw [if_neg (by omega), if_neg (by omega), if_neg (by omega), if_pos h]
theorem vpn_0 {n p : Nat} {t : Nat → Int} {D : Nat → vSt1} {f : Option (Nat → vPr)} (h1 : ¬ vhb (vch n t p)) (h2 : ¬ (65 ≤ vch n t p ∧ vch n t p ≤ 74)) (h3 : ¬ (vch n t p = 119 ∨ vch n t p = 100 ∨ vch n t p = 109 ∨ vch n t p = 121)) (h4 : ¬ (vch n t p = 101 ∨ vch n t p = 114)) : vpn n t D f p = (p, none) := by
  unfold vhb at h1
  cases f with
  | none => unfold vpn; dsimp only; rw [if_neg h1, if_neg h2, if_neg h3, if_neg h4]
  | some g => unfold vpn; dsimp only; rw [if_neg (by omega), if_neg h2, if_neg h3, if_neg h4, if_neg (by omega), if_neg (by omega)]
theorem vpn_N {n p : Nat} {t : Nat → Int} {D : Nat → vSt1} (h1 : vhb (vch n t p)) : vpn n t D none p = (p, none) := by
  unfold vpn; dsimp only; exact if_pos h1
theorem k_plain {r n pl pr : Nat} {t : Nat → Int} {pa : Nat → Nat} {D : Nat → vSt1} {d dep : Nat} {f : Option (Nat → vPr)} {h : vHp} {Q : vQ} (hP : vPx h r n t pr pa D pl) (hd5 : dep ≤ 5) (hf : (dep = 5 ∧ f = none) ∨ ∃ e, dep + 1 + e = 5 ∧ f = some (vex n t D e) ∧ vKs (d + 4) r n t pr pa D (dep + 1) e) (hpl : pl ≤ n) (kN : (vpn n t D f pl).2 = none → ∀ h', vPx h' r n t pr pa D (vpn n t D f pl).1 → vFr (vXf r dep) h h' → Q (some (.int (iI 0))) h') (kS : ∀ S, (vpn n t D f pl).2 = some S → ∀ h', vPx h' r n t pr pa D (vpn n t D f pl).1 → vDy h' (r + 5 + 2 * (3 * dep + 2)) S → vFr (vXf r dep) h h' → Q (some (.int (iI 1))) h') : vCall (d + 7) 0 0 41 [.ref r, .int (iI (dep : Int)), .ref (r + 5 + 2 * (3 * dep + 2)), .ref pr] h Q := by
  have ho := hP.1
  unfold vRo at ho
  have hT := hP.2.2.2.2.2.2.1
  have hn := hT.1
  have hrg := vch_rg hT pl
  have hlo := hP.2.2.2.2.2.1
  have next : ∀ pc : Nat, 0 ≤ vch n t pl → pl + 1 ≤ n := fun _ q => vch_lt q
  obtain ⟨S0, hS0⟩ := hP.2.2.1 (3 * dep + 2) (by omega)
  have up : ∀ h2 h3 : vHp, vFr (fun q => q = r) h h2 → vFr (fun q => q = r ∨ q = r + 5 + 2 * (3 * dep + 2) + 1) h2 h3 → vFr (vXf r dep) h h3 := fun h2 h3 f2 f3 => vFr_tr (vXf_r f2) (vFr_up f3 (fun q e => by unfold vXf; omega))
  have from21 : (vhb (vch n t pl) → ∃ e, dep + 1 + e = 5 ∧ f = some (vex n t D e) ∧ vKs (d + 4) r n t pr pa D (dep + 1) e) → vW (vCall (d + 6)) 41 Q 21 [.ref r, .int (iI (dep : Int)), .ref (r + 5 + 2 * (3 * dep + 2)), .ref pr, .int (iI (vch n t pl))] [] h 0 0 := by
    intro hb
    refine r_iload c41_21 rfl (r_ci c41_23 ?_)
    refine r_icne c41_25 (by omega) (by omega) (by omega) (by omega) (fun c_25 => ?_) (fun c_25 => ?_)
    · refine r_iload c41_36 rfl (r_ci c41_38 ?_)
      have from76 : ¬ (65 ≤ vch n t pl ∧ vch n t pl ≤ 74) → vW (vCall (d + 6)) 41 Q 76 [.ref r, .int (iI (dep : Int)), .ref (r + 5 + 2 * (3 * dep + 2)), .ref pr, .int (iI (vch n t pl))] [] h 0 0 := by
        intro nB
        refine r_iload c41_76 rfl ?_
        refine r_sw c41_78 rfl (by omega) (by omega) ?_
        by_cases gU : vch n t pl = 119 ∨ vch n t pl = 100 ∨ vch n t pl = 109 ∨ vch n t pl = 121
        · have e : vfd [(98, 244), (99, 264), (100, 188), (101, 206), (102, 264), (103, 264), (104, 264), (105, 264), (106, 264), (107, 264), (108, 224), (109, 188), (110, 224), (111, 264), (112, 244), (113, 264), (114, 206), (115, 244), (116, 264), (117, 264), (118, 264), (119, 188), (120, 244), (121, 188)] 264 (vch n t pl) = 188 := by rcases gU with q | q | q | q <;> rw [q] <;> rfl
          rw [e]
          rw [vpn_U gU] at kN kS
          refine r_aload c41_188 rfl (r_dup c41_189 rfl (r_get c41_190 ho rfl (r_ci c41_193 (r_iadd c41_194 ?_))))
          refine r_put c41_195 ho hlo rfl ⟨rfl, rfl⟩ (fun h2 s2 => ?_)
          rw [vsu] at s2
          have hP2 := vPx_pl hP (vRo_st s2) (vFr_st s2)
          have ho2 := hP2.1
          unfold vRo at ho2
          refine r_aload c41_198 rfl (r_iload c41_199 rfl (r_aload c41_201 rfl ?_))
          refine r_iv2 c41_202 vr_43 ho2 rfl (k_unit hP2 (by omega) (next 0 (by omega)) gU (fun e1 h3 hP3 f3 => ?_) (fun S e1 h3 hP3 hS3 f3 => ?_))
          · dsimp only [vpush]
            refine r_zret (st := []) c41_205 (by omega) ?_
            exact kN e1 h3 hP3 (up h2 h3 (vFr_st s2) f3)
          · dsimp only [vpush]
            refine r_zret (st := []) c41_205 (by omega) ?_
            exact kS S e1 h3 hP3 hS3 (up h2 h3 (vFr_st s2) f3)
        · by_cases gP : vch n t pl = 101 ∨ vch n t pl = 114
          · have e : vfd [(98, 244), (99, 264), (100, 188), (101, 206), (102, 264), (103, 264), (104, 264), (105, 264), (106, 264), (107, 264), (108, 224), (109, 188), (110, 224), (111, 264), (112, 244), (113, 264), (114, 206), (115, 244), (116, 264), (117, 264), (118, 264), (119, 188), (120, 244), (121, 188)] 264 (vch n t pl) = 206 := by rcases gP with q | q <;> rw [q] <;> rfl
            rw [e]
            rw [vpn_P gP] at kN kS
            refine r_aload c41_206 rfl (r_dup c41_207 rfl (r_get c41_208 ho rfl (r_ci c41_211 (r_iadd c41_212 ?_))))
            refine r_put c41_213 ho hlo rfl ⟨rfl, rfl⟩ (fun h2 s2 => ?_)
            rw [vsu] at s2
            have hP2 := vPx_pl hP (vRo_st s2) (vFr_st s2)
            have ho2 := hP2.1
            unfold vRo at ho2
            refine r_aload c41_216 rfl (r_iload c41_217 rfl (r_aload c41_219 rfl ?_))
            refine r_iv2 c41_220 vr_44 ho2 rfl (k_pair hP2 (by omega) (next 0 (by omega)) gP (fun e1 h3 hP3 f3 => ?_) (fun S e1 h3 hP3 hS3 f3 => ?_))
            · dsimp only [vpush]
              refine r_zret (st := []) c41_223 (by omega) ?_
              exact kN e1 h3 hP3 (up h2 h3 (vFr_st s2) f3)
            · dsimp only [vpush]
              refine r_zret (st := []) c41_223 (by omega) ?_
              exact kS S e1 h3 hP3 hS3 (up h2 h3 (vFr_st s2) f3)
          · by_cases gN : vch n t pl = 110 ∨ vch n t pl = 108
            · have e : vfd [(98, 244), (99, 264), (100, 188), (101, 206), (102, 264), (103, 264), (104, 264), (105, 264), (106, 264), (107, 264), (108, 224), (109, 188), (110, 224), (111, 264), (112, 244), (113, 264), (114, 206), (115, 244), (116, 264), (117, 264), (118, 264), (119, 188), (120, 244), (121, 188)] 264 (vch n t pl) = 224 := by rcases gN with q | q <;> rw [q] <;> rfl
              rw [e]
              obtain ⟨e5, d5, rfl, ih⟩ := hb (by unfold vhb; omega)
              rw [show vpn n t D (some (vex n t D e5)) pl = vpb n t (vex n t D e5) (vch n t pl) (pl + 1) by unfold vpn; dsimp only; rw [if_neg (by omega), if_neg nB, if_neg gU, if_neg gP, if_pos gN]] at kN kS
              refine r_aload c41_224 rfl (r_dup c41_225 rfl (r_get c41_226 ho rfl (r_ci c41_229 (r_iadd c41_230 ?_))))
              refine r_put c41_231 ho hlo rfl ⟨rfl, rfl⟩ (fun h2 s2 => ?_)
              rw [vsu] at s2
              have hP2 := vPx_pl hP (vRo_st s2) (vFr_st s2)
              have ho2 := hP2.1
              unfold vRo at ho2
              refine r_aload c41_234 rfl (r_iload c41_235 rfl (r_iload c41_237 rfl (r_aload c41_238 rfl (r_aload c41_239 rfl ?_))))
              refine r_iv4 c41_240 vr_45 ho2 rfl (k_blocks hP2 d5 ih (next 0 (by omega)) gN (fun e1 h3 hP3 f3 => ?_) (fun S e1 h3 hP3 hS3 f3 => ?_))
              · dsimp only [vpush]
                refine r_zret (st := []) c41_243 (by omega) ?_
                exact kN e1 h3 hP3 (vFr_tr (vXf_r (vFr_st s2)) f3)
              · dsimp only [vpush]
                refine r_zret (st := []) c41_243 (by omega) ?_
                exact kS S e1 h3 hP3 hS3 (vFr_tr (vXf_r (vFr_st s2)) f3)
            · by_cases gX : vch n t pl = 115 ∨ vch n t pl = 98 ∨ vch n t pl = 112 ∨ vch n t pl = 120
              · have e : vfd [(98, 244), (99, 264), (100, 188), (101, 206), (102, 264), (103, 264), (104, 264), (105, 264), (106, 264), (107, 264), (108, 224), (109, 188), (110, 224), (111, 264), (112, 244), (113, 264), (114, 206), (115, 244), (116, 264), (117, 264), (118, 264), (119, 188), (120, 244), (121, 188)] 264 (vch n t pl) = 244 := by rcases gX with q | q | q | q <;> rw [q] <;> rfl
                rw [e]
                obtain ⟨e5, d5, rfl, ih⟩ := hb (by unfold vhb; omega)
                rw [show vpn n t D (some (vex n t D e5)) pl = vpc n t (vex n t D e5) (vch n t pl) (pl + 1) by unfold vpn; dsimp only; rw [if_neg (by omega), if_neg nB, if_neg gU, if_neg gP, if_neg gN, if_pos gX]] at kN kS
                refine r_aload c41_244 rfl (r_dup c41_245 rfl (r_get c41_246 ho rfl (r_ci c41_249 (r_iadd c41_250 ?_))))
                refine r_put c41_251 ho hlo rfl ⟨rfl, rfl⟩ (fun h2 s2 => ?_)
                rw [vsu] at s2
                have hP2 := vPx_pl hP (vRo_st s2) (vFr_st s2)
                have ho2 := hP2.1
                unfold vRo at ho2
                refine r_aload c41_254 rfl (r_iload c41_255 rfl (r_iload c41_257 rfl (r_aload c41_258 rfl (r_aload c41_259 rfl ?_))))
                refine r_iv4 c41_260 vr_46 ho2 rfl (k_changed hP2 d5 ih (next 0 (by omega)) gX (fun e1 h3 hP3 f3 => ?_) (fun S e1 h3 hP3 hS3 f3 => ?_))
                · dsimp only [vpush]
                  refine r_zret (st := []) c41_263 (by omega) ?_
                  exact kN e1 h3 hP3 (vFr_tr (vXf_r (vFr_st s2)) f3)
                · dsimp only [vpush]
                  refine r_zret (st := []) c41_263 (by omega) ?_
                  exact kS S e1 h3 hP3 hS3 (vFr_tr (vXf_r (vFr_st s2)) f3)
              · have e : vfd [(98, 244), (99, 264), (100, 188), (101, 206), (102, 264), (103, 264), (104, 264), (105, 264), (106, 264), (107, 264), (108, 224), (109, 188), (110, 224), (111, 264), (112, 244), (113, 264), (114, 206), (115, 244), (116, 264), (117, 264), (118, 264), (119, 188), (120, 244), (121, 188)] 264 (vch n t pl) = 264 := by
                  generalize vch n t pl = c at gU gP gN gX
                  have a1 : ¬ c = 119 := by omega
                  have a2 : ¬ c = 100 := by omega
                  have a3 : ¬ c = 109 := by omega
                  have a4 : ¬ c = 121 := by omega
                  have a5 : ¬ c = 101 := by omega
                  have a6 : ¬ c = 114 := by omega
                  have a7 : ¬ c = 110 := by omega
                  have a8 : ¬ c = 108 := by omega
                  have a9 : ¬ c = 115 := by omega
                  have b1 : ¬ c = 98 := by omega
                  have b2 : ¬ c = 112 := by omega
                  have b3 : ¬ c = 120 := by omega
                  simp only [vfd, if_neg a1, if_neg a2, if_neg a3, if_neg a4, if_neg a5, if_neg a6, if_neg a7, if_neg a8, if_neg a9, if_neg b1, if_neg b2, if_neg b3, ite_self]
                rw [e]
                rw [vpn_0 (by unfold vhb; omega) nB gU gP] at kN
                refine r_ci c41_264 ?_
                refine r_zret (st := []) c41_265 (by omega) ?_
                exact kN rfl h hP vFr_rf
      refine r_iclt c41_40 (by omega) (by omega) (by omega) (by omega) (fun c_40 => ?_) (fun c_40 => ?_)
      · exact from76 (by omega)
      · refine r_iload c41_43 rfl (r_ci c41_45 ?_)
        refine r_icgt c41_47 (by omega) (by omega) (by omega) (by omega) (fun c_47 => ?_) (fun c_47 => ?_)
        · exact from76 (by omega)
        · rw [vpn_B ⟨c_40, c_47⟩] at kS
          obtain ⟨⟨p, p1, p2⟩, p3⟩ := hP.2.2.2.1
          refine r_aload c41_50 rfl (r_dup c41_51 rfl (r_get c41_52 ho rfl (r_ci c41_55 (r_iadd c41_56 ?_))))
          refine r_put c41_57 ho hlo rfl ⟨rfl, rfl⟩ (fun h2 s2 => ?_)
          rw [vsu] at s2
          have hP2 := vPx_pl hP (vRo_st s2) (vFr_st s2)
          obtain ⟨⟨p, p1, p2⟩, p3⟩ := hP2.2.2.2.1
          obtain ⟨⟨fs, f1, f2⟩, f3⟩ := p3 (vch n t pl - 65).toNat (by omega)
          have hS2 := vDy_fr hS0 (vFr_st s2) (by omega) (by omega)
          refine r_aload c41_60 rfl (r_aload c41_61 rfl (r_iload c41_62 rfl (r_ci c41_64 (r_isub c41_66 (r_aald c41_67 p1 (by omega) (by omega) (by omega) (p2 _ (by omega)) ?_)))))
          refine r_get c41_68 f1 f2 ?_
          refine r_iv1 c41_71 vr_5 hS2.1 rfl (k_become hS2 f3 (by have := hP2.2.2.2.2.2.1; omega) (fun h3 hS3 g3 => ?_))
          dsimp only [vpush]
          refine r_ci c41_74 ?_
          refine r_zret (st := []) c41_75 (by omega) ?_
          exact kS _ rfl h3 (vPx_dy hP2 (by omega) hS3 g3) hS3 (vFr_tr (vXf_r (vFr_st s2)) (vXf_j (dep := dep) (j := 3 * dep + 2) (by omega) (by omega) g3))
    · obtain ⟨e5, d5, rfl, ih⟩ := hb (by unfold vhb; omega)
      rw [show vpn n t D (some (vex n t D e5)) pl = vbr n t (vex n t D e5) pl by unfold vpn; dsimp only; rw [if_pos c_25]] at kN kS
      refine r_aload c41_28 rfl (r_iload c41_29 rfl (r_aload c41_30 rfl (r_aload c41_31 rfl ?_)))
      refine r_iv3 c41_32 vr_47 ho rfl (k_inner (d := d + 1) hP d5 ih hpl (fun e1 h3 hP3 f3 => ?_) (fun S e1 h3 hP3 hS3 f3 => ?_))
      · dsimp only [vpush]
        refine r_zret (st := []) c41_35 (by omega) ?_
        exact kN e1 h3 hP3 f3
      · dsimp only [vpush]
        refine r_zret (st := []) c41_35 (by omega) ?_
        exact kS S e1 h3 hP3 hS3 f3
  refine vin 5 [_, _, _, _, _] ml_41 rfl rfl ?_
  refine r_aload c41_0 rfl ?_
  refine r_iv0 c41_1 vr_36 ho rfl (k_here hP.1 hP.2.1.1 hT (by omega) ?_)
  dsimp only [vpush]
  refine r_istore c41_4 rfl (r_iload c41_6 rfl (r_ci c41_7 ?_))
  try dsimp only [vst]
  refine r_iclt c41_8 (by omega) (by omega) (by omega) (by omega) (fun c_8 => ?_) (fun c_8 => ?_)
  · refine from21 (fun _ => ?_)
    rcases hf with hf | hf
    · omega
    · exact hf
  · rcases hf with hf | ⟨e, he, -⟩
    · obtain ⟨hf1, rfl⟩ := hf
      refine r_iload c41_11 rfl ?_
      refine r_is1 c41_13 vr_42 rfl (k_hasBracket (by omega) (by omega) (fun q => ?_) (fun q => ?_))
      · dsimp only [vpush]
        rw [vpn_N q] at kN
        refine r_ifeq c41_16 (by omega) (by omega) (fun q => by exfalso; omega) (fun c_16 => ?_)
        refine r_ci c41_19 ?_
        refine r_zret (st := []) c41_20 (by omega) ?_
        exact kN rfl h hP vFr_rf
      · dsimp only [vpush]
        refine r_ifeq c41_16 (by omega) (by omega) (fun c_16 => ?_) (fun q => by exfalso; omega)
        exact from21 (fun q2 => absurd q2 q)
    · omega
theorem k_factor {r n pl pr : Nat} {t : Nat → Int} {pa : Nat → Nat} {D : Nat → vSt1} {d dep : Nat} {f : Option (Nat → vPr)} {h : vHp} {Q : vQ} (hP : vPx h r n t pr pa D pl) (hd5 : dep ≤ 5) (hf : (dep = 5 ∧ f = none) ∨ ∃ e, dep + 1 + e = 5 ∧ f = some (vex n t D e) ∧ vKs (d + 4) r n t pr pa D (dep + 1) e) (hpl : pl ≤ n) (kN : (vpf n t D f pl).2 = none → ∀ h', vPx h' r n t pr pa D (vpf n t D f pl).1 → vFr (vXf r dep) h h' → Q (some .null) h') (kS : ∀ S, (vpf n t D f pl).2 = some S → ∀ h', vPx h' r n t pr pa D (vpf n t D f pl).1 → vDy h' (r + 5 + 2 * (3 * dep + 2)) S → vFr (vXf r dep) h h' → Q (some (.ref (r + 5 + 2 * (3 * dep + 2)))) h') : vCall (d + 8) 0 0 40 [.ref r, .int (iI (dep : Int)), .ref pr] h Q := by
  have ho := hP.1
  unfold vRo at ho
  have hT := hP.2.2.2.2.2.2.1
  have hn := hT.1
  obtain ⟨-, -, -, p, p1, p2⟩ := hP.2.1
  refine vin 5 [_, _, _, _, _] ml_40 rfl rfl ?_
  refine r_aload c40_0 rfl (r_get c40_1 ho rfl (r_iload c40_4 rfl (r_aald c40_5 p1 (by omega) (by omega) (by omega) (by rw [Int.toNat_natCast]; exact p2 dep (by omega)) (r_astore c40_6 rfl (r_aload c40_7 rfl (r_ci c40_8 ?_))))))
  try dsimp only [vst]
  unfold vpf at kN kS
  refine r_iv1 c40_10 vr_37 ho rfl (k_take hP.1 hP.2.1.1 hT (by omega) hP.2.2.2.2.2.1 (by omega) (by omega) (fun q h1 ho1 f1 => ?_) (fun q => ?_))
  · dsimp only [vpush]
    rw [if_pos q] at kN kS
    have hl := vch_lt (n := n) (t := t) (p := pl) (by omega)
    have hP1 := vPx_pl hP ho1 f1
    have ho1' := ho1
    unfold vRo at ho1'
    unfold vth at kN kS
    refine r_istore c40_13 rfl (r_aload c40_15 rfl (r_iload c40_16 rfl (r_aload c40_17 rfl (r_aload c40_18 rfl ?_))))
    try dsimp only [vst]
    refine r_iv3 c40_19 vr_41 ho1' rfl (k_plain (pl := pl + 1) hP1 hd5 hf hl (fun e1 h2 hP2 f2 => ?_) (fun S e1 h2 hP2 hS2 f2 => ?_))
    · dsimp only [vpush]
      rw [e1] at kN
      refine r_ifne c40_22 (by omega) (by omega) (fun q => by exfalso; omega) (fun c_22 => ?_)
      refine r_null c40_25 ?_
      refine r_aretN (st := []) c40_26 ?_
      exact kN rfl h2 hP2 (vFr_tr (vXf_r f1) f2)
    · dsimp only [vpush]
      rw [e1] at kS
      refine r_ifne c40_22 (by omega) (by omega) (fun c_22 => ?_) (fun q => by exfalso; omega)
      refine r_iload c40_27 rfl ?_
      refine r_ifeq c40_29 (by omega) (by omega) (fun q => by exfalso; omega) (fun c_29 => ?_)
      refine r_aload c40_32 rfl ?_
      refine r_iv0 c40_33 vr_9 hS2.1 rfl (k_invert hS2 (by have := hP2.2.2.2.2.2.1; omega) (fun h3 hS3 f3 => ?_))
      dsimp only [vpush]
      refine r_aload c40_36 rfl ?_
      refine r_aret (st := []) c40_37 ?_
      exact kS _ rfl h3 (vPx_dy hP2 (by omega) hS3 f3) hS3 (vFr_tr (vFr_tr (vXf_r f1) f2) (vXf_j (dep := dep) (j := 3 * dep + 2) (by omega) (by omega) f3))
  · dsimp only [vpush]
    rw [if_neg q] at kN kS
    refine r_istore c40_13 rfl (r_aload c40_15 rfl (r_iload c40_16 rfl (r_aload c40_17 rfl (r_aload c40_18 rfl ?_))))
    try dsimp only [vst]
    refine r_iv3 c40_19 vr_41 ho rfl (k_plain hP hd5 hf hpl (fun e1 h2 hP2 f2 => ?_) (fun S e1 h2 hP2 hS2 f2 => ?_))
    · dsimp only [vpush]
      refine r_ifne c40_22 (by omega) (by omega) (fun q => by exfalso; omega) (fun c_22 => ?_)
      refine r_null c40_25 ?_
      refine r_aretN (st := []) c40_26 ?_
      exact kN e1 h2 hP2 f2
    · dsimp only [vpush]
      refine r_ifne c40_22 (by omega) (by omega) (fun c_22 => ?_) (fun q => by exfalso; omega)
      refine r_iload c40_27 rfl ?_
      refine r_ifeq c40_29 (by omega) (by omega) (fun c_29 => ?_) (fun q => by exfalso; omega)
      refine r_aload c40_36 rfl ?_
      refine r_aret (st := []) c40_37 ?_
      exact kS S e1 h2 hP2 hS2 f2

