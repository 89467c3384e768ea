theorem ml_124 : vml 124 = 9 := by decide +kernel
theorem vr_104 : vrc 104 = some (6, 1) := by decide +kernel
theorem c124_0 : vlk 124 0 = some (6, 0, 0, 0, 1) := by decide +kernel
theorem c124_1 : vlk 124 1 = some (34, 0, 0, 0, 2) := by decide +kernel
theorem c124_2 : vlk 124 2 = some (42, 6, 11, 0, 5) := by decide +kernel
theorem c124_5 : vlk 124 5 = some (1, 0, 0, 1, 6) := by decide +kernel
theorem c124_6 : vlk 124 6 = some (11, 0, 0, 0, 7) := by decide +kernel
theorem c124_7 : vlk 124 7 = some (43, 6, 11, 0, 10) := by decide +kernel
theorem c124_10 : vlk 124 10 = some (6, 0, 0, 0, 11) := by decide +kernel
theorem c124_11 : vlk 124 11 = some (4, 1, 0, 0, 12) := by decide +kernel
theorem c124_12 : vlk 124 12 = some (1, 0, 0, 120, 14) := by decide +kernel
theorem c124_14 : vlk 124 14 = some (77, 21, 0, 0, 17) := by decide +kernel
theorem c124_17 : vlk 124 17 = some (1, 0, 0, 0, 18) := by decide +kernel
theorem c124_18 : vlk 124 18 = some (37, 22, 0, 0, 21) := by decide +kernel
theorem c124_21 : vlk 124 21 = some (1, 0, 0, 1, 22) := by decide +kernel
theorem c124_22 : vlk 124 22 = some (4, 1, 0, 0, 23) := by decide +kernel
theorem c124_23 : vlk 124 23 = some (1, 0, 0, 112, 25) := by decide +kernel
theorem c124_25 : vlk 124 25 = some (77, 33, 0, 0, 28) := by decide +kernel
theorem c124_28 : vlk 124 28 = some (1, 0, 0, 99, 30) := by decide +kernel
theorem c124_30 : vlk 124 30 = some (37, 36, 0, 0, 33) := by decide +kernel
theorem c124_33 : vlk 124 33 = some (1, 0, 0, 719, 36) := by decide +kernel
theorem c124_36 : vlk 124 36 = some (58, 113, 0, 0, 39) := by decide +kernel
theorem c124_39 : vlk 124 39 = some (7, 3, 0, 0, 40) := by decide +kernel
theorem c124_40 : vlk 124 40 = some (6, 0, 0, 0, 41) := by decide +kernel
theorem c124_41 : vlk 124 41 = some (4, 2, 0, 0, 42) := by decide +kernel
theorem c124_42 : vlk 124 42 = some (58, 117, 0, 0, 45) := by decide +kernel
theorem c124_45 : vlk 124 45 = some (7, 4, 0, 0, 47) := by decide +kernel
theorem c124_47 : vlk 124 47 = some (6, 0, 0, 0, 48) := by decide +kernel
theorem c124_48 : vlk 124 48 = some (58, 114, 0, 0, 51) := by decide +kernel
theorem c124_51 : vlk 124 51 = some (7, 5, 0, 0, 53) := by decide +kernel
theorem c124_53 : vlk 124 53 = some (1, 0, 0, 0, 54) := by decide +kernel
theorem c124_54 : vlk 124 54 = some (7, 6, 0, 0, 56) := by decide +kernel
theorem c124_56 : vlk 124 56 = some (1, 0, 0, 0, 57) := by decide +kernel
theorem c124_57 : vlk 124 57 = some (7, 7, 0, 0, 59) := by decide +kernel
theorem c124_59 : vlk 124 59 = some (4, 7, 0, 0, 61) := by decide +kernel
theorem c124_61 : vlk 124 61 = some (1, 0, 0, 720, 64) := by decide +kernel
theorem c124_64 : vlk 124 64 = some (79, 225, 0, 0, 67) := by decide +kernel
theorem c124_67 : vlk 124 67 = some (6, 0, 0, 0, 68) := by decide +kernel
theorem c124_68 : vlk 124 68 = some (42, 6, 12, 0, 71) := by decide +kernel
theorem c124_74 : vlk 124 74 = some (4, 1, 0, 0, 75) := by decide +kernel
theorem c124_75 : vlk 124 75 = some (1, 0, 0, 115, 77) := by decide +kernel
theorem c124_77 : vlk 124 77 = some (77, 87, 0, 0, 80) := by decide +kernel
theorem c124_80 : vlk 124 80 = some (4, 7, 0, 0, 82) := by decide +kernel
theorem c124_82 : vlk 124 82 = some (4, 3, 0, 0, 83) := by decide +kernel
theorem c124_83 : vlk 124 83 = some (12, 0, 0, 0, 84) := by decide +kernel
theorem c124_84 : vlk 124 84 = some (37, 91, 0, 0, 87) := by decide +kernel
theorem c124_87 : vlk 124 87 = some (4, 7, 0, 0, 89) := by decide +kernel
theorem c124_89 : vlk 124 89 = some (4, 3, 0, 0, 90) := by decide +kernel
theorem c124_90 : vlk 124 90 = some (11, 0, 0, 0, 91) := by decide +kernel
theorem c124_91 : vlk 124 91 = some (7, 8, 0, 0, 93) := by decide +kernel
theorem c124_93 : vlk 124 93 = some (4, 6, 0, 0, 95) := by decide +kernel
theorem c124_95 : vlk 124 95 = some (6, 0, 0, 0, 96) := by decide +kernel
theorem c124_96 : vlk 124 96 = some (42, 6, 13, 0, 99) := by decide +kernel
theorem c124_99 : vlk 124 99 = some (4, 4, 0, 0, 101) := by decide +kernel
theorem c124_101 : vlk 124 101 = some (4, 7, 0, 0, 103) := by decide +kernel
theorem c124_103 : vlk 124 103 = some (11, 0, 0, 0, 104) := by decide +kernel
theorem c124_104 : vlk 124 104 = some (47, 0, 0, 0, 105) := by decide +kernel
theorem c124_108 : vlk 124 108 = some (1, 0, 0, 1, 109) := by decide +kernel
theorem c124_109 : vlk 124 109 = some (37, 113, 0, 0, 112) := by decide +kernel
theorem c124_112 : vlk 124 112 = some (1, 0, 0, 0, 113) := by decide +kernel
theorem c124_113 : vlk 124 113 = some (11, 0, 0, 0, 114) := by decide +kernel
theorem c124_114 : vlk 124 114 = some (7, 6, 0, 0, 116) := by decide +kernel
theorem c124_116 : vlk 124 116 = some (4, 1, 0, 0, 117) := by decide +kernel
theorem c124_117 : vlk 124 117 = some (1, 0, 0, 115, 119) := by decide +kernel
theorem c124_119 : vlk 124 119 = some (76, 128, 0, 0, 122) := by decide +kernel
theorem c124_122 : vlk 124 122 = some (4, 1, 0, 0, 123) := by decide +kernel
theorem c124_123 : vlk 124 123 = some (1, 0, 0, 98, 125) := by decide +kernel
theorem c124_125 : vlk 124 125 = some (77, 167, 0, 0, 128) := by decide +kernel
theorem c124_128 : vlk 124 128 = some (6, 0, 0, 0, 129) := by decide +kernel
theorem c124_129 : vlk 124 129 = some (42, 6, 13, 0, 132) := by decide +kernel
theorem c124_132 : vlk 124 132 = some (4, 5, 0, 0, 134) := by decide +kernel
theorem c124_134 : vlk 124 134 = some (4, 7, 0, 0, 136) := by decide +kernel
theorem c124_136 : vlk 124 136 = some (11, 0, 0, 0, 137) := by decide +kernel
theorem c124_137 : vlk 124 137 = some (4, 8, 0, 0, 139) := by decide +kernel
theorem c124_139 : vlk 124 139 = some (59, 104, 0, 0, 142) := by decide +kernel
theorem c124_142 : vlk 124 142 = some (70, 162, 0, 0, 145) := by decide +kernel
theorem c124_145 : vlk 124 145 = some (6, 0, 0, 0, 146) := by decide +kernel
theorem c124_146 : vlk 124 146 = some (42, 6, 13, 0, 149) := by decide +kernel
theorem c124_149 : vlk 124 149 = some (4, 4, 0, 0, 151) := by decide +kernel
theorem c124_151 : vlk 124 151 = some (4, 8, 0, 0, 153) := by decide +kernel
theorem c124_153 : vlk 124 153 = some (11, 0, 0, 0, 154) := by decide +kernel
theorem c124_154 : vlk 124 154 = some (47, 0, 0, 0, 155) := by decide +kernel
theorem c124_158 : vlk 124 158 = some (1, 0, 0, 1, 159) := by decide +kernel
theorem c124_159 : vlk 124 159 = some (37, 163, 0, 0, 162) := by decide +kernel
theorem c124_162 : vlk 124 162 = some (1, 0, 0, 0, 163) := by decide +kernel
theorem c124_163 : vlk 124 163 = some (51, 0, 0, 0, 164) := by decide +kernel
theorem c124_164 : vlk 124 164 = some (37, 219, 0, 0, 167) := by decide +kernel
theorem c124_167 : vlk 124 167 = some (6, 0, 0, 0, 168) := by decide +kernel
theorem c124_168 : vlk 124 168 = some (42, 6, 13, 0, 171) := by decide +kernel
theorem c124_171 : vlk 124 171 = some (4, 5, 0, 0, 173) := by decide +kernel
theorem c124_173 : vlk 124 173 = some (4, 7, 0, 0, 175) := by decide +kernel
theorem c124_175 : vlk 124 175 = some (11, 0, 0, 0, 176) := by decide +kernel
theorem c124_176 : vlk 124 176 = some (6, 0, 0, 0, 177) := by decide +kernel
theorem c124_177 : vlk 124 177 = some (42, 6, 13, 0, 180) := by decide +kernel
theorem c124_180 : vlk 124 180 = some (4, 4, 0, 0, 182) := by decide +kernel
theorem c124_182 : vlk 124 182 = some (4, 7, 0, 0, 184) := by decide +kernel
theorem c124_184 : vlk 124 184 = some (11, 0, 0, 0, 185) := by decide +kernel
theorem c124_185 : vlk 124 185 = some (47, 0, 0, 0, 186) := by decide +kernel
theorem c124_189 : vlk 124 189 = some (4, 1, 0, 0, 190) := by decide +kernel
theorem c124_190 : vlk 124 190 = some (1, 0, 0, 112, 192) := by decide +kernel
theorem c124_192 : vlk 124 192 = some (77, 205, 0, 0, 195) := by decide +kernel
theorem c124_195 : vlk 124 195 = some (4, 6, 0, 0, 197) := by decide +kernel
theorem c124_197 : vlk 124 197 = some (4, 3, 0, 0, 198) := by decide +kernel
theorem c124_198 : vlk 124 198 = some (15, 0, 0, 0, 199) := by decide +kernel
theorem c124_199 : vlk 124 199 = some (71, 217, 0, 0, 202) := by decide +kernel
theorem c124_202 : vlk 124 202 = some (37, 213, 0, 0, 205) := by decide +kernel
theorem c124_205 : vlk 124 205 = some (4, 6, 0, 0, 207) := by decide +kernel
theorem c124_207 : vlk 124 207 = some (4, 3, 0, 0, 208) := by decide +kernel
theorem c124_208 : vlk 124 208 = some (1, 0, 0, 1, 209) := by decide +kernel
theorem c124_209 : vlk 124 209 = some (11, 0, 0, 0, 210) := by decide +kernel
theorem c124_210 : vlk 124 210 = some (76, 217, 0, 0, 213) := by decide +kernel
theorem c124_213 : vlk 124 213 = some (1, 0, 0, 1, 214) := by decide +kernel
theorem c124_214 : vlk 124 214 = some (37, 218, 0, 0, 217) := by decide +kernel
theorem c124_217 : vlk 124 217 = some (1, 0, 0, 0, 218) := by decide +kernel
theorem c124_218 : vlk 124 218 = some (51, 0, 0, 0, 219) := by decide +kernel
theorem c124_219 : vlk 124 219 = some (10, 7, 0, 1, 222) := by decide +kernel
theorem c124_222 : vlk 124 222 = some (37, 59, 0, 0, 225) := by decide +kernel
theorem c124_225 : vlk 124 225 = some (6, 0, 0, 0, 226) := by decide +kernel
theorem c124_226 : vlk 124 226 = some (4, 5, 0, 0, 228) := by decide +kernel
theorem c124_228 : vlk 124 228 = some (4, 4, 0, 0, 230) := by decide +kernel
theorem c124_230 : vlk 124 230 = some (58, 123, 0, 0, 233) := by decide +kernel
theorem c124_233 : vlk 124 233 = some (63, 0, 0, 0, 234) := by decide +kernel
/-! the reference's reading: later, earlier, each so many, all but one -/
def vmw (ch : Int) (k : Int) (S : vSt1) (e : Nat) : Bool := if ch = 115 then decide (0 ≤ (e : Int) - k ∧ (e : Int) - k < 720) && S ((e : Int) - k).toNat else if ch = 98 then decide (0 ≤ (e : Int) + k ∧ (e : Int) + k < 720) && S ((e : Int) + k).toNat else S e && (if ch = 112 then decide (vcn S 0 (e + 1) % k.toNat = 0) else !decide (((vcn S 0 (e + 1) : Nat) : Int) = k + 1))
theorem vmw_cs {ch k : Int} {S : vSt1} {e : Nat} (hk : 0 ≤ k) (he : e < 720) : vmw ch k S e = vcs ch k S e := by
  unfold vmw vcs
  split
  · unfold vmv; rfl
  · split
    · unfold vmv
      rw [show (e : Int) - -k = (e : Int) + k by omega]
      rfl
    · split
      · unfold vnt
        rw [decide_eq_true he, Bool.true_and]
      · exact vblk_n hk he
theorem k_mwho {d c dep mx : Nat} {ch : Int} {X : vMX} {f : Nat → vPr} (hB : vKm (d + 4) 117 [.int (iI (dep : Int))] c X mx (vbr X.2.1 X.2.2.1 f)) (hmx : 2 ≤ mx) (hc : ch = 115 ∨ ch = 98 ∨ ch = 112 ∨ ch = 120) : vKw (d + 5) 124 [.int (iI ch), .int (iI (dep : Int))] c X mx (vpc X.2.1 X.2.2.1 f ch) := by
  intro h a tp G Q hM ha ht k
  have ho := hM.1
  have rg := vnm_rg (n := X.2.1) (t := X.2.2.1) (lo := (if ch = 120 then 0 else 1)) (hi := vmo ch) (p := a + 1) ha
  have er : vpc X.2.1 X.2.2.1 f ch (a + 1) = _ := rfl
  conv at er => rhs; unfold vpc
  have hlo : (if ch = 120 then (0 : Int) else 1) = 0 ∧ ch = 120 ∨ (if ch = 120 then (0 : Int) else 1) = 1 ∧ ch ≠ 120 := by
    by_cases q : ch = 120
    · exact Or.inl ⟨if_pos q, q⟩
    · exact Or.inr ⟨if_neg q, q⟩
  have hmo : vmo ch = 99 ∨ vmo ch = 719 := by rcases hc with rfl | rfl | rfl | rfl <;> decide
  generalize (if ch = 120 then (0 : Int) else 1) = lo at *
  have main : ∀ (h1 : vHp) (x3 x4 x5 x6 x7 x8 : Value), vRp h1 c X (a + 1) true tp G → vFr (vZp c) h h1 → vW (vCall (d + 4)) 124 Q 36 [.ref c, .int (iI ch), .int (iI (dep : Int)), x3, x4, x5, x6, x7, x8] [.int (iI (vmo ch)), .int (iI lo), .ref c] h1 0 0 := by
    intro h1 x3 x4 x5 x6 x7 x8 hM1 f1
    refine r_iv2 c124_36 vr_113 hM1.1 rfl (k_mnum hM1 ha (by omega) (by omega) (by omega) (by omega) (fun h2 v w2 hM2 e2 e3 v1 v2 f2 => ?_))
    dsimp only [vpush]
    rw [if_pos rfl] at hM2
    rw [Bool.true_and] at e2
    generalize hz : vnm X.2.1 X.2.2.1 lo (vmo ch) (a + 1) = z at *
    generalize hr : vpc X.2.1 X.2.2.1 f ch (a + 1) = r at *
    have fin : ∀ (a2 : Nat) (w3 : Bool) (G4 : Nat → Bool) (h4 : vHp) (x6 x7 x8 : Value), a2 ≤ X.2.1 → vRp h4 c X a2 w3 (tp + 1 + 1) G4 → vpre G G4 (720 * tp) → vFr (vZp c) h h4 → (w3 = false → r = (a2, none)) → (w3 = true → ∃ R, r = (a2, some R) ∧ ∀ e, e < 720 → G4 (720 * (tp + 1) + e) = R e) → vW (vCall (d + 4)) 124 Q 225 [.ref c, .int (iI ch), .int (iI (dep : Int)), .int (iI v), .int (iI ((720 * tp : Nat) : Int)), .int (iI ((720 * (tp + 1) : Nat) : Int)), x6, x7, x8] [] h4 0 0 := by
      intro a2 w3 G4 h4 x6 x7 x8 ha2 hM4 p4 f4 c1 c2
      refine r_aload c124_225 rfl (r_iload c124_226 rfl (r_iload c124_228 rfl ?_))
      refine r_iv2 c124_230 vr_123 hM4.1 rfl (k_over hM4 (t0 := tp) (t1 := tp + 1) (by omega) (by omega) (fun h5 G5 hM5 hf f5 => ?_))
      dsimp only [vpush]
      refine r_iret (st := []) c124_233 ?_
      refine k h5 a2 w3 G5 hM5 ha2 (vpre_tr p4 (vfil_pre hf) (Nat.le_refl _)) ?_ (vFr_tr f4 f5)
      cases w3
      · exact vrs_no (fun q => by cases q) (fun _ => c1 rfl)
      · obtain ⟨R, r1, r2⟩ := c2 rfl
        rw [r1]
        exact ⟨fun q => (by cases q), fun _ => ⟨rfl, fun q => (by cases q), fun _ => ⟨R, rfl, fun e he => by rw [hf.1 e he]; exact r2 e he⟩⟩⟩
    refine r_istore c124_39 rfl (r_aload c124_40 rfl (r_iload c124_41 rfl ?_))
    try dsimp only [vst]
    refine r_iv1 c124_42 vr_117 hM2.1 rfl (hB h2 _ _ _ _ _ hM2 (by omega) ht (fun h4 a2 w3 G4 hM4 ha2 p4 r4 f4 => ?_))
    dsimp only [vpush]
    refine r_istore c124_45 rfl (r_aload c124_47 rfl ?_)
    try dsimp only [vst]
    refine r_iv0 c124_48 vr_114 hM4.1 rfl (k_fresh hM4 (by omega) (fun h5 G5 hM5 p5 f5 => ?_))
    dsimp only [vpush]
    have p45 : vpre G G5 (720 * tp) := vpre_tr p4 p5 (by omega)
    have f35 := vFr_tr f1 (vFr_tr f2 (vFr_tr f4 f5))
    refine r_istore c124_51 rfl (r_ci c124_53 (r_istore c124_54 rfl (r_ci c124_56 (r_istore c124_57 rfl ?_))))
    try dsimp only [vst]
    cases w3
    · have g := fin a2 false G5 h5 (.int (iI 0)) (.int (iI 0)) x8 ha2 hM5 p45 f35 (fun _ => by
        cases w2
        · rw [er, if_pos (by simpa using e2.symm), (r4.1 rfl).1]
        · rw [er, if_neg (by simpa using e2.symm), vth_none ((r4.2 rfl).2.1 rfl), (r4.2 rfl).1]) (fun q => by cases q)
      refine r_iload c124_59 rfl (r_ci c124_61 ?_)
      refine r_icge c124_64 (by omega) (by omega) (by omega) (by omega) (fun q => by exfalso; omega) (fun c_64 => ?_)
      refine r_aload c124_67 rfl (r_get c124_68 hM5.1 rfl ?_)
      refine vife (by decide +kernel : vlk 124 71 = some (70, 225, 0, 0, 74)) (fun _ => ?_) (fun b => by cases b)
      exact g
    · have hw2 : w2 = true := by
        cases w2
        · exact absurd (r4.1 rfl).2 (by decide)
        · rfl
      subst hw2
      have e2' : ¬ z.2 = -1 := by simpa using e2.symm
      have e3' := e3 rfl
      obtain ⟨q1, q2, q3⟩ := r4.2 rfl
      obtain ⟨S, t1, t2⟩ := q3 rfl
      have row : ∀ e, e < 720 → G5 (720 * tp + e) = S e := fun e he => (p5 _ (by omega)).trans (t2 e he)
      have b5 : r = (a2, some (vcs ch v S)) := by rw [er, if_neg e2', vth_some t1, ← q1, ← e3']
      obtain ⟨m, rfl⟩ := Int.eq_ofNat_of_zero_le v1
      have hm9 : m ≤ 719 := by omega
      have hm1 : ch = 112 → 1 ≤ m := fun q => by omega
      have outer : ∀ u i : Nat, i + u = 720 → ∀ (h6 : vHp) (G6 : Nat → Bool) (x8 : Value), vRp h6 c X a2 true (tp + 1 + 1) G6 → vfil G5 G6 (720 * (tp + 1)) (vmw ch (m : Int) S) i → vFr (vZp c) h h6 → vW (vCall (d + 4)) 124 Q 59 [.ref c, .int (iI ch), .int (iI (dep : Int)), .int (iI (m : Int)), .int (iI ((720 * tp : Nat) : Int)), .int (iI ((720 * (tp + 1) : Nat) : Int)), .int (iI ((vcn S 0 i : Nat) : Int)), .int (iI (i : Int)), x8] [] h6 0 0 := by
        intro u
        induction u with
        | zero =>
          intro i hi h6 G6 x8 hM6 hf f6
          obtain rfl : i = 720 := by omega
          refine r_iload c124_59 rfl (r_ci c124_61 ?_)
          refine r_icge c124_64 (by omega) (by omega) (by omega) (by omega) (fun c_64 => ?_) (fun q => by exfalso; omega)
          exact fin a2 true G6 h6 _ _ _ ha2 hM6 (vpre_tr p45 (vfil_pre hf) (by omega)) f6 (fun q => by cases q) (fun _ => ⟨_, b5, fun e he => by rw [hf.1 e he]; exact vmw_cs (by omega) he⟩)
        | succ u ih =>
          intro i hi h6 G6 x8 hM6 hf f6
          obtain ⟨g, g1, g2⟩ := hM6.2.1
          have row6 : ∀ e, e < 720 → G6 (720 * tp + e) = S e := fun e he => (hf.2 _ (Or.inl (by omega))).trans (row e he)
          have cl := vcn_le S 0 i
          have cs : vcn S 0 (i + 1) = vcn S 0 i + (if S i = true then 1 else 0) := by
            show vcn S 0 i + (if S (0 + i) = true then 1 else 0) = _
            rw [Nat.zero_add]
          have next : ∀ (h7 : vHp) (x8 : Value) (b : Bool), b = vmw ch (m : Int) S i → vSt h6 h7 (c + 10) (.inl (2, 36000, .inl (vup g (((720 * (tp + 1) : Nat) : Int) + (i : Int)).toNat (vBi b)))) → vW (vCall (d + 4)) 124 Q 219 [.ref c, .int (iI ch), .int (iI (dep : Int)), .int (iI (m : Int)), .int (iI ((720 * tp : Nat) : Int)), .int (iI ((720 * (tp + 1) : Nat) : Int)), .int (iI ((vcn S 0 (i + 1) : Nat) : Int)), .int (iI (i : Int)), x8] [] h7 0 0 := by
            intro h7 x8 b hb s7
            refine r_iinc c124_219 rfl rfl (r_goto c124_222 ?_)
            try dsimp only [vst]
            rw [vsu]
            rw [show (((720 * (tp + 1) : Nat) : Int) + (i : Int)).toNat = 720 * (tp + 1) + i by omega] at s7
            exact ih (i + 1) (by omega) h7 _ _ (vRp_set hM6 g2 s7 rfl) (vfil_su hf hb) (vFr_tr f6 (vZp_s s7))
          have st1 : ∀ (x8 : Value) (b : Bool), b = vmw ch (m : Int) S i → vW (vCall (d + 4)) 124 Q 163 [.ref c, .int (iI ch), .int (iI (dep : Int)), .int (iI (m : Int)), .int (iI ((720 * tp : Nat) : Int)), .int (iI ((720 * (tp + 1) : Nat) : Int)), .int (iI ((vcn S 0 (i + 1) : Nat) : Int)), .int (iI (i : Int)), x8] [.int (iI (vBi b)), .int (iI (((720 * (tp + 1) : Nat) : Int) + (i : Int))), .ref (c + 10)] h6 0 0 := by
            intro x8 b hb
            refine r_bast c124_163 g1 (Nat.le_add_right_of_le hM6.2.2.2.2.1) (by omega) (by omega) (by cases b <;> decide) (fun h7 s7 => ?_)
            have := next h7 x8 b hb s7
            refine r_goto c124_164 ?_
            exact this
          have st2 : ∀ (x8 : Value) (b : Bool), b = vmw ch (m : Int) S i → vW (vCall (d + 4)) 124 Q 218 [.ref c, .int (iI ch), .int (iI (dep : Int)), .int (iI (m : Int)), .int (iI ((720 * tp : Nat) : Int)), .int (iI ((720 * (tp + 1) : Nat) : Int)), .int (iI ((vcn S 0 (i + 1) : Nat) : Int)), .int (iI (i : Int)), x8] [.int (iI (vBi b)), .int (iI (((720 * (tp + 1) : Nat) : Int) + (i : Int))), .ref (c + 10)] h6 0 0 := by
            intro x8 b hb
            refine r_bast c124_218 g1 (Nat.le_add_right_of_le hM6.2.2.2.2.1) (by omega) (by omega) (by cases b <;> decide) (fun h7 s7 => ?_)
            exact next h7 x8 b hb s7
          have moved : ∀ fr : Int, -1000 ≤ fr → fr ≤ 2000 → vmw ch (m : Int) S i = (decide (0 ≤ fr ∧ fr < 720) && S fr.toNat) → vW (vCall (d + 4)) 124 Q 128 [.ref c, .int (iI ch), .int (iI (dep : Int)), .int (iI (m : Int)), .int (iI ((720 * tp : Nat) : Int)), .int (iI ((720 * (tp + 1) : Nat) : Int)), .int (iI ((vcn S 0 (i + 1) : Nat) : Int)), .int (iI (i : Int)), .int (iI fr)] [] h6 0 0 := by
            intro fr r1 r2 hv
            refine r_aload c124_128 rfl (r_get c124_129 hM6.1 rfl (r_iload c124_132 rfl (r_iload c124_134 rfl (r_iadd c124_136 (r_iload c124_137 rfl ?_)))))
            refine r_is1 c124_139 vr_104 rfl (k_mDay (by omega) (by omega) (fun g1d g2d => ?_) (fun gd => ?_))
            · dsimp only [vpush]
              obtain ⟨y, rfl⟩ := Int.eq_ofNat_of_zero_le g1d
              rw [decide_eq_true ⟨g1d, g2d⟩, Bool.true_and, Int.toNat_natCast] at hv
              refine r_ifeq c124_142 (by omega) (by omega) (fun q => by exfalso; omega) (fun c_142 => ?_)
              refine r_aload c124_145 rfl (r_get c124_146 hM6.1 rfl (r_iload c124_149 rfl (r_iload c124_151 rfl (r_iadd c124_153 (r_bald c124_154 g1 (by omega) (by omega) ?_)))))
              rw [show (((720 * tp : Nat) : Int) + (y : Int)).toNat = 720 * tp + y by omega, g2 _ (by omega), row6 y (by omega)]
              refine vife (by decide +kernel : vlk 124 155 = some (70, 162, 0, 0, 158)) (fun b => ?_) (fun b => ?_)
              · refine r_ci c124_162 ?_
                exact st1 _ false (by rw [hv, b])
              · refine r_ci c124_158 (r_goto c124_159 ?_)
                exact st1 _ true (by rw [hv, b])
            · dsimp only [vpush]
              rw [decide_eq_false gd, Bool.false_and] at hv
              refine r_ifeq c124_142 (by omega) (by omega) (fun c_142 => ?_) (fun q => by exfalso; omega)
              refine r_ci c124_162 ?_
              exact st1 _ false hv.symm
          have rest : ∀ fr : Int, -1000 ≤ fr → fr ≤ 2000 → fr = (if ch = 115 then (i : Int) - m else (i : Int) + m) → vW (vCall (d + 4)) 124 Q 114 [.ref c, .int (iI ch), .int (iI (dep : Int)), .int (iI (m : Int)), .int (iI ((720 * tp : Nat) : Int)), .int (iI ((720 * (tp + 1) : Nat) : Int)), .int (iI ((vcn S 0 i : Nat) : Int)), .int (iI (i : Int)), .int (iI fr)] [.int (iI ((vcn S 0 (i + 1) : Nat) : Int))] h6 0 0 := by
            intro fr r1 r2 hfr
            have hvw : vmw ch (m : Int) S i = _ := rfl
            conv at hvw => rhs; unfold vmw
            refine r_istore c124_114 rfl (r_iload c124_116 rfl (r_ci c124_117 ?_))
            try dsimp only [vst]
            refine r_iceq c124_119 (by omega) (by omega) (by omega) (by omega) (fun c_119 => ?_) (fun c_119 => ?_)
            · rw [if_pos c_119] at hfr hvw
              rw [← hfr] at hvw
              exact moved fr r1 r2 hvw
            · rw [if_neg c_119] at hfr hvw
              refine r_iload c124_122 rfl (r_ci c124_123 ?_)
              refine r_icne c124_125 (by omega) (by omega) (by omega) (by omega) (fun c_125 => ?_) (fun c_125 => ?_)
              · rw [if_neg c_125] at hvw
                refine r_aload c124_167 rfl (r_get c124_168 hM6.1 rfl (r_iload c124_171 rfl (r_iload c124_173 rfl (r_iadd c124_175 (r_aload c124_176 rfl (r_get c124_177 hM6.1 rfl (r_iload c124_180 rfl (r_iload c124_182 rfl (r_iadd c124_184 (r_bald c124_185 g1 (by omega) (by omega) ?_))))))))))
                rw [show (((720 * tp : Nat) : Int) + (i : Int)).toNat = 720 * tp + i by omega, g2 _ (by omega), row6 i (by omega)]
                refine vife (by decide +kernel : vlk 124 186 = some (70, 217, 0, 0, 189)) (fun b => ?_) (fun b => ?_)
                · rw [b, Bool.false_and] at hvw
                  refine r_ci c124_217 ?_
                  exact st2 _ false hvw.symm
                · rw [b, Bool.true_and] at hvw
                  refine r_iload c124_189 rfl (r_ci c124_190 ?_)
                  refine r_icne c124_192 (by omega) (by omega) (by omega) (by omega) (fun c_192 => ?_) (fun c_192 => ?_)
                  · rw [if_neg c_192] at hvw
                    have cl1 := vcn_le S 0 (i + 1)
                    refine r_iload c124_205 rfl (r_iload c124_207 rfl (r_ci c124_208 (r_iadd c124_209 ?_)))
                    refine r_iceq c124_210 (by omega) (by omega) (by omega) (by omega) (fun c_210 => ?_) (fun c_210 => ?_)
                    · rw [decide_eq_true c_210] at hvw
                      refine r_ci c124_217 ?_
                      exact st2 _ false hvw.symm
                    · rw [decide_eq_false c_210] at hvw
                      refine r_ci c124_213 (r_goto c124_214 ?_)
                      exact st2 _ true hvw.symm
                  · rw [if_pos c_192, Int.toNat_natCast] at hvw
                    have hm1' := hm1 c_192
                    have cl1 := vcn_le S 0 (i + 1)
                    refine r_iload c124_195 rfl (r_iload c124_197 rfl (r_irem c124_198 (by omega) (by omega) (by omega) (by omega) ?_))
                    rw [show ((vcn S 0 (i + 1) : Nat) : Int) % (m : Int) = ((vcn S 0 (i + 1) % m : Nat) : Int) from (Int.natCast_emod _ _).symm]
                    have lm : vcn S 0 (i + 1) % m < m := Nat.mod_lt _ (by omega)
                    refine r_ifne c124_199 (by omega) (by omega) (fun c_199 => ?_) (fun c_199 => ?_)
                    · rw [decide_eq_false (by omega)] at hvw
                      refine r_ci c124_217 ?_
                      exact st2 _ false hvw.symm
                    · rw [decide_eq_true (by omega)] at hvw
                      refine r_goto c124_202 (r_ci c124_213 (r_goto c124_214 ?_))
                      exact st2 _ true hvw.symm
              · rw [if_pos c_125] at hvw
                rw [← hfr] at hvw
                exact moved fr r1 r2 hvw
          have cnt : ∀ fr : Int, -1000 ≤ fr → fr ≤ 2000 → fr = (if ch = 115 then (i : Int) - m else (i : Int) + m) → vW (vCall (d + 4)) 124 Q 91 [.ref c, .int (iI ch), .int (iI (dep : Int)), .int (iI (m : Int)), .int (iI ((720 * tp : Nat) : Int)), .int (iI ((720 * (tp + 1) : Nat) : Int)), .int (iI ((vcn S 0 i : Nat) : Int)), .int (iI (i : Int)), x8] [.int (iI fr)] h6 0 0 := by
            intro fr r1 r2 hfr
            have rs := rest fr r1 r2 hfr
            rw [cs] at rs
            refine r_istore c124_91 rfl (r_iload c124_93 rfl (r_aload c124_95 rfl (r_get c124_96 hM6.1 rfl (r_iload c124_99 rfl (r_iload c124_101 rfl (r_iadd c124_103 (r_bald c124_104 g1 (by omega) (by omega) ?_)))))))
            try dsimp only [vst]
            rw [show (((720 * tp : Nat) : Int) + (i : Int)).toNat = 720 * tp + i by omega, g2 _ (by omega), row6 i (by omega)]
            refine vife (by decide +kernel : vlk 124 105 = some (70, 112, 0, 0, 108)) (fun b => ?_) (fun b => ?_)
            · rw [if_neg (by rw [b]; decide)] at rs
              refine r_ci c124_112 (r_iadd c124_113 ?_)
              exact rs
            · rw [if_pos b] at rs
              refine r_ci c124_108 (r_goto c124_109 (r_iadd c124_113 ?_))
              exact rs
          refine r_iload c124_59 rfl (r_ci c124_61 ?_)
          refine r_icge c124_64 (by omega) (by omega) (by omega) (by omega) (fun q => by exfalso; omega) (fun c_64 => ?_)
          refine r_aload c124_67 rfl (r_get c124_68 hM6.1 rfl ?_)
          refine vife (by decide +kernel : vlk 124 71 = some (70, 225, 0, 0, 74)) (fun b => by cases b) (fun _ => ?_)
          refine r_iload c124_74 rfl (r_ci c124_75 ?_)
          refine r_icne c124_77 (by omega) (by omega) (by omega) (by omega) (fun c_77 => ?_) (fun c_77 => ?_)
          · refine r_iload c124_87 rfl (r_iload c124_89 rfl (r_iadd c124_90 ?_))
            exact cnt _ (by omega) (by omega) (if_neg c_77).symm
          · refine r_iload c124_80 rfl (r_iload c124_82 rfl (r_isub c124_83 (r_goto c124_84 ?_)))
            exact cnt _ (by omega) (by omega) (if_pos c_77).symm
      exact outer 720 0 rfl h5 G5 _ hM5 vfil_0 f35
  refine vin 9 [_, _, _, _, _, _, _, _, _] ml_124 rfl rfl ?_
  refine r_aload c124_0 rfl (r_dup c124_1 rfl (r_get c124_2 ho rfl (r_ci c124_5 (r_iadd c124_6 ?_))))
  refine r_put c124_7 ho hM.2.2.2.2.1 rfl ⟨rfl, rfl⟩ (fun h1 s1 => ?_)
  rw [vsu] at s1
  have hM1 := vRp_obj (a2 := a + 1) (w2 := true) (tp2 := tp) hM s1
  have g := main h1 vHole vHole vHole vHole vHole vHole hM1 (vZp_o s1)
  have two : ∀ y : Int, y = lo → vW (vCall (d + 4)) 124 Q 22 [.ref c, .int (iI ch), .int (iI (dep : Int)), vHole, vHole, vHole, vHole, vHole, vHole] [.int (iI y), .ref c] h1 0 0 := by
    intro y hy
    subst hy
    refine r_iload c124_22 rfl (r_ci c124_23 ?_)
    refine r_icne c124_25 (by omega) (by omega) (by omega) (by omega) (fun c_25 => ?_) (fun c_25 => ?_)
    · have e : vmo ch = 719 := by rcases hc with rfl | rfl | rfl | rfl <;> first | rfl | exact absurd rfl c_25
      rw [e] at g
      refine r_ci c124_33 ?_
      exact g
    · have e : vmo ch = 99 := by rw [c_25]; rfl
      rw [e] at g
      refine r_ci c124_28 (r_goto c124_30 ?_)
      exact g
  refine r_aload c124_10 rfl (r_iload c124_11 rfl (r_ci c124_12 ?_))
  refine r_icne c124_14 (by omega) (by omega) (by omega) (by omega) (fun c_14 => ?_) (fun c_14 => ?_)
  · refine r_ci c124_21 ?_
    exact two 1 (by omega)
  · refine r_ci c124_17 (r_goto c124_18 ?_)
    exact two 0 (by omega)

