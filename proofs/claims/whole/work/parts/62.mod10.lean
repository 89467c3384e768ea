theorem ml_120 : vml 120 = 7 := by decide +kernel
theorem c120_0 : vlk 120 0 = some (6, 0, 0, 0, 1) := by decide +kernel
theorem c120_1 : vlk 120 1 = some (34, 0, 0, 0, 2) := by decide +kernel
theorem c120_2 : vlk 120 2 = some (42, 6, 11, 0, 5) := by decide +kernel
theorem c120_5 : vlk 120 5 = some (1, 0, 0, 1, 6) := by decide +kernel
theorem c120_6 : vlk 120 6 = some (11, 0, 0, 0, 7) := by decide +kernel
theorem c120_7 : vlk 120 7 = some (43, 6, 11, 0, 10) := by decide +kernel
theorem c120_10 : vlk 120 10 = some (4, 1, 0, 0, 11) := by decide +kernel
theorem c120_11 : vlk 120 11 = some (1, 0, 0, 101, 13) := by decide +kernel
theorem c120_13 : vlk 120 13 = some (77, 20, 0, 0, 16) := by decide +kernel
theorem c120_16 : vlk 120 16 = some (1, 0, 0, 1, 17) := by decide +kernel
theorem c120_17 : vlk 120 17 = some (37, 21, 0, 0, 20) := by decide +kernel
theorem c120_20 : vlk 120 20 = some (1, 0, 0, 0, 21) := by decide +kernel
theorem c120_21 : vlk 120 21 = some (7, 2, 0, 0, 22) := by decide +kernel
theorem c120_22 : vlk 120 22 = some (6, 0, 0, 0, 23) := by decide +kernel
theorem c120_23 : vlk 120 23 = some (4, 2, 0, 0, 24) := by decide +kernel
theorem c120_27 : vlk 120 27 = some (1, 0, 0, 1, 28) := by decide +kernel
theorem c120_28 : vlk 120 28 = some (37, 32, 0, 0, 31) := by decide +kernel
theorem c120_31 : vlk 120 31 = some (1, 0, 0, 0, 32) := by decide +kernel
theorem c120_32 : vlk 120 32 = some (1, 0, 0, 719, 35) := by decide +kernel
theorem c120_35 : vlk 120 35 = some (58, 113, 0, 0, 38) := by decide +kernel
theorem c120_38 : vlk 120 38 = some (7, 3, 0, 0, 39) := by decide +kernel
theorem c120_39 : vlk 120 39 = some (6, 0, 0, 0, 40) := by decide +kernel
theorem c120_40 : vlk 120 40 = some (1, 0, 0, 44, 42) := by decide +kernel
theorem c120_42 : vlk 120 42 = some (58, 112, 0, 0, 45) := by decide +kernel
theorem c120_45 : vlk 120 45 = some (6, 0, 0, 0, 46) := by decide +kernel
theorem c120_46 : vlk 120 46 = some (4, 2, 0, 0, 47) := by decide +kernel
theorem c120_50 : vlk 120 50 = some (1, 0, 0, 0, 51) := by decide +kernel
theorem c120_51 : vlk 120 51 = some (37, 55, 0, 0, 54) := by decide +kernel
theorem c120_54 : vlk 120 54 = some (4, 3, 0, 0, 55) := by decide +kernel
theorem c120_55 : vlk 120 55 = some (1, 0, 0, 719, 58) := by decide +kernel
theorem c120_58 : vlk 120 58 = some (58, 113, 0, 0, 61) := by decide +kernel
theorem c120_61 : vlk 120 61 = some (7, 4, 0, 0, 63) := by decide +kernel
theorem c120_63 : vlk 120 63 = some (6, 0, 0, 0, 64) := by decide +kernel
theorem c120_64 : vlk 120 64 = some (58, 114, 0, 0, 67) := by decide +kernel
theorem c120_67 : vlk 120 67 = some (7, 5, 0, 0, 69) := by decide +kernel
theorem c120_69 : vlk 120 69 = some (1, 0, 0, 0, 70) := by decide +kernel
theorem c120_70 : vlk 120 70 = some (7, 6, 0, 0, 72) := by decide +kernel
theorem c120_72 : vlk 120 72 = some (4, 6, 0, 0, 74) := by decide +kernel
theorem c120_74 : vlk 120 74 = some (1, 0, 0, 720, 77) := by decide +kernel
theorem c120_77 : vlk 120 77 = some (79, 150, 0, 0, 80) := by decide +kernel
theorem c120_80 : vlk 120 80 = some (6, 0, 0, 0, 81) := by decide +kernel
theorem c120_81 : vlk 120 81 = some (42, 6, 12, 0, 84) := by decide +kernel
theorem c120_87 : vlk 120 87 = some (6, 0, 0, 0, 88) := by decide +kernel
theorem c120_88 : vlk 120 88 = some (42, 6, 13, 0, 91) := by decide +kernel
theorem c120_91 : vlk 120 91 = some (4, 5, 0, 0, 93) := by decide +kernel
theorem c120_93 : vlk 120 93 = some (4, 6, 0, 0, 95) := by decide +kernel
theorem c120_95 : vlk 120 95 = some (11, 0, 0, 0, 96) := by decide +kernel
theorem c120_96 : vlk 120 96 = some (4, 2, 0, 0, 97) := by decide +kernel
theorem c120_100 : vlk 120 100 = some (4, 6, 0, 0, 102) := by decide +kernel
theorem c120_102 : vlk 120 102 = some (4, 4, 0, 0, 104) := by decide +kernel
theorem c120_104 : vlk 120 104 = some (78, 121, 0, 0, 107) := by decide +kernel
theorem c120_107 : vlk 120 107 = some (4, 6, 0, 0, 109) := by decide +kernel
theorem c120_109 : vlk 120 109 = some (4, 4, 0, 0, 111) := by decide +kernel
theorem c120_111 : vlk 120 111 = some (12, 0, 0, 0, 112) := by decide +kernel
theorem c120_112 : vlk 120 112 = some (4, 3, 0, 0, 113) := by decide +kernel
theorem c120_113 : vlk 120 113 = some (15, 0, 0, 0, 114) := by decide +kernel
theorem c120_114 : vlk 120 114 = some (71, 121, 0, 0, 117) := by decide +kernel
theorem c120_117 : vlk 120 117 = some (1, 0, 0, 1, 118) := by decide +kernel
theorem c120_118 : vlk 120 118 = some (37, 143, 0, 0, 121) := by decide +kernel
theorem c120_121 : vlk 120 121 = some (1, 0, 0, 0, 122) := by decide +kernel
theorem c120_122 : vlk 120 122 = some (37, 143, 0, 0, 125) := by decide +kernel
theorem c120_125 : vlk 120 125 = some (4, 6, 0, 0, 127) := by decide +kernel
theorem c120_127 : vlk 120 127 = some (4, 3, 0, 0, 128) := by decide +kernel
theorem c120_128 : vlk 120 128 = some (78, 142, 0, 0, 131) := by decide +kernel
theorem c120_131 : vlk 120 131 = some (4, 6, 0, 0, 133) := by decide +kernel
theorem c120_133 : vlk 120 133 = some (4, 4, 0, 0, 135) := by decide +kernel
theorem c120_135 : vlk 120 135 = some (80, 142, 0, 0, 138) := by decide +kernel
theorem c120_138 : vlk 120 138 = some (1, 0, 0, 1, 139) := by decide +kernel
theorem c120_139 : vlk 120 139 = some (37, 143, 0, 0, 142) := by decide +kernel
theorem c120_142 : vlk 120 142 = some (1, 0, 0, 0, 143) := by decide +kernel
theorem c120_143 : vlk 120 143 = some (51, 0, 0, 0, 144) := by decide +kernel
theorem c120_144 : vlk 120 144 = some (10, 6, 0, 1, 147) := by decide +kernel
theorem c120_147 : vlk 120 147 = some (37, 72, 0, 0, 150) := by decide +kernel
theorem c120_150 : vlk 120 150 = some (4, 5, 0, 0, 152) := by decide +kernel
theorem c120_152 : vlk 120 152 = some (63, 0, 0, 0, 153) := by decide +kernel
/-! the reference's reading: each so many from one on, spans -/
theorem k_mstr {d c : Nat} {ch : Int} {X : vMX} (hc : ch = 101 ∨ ch = 114) : vKw (d + 4) 120 [.int (iI ch)] c X 1 (vpp X.2.1 X.2.2.1 ch) := by
  intro h a tp G Q hM ha ht k
  have ho := hM.1
  have tail : ∀ (ea : Bool) (a3 : Nat) (w3 : Bool) (va vb : Int) (h3 : vHp) (x5 x6 : Value), ea = decide (ch = 101) → a3 ≤ X.2.1 → vRp h3 c X a3 w3 tp G → vFr (vZp c) h h3 → (w3 = true → 0 ≤ va ∧ va ≤ 719 ∧ (ch = 101 → 1 ≤ va) ∧ 0 ≤ vb ∧ vb ≤ 719) → (∀ G', (w3 = true → ∀ e, e < 720 → G' (720 * tp + e) = vpq ch va.toNat vb.toNat e) → vrs (vpp X.2.1 X.2.2.1 ch (a + 1)) a true a3 w3 (720 * tp) G') → vW (vCall (d + 3)) 120 Q 63 [.ref c, .int (iI ch), .int (iI (vBi ea)), .int (iI va), .int (iI vb), x5, x6] [] h3 0 0 := by
    intro ea a3 w3 va vb h3 x5 x6 hea ha3 hM3 f3 hb hres
    refine r_aload c120_63 rfl ?_
    refine r_iv0 c120_64 vr_114 hM3.1 rfl (k_fresh hM3 (by omega) (fun h4 G4 hM4 p4 f4 => ?_))
    dsimp only [vpush]
    refine r_istore c120_67 rfl (r_ci c120_69 (r_istore c120_70 rfl ?_))
    try dsimp only [vst]
    cases w3
    · refine r_iload c120_72 rfl (r_ci c120_74 ?_)
      refine r_icge c120_77 (by omega) (by omega) (by omega) (by omega) (fun q => by exfalso; omega) (fun c_77 => ?_)
      refine r_aload c120_80 rfl (r_get c120_81 hM4.1 rfl ?_)
      refine vife (by decide +kernel : vlk 120 84 = some (70, 150, 0, 0, 87)) (fun _ => ?_) (fun b => by cases b)
      refine r_iload c120_150 rfl ?_
      refine r_iret (st := []) c120_152 ?_
      exact k h4 a3 false G4 hM4 ha3 p4 (hres G4 (fun q => by cases q)) (vFr_tr f3 f4)
    · obtain ⟨b1, b2, b3, b4, b5⟩ := hb rfl
      obtain ⟨p, rfl⟩ := Int.eq_ofNat_of_zero_le b1
      obtain ⟨q, rfl⟩ := Int.eq_ofNat_of_zero_le b4
      rw [Int.toNat_natCast, Int.toNat_natCast] at hres
      have loop : ∀ u i : Nat, i + u = 720 → ∀ (h5 : vHp) (G5 : Nat → Bool), vRp h5 c X a3 true (tp + 1) G5 → vfil G4 G5 (720 * tp) (vpq ch p q) i → vFr (vZp c) h h5 → vW (vCall (d + 3)) 120 Q 72 [.ref c, .int (iI ch), .int (iI (vBi ea)), .int (iI (p : Int)), .int (iI (q : Int)), .int (iI ((720 * tp : Nat) : Int)), .int (iI (i : Int))] [] h5 0 0 := by
        intro u
        induction u with
        | zero =>
          intro i hi h5 G5 hM5 hf f5
          obtain rfl : i = 720 := by omega
          refine r_iload c120_72 rfl (r_ci c120_74 ?_)
          refine r_icge c120_77 (by omega) (by omega) (by omega) (by omega) (fun c_77 => ?_) (fun q => by exfalso; omega)
          refine r_iload c120_150 rfl ?_
          refine r_iret (st := []) c120_152 ?_
          exact k h5 a3 true G5 hM5 ha3 (vpre_tr p4 (vfil_pre hf) (Nat.le_refl _)) (hres G5 (fun _ => hf.1)) f5
        | succ u ih =>
          intro i hi h5 G5 hM5 hf f5
          obtain ⟨g, g1, g2⟩ := hM5.2.1
          have fin : ∀ b : Bool, b = vpq ch p q i → vW (vCall (d + 3)) 120 Q 143 [.ref c, .int (iI ch), .int (iI (vBi ea)), .int (iI (p : Int)), .int (iI (q : Int)), .int (iI ((720 * tp : Nat) : Int)), .int (iI (i : Int))] [.int (iI (vBi b)), .int (iI (((720 * tp : Nat) : Int) + (i : Int))), .ref (c + 10)] h5 0 0 := by
            intro b hb
            refine r_bast c120_143 g1 (Nat.le_add_right_of_le hM5.2.2.2.2.1) (by omega) (by omega) (by cases b <;> decide) (fun h6 s6 => ?_)
            refine r_iinc c120_144 rfl rfl (r_goto c120_147 ?_)
            try dsimp only [vst]
            rw [vsu]
            rw [show (((720 * tp : Nat) : Int) + (i : Int)).toNat = 720 * tp + i by omega] at s6
            exact ih (i + 1) (by omega) h6 _ (vRp_set hM5 g2 s6 rfl) (vfil_su hf hb) (vFr_tr f5 (vZp_s s6))
          unfold vpq at fin
          refine r_iload c120_72 rfl (r_ci c120_74 ?_)
          refine r_icge c120_77 (by omega) (by omega) (by omega) (by omega) (fun q => by exfalso; omega) (fun c_77 => ?_)
          refine r_aload c120_80 rfl (r_get c120_81 hM5.1 rfl ?_)
          refine vife (by decide +kernel : vlk 120 84 = some (70, 150, 0, 0, 87)) (fun b => by cases b) (fun _ => ?_)
          refine r_aload c120_87 rfl (r_get c120_88 hM5.1 rfl (r_iload c120_91 rfl (r_iload c120_93 rfl (r_iadd c120_95 (r_iload c120_96 rfl ?_)))))
          refine vife (by decide +kernel : vlk 120 97 = some (70, 125, 0, 0, 100)) (fun b => ?_) (fun b => ?_)
          · have nc : ¬ ch = 101 := by rw [b] at hea; exact of_decide_eq_false hea.symm
            rw [if_neg nc] at fin
            refine r_iload c120_125 rfl (r_iload c120_127 rfl ?_)
            refine r_iclt c120_128 (by omega) (by omega) (by omega) (by omega) (fun c_128 => ?_) (fun c_128 => ?_)
            · refine r_ci c120_142 ?_
              exact fin false (decide_eq_false (by omega)).symm
            · refine r_iload c120_131 rfl (r_iload c120_133 rfl ?_)
              refine r_icgt c120_135 (by omega) (by omega) (by omega) (by omega) (fun c_135 => ?_) (fun c_135 => ?_)
              · refine r_ci c120_142 ?_
                exact fin false (decide_eq_false (by omega)).symm
              · refine r_ci c120_138 (r_goto c120_139 ?_)
                exact fin true (decide_eq_true (by omega)).symm
          · have yc : ch = 101 := by rw [b] at hea; exact of_decide_eq_true hea.symm
            have hp := b3 yc
            rw [if_pos yc] at fin
            refine r_iload c120_100 rfl (r_iload c120_102 rfl ?_)
            refine r_iclt c120_104 (by omega) (by omega) (by omega) (by omega) (fun c_104 => ?_) (fun c_104 => ?_)
            · refine r_ci c120_121 (r_goto c120_122 ?_)
              exact fin false (decide_eq_false (by omega)).symm
            · refine r_iload c120_107 rfl (r_iload c120_109 rfl (r_isub c120_111 (r_iload c120_112 rfl (r_irem c120_113 (by omega) (by omega) (by omega) (by omega) ?_))))
              have em : ((i : Int) - (q : Int)) % (p : Int) = (((i - q) % p : Nat) : Int) := by
                rw [show (i : Int) - (q : Int) = ((i - q : Nat) : Int) by omega, Int.natCast_emod]
              rw [em]
              have lm : (i - q) % p < p := Nat.mod_lt _ (by omega)
              refine r_ifne c120_114 (by omega) (by omega) (fun c_114 => ?_) (fun c_114 => ?_)
              · refine r_ci c120_121 (r_goto c120_122 ?_)
                exact fin false (decide_eq_false (by omega)).symm
              · refine r_ci c120_117 (r_goto c120_118 ?_)
                exact fin true (decide_eq_true (by omega)).symm
      exact loop 720 0 rfl h4 G4 hM4 vfil_0 (vFr_tr f3 f4)
  have main : ∀ (ea : Bool) (h1 : vHp) (x3 x4 x5 x6 : Value), ea = decide (ch = 101) → vRp h1 c X (a + 1) true tp G → vFr (vZp c) h h1 → vW (vCall (d + 3)) 120 Q 32 [.ref c, .int (iI ch), .int (iI (vBi ea)), x3, x4, x5, x6] [.int (iI (if ch = 101 then 1 else 0)), .ref c] h1 0 0 := by
    intro ea h1 x3 x4 x5 x6 hea hM1 f1
    have hlo : 0 ≤ (if ch = 101 then (1 : Int) else 0) ∧ (if ch = 101 then (1 : Int) else 0) ≤ 1 := by split <;> decide
    have hlo2 : ch = 101 → (if ch = 101 then (1 : Int) else 0) = 1 := fun q => if_pos q
    have rg := vnm_rg (n := X.2.1) (t := X.2.2.1) (lo := (if ch = 101 then (1 : Int) else 0)) (hi := 719) (p := a + 1) ha
    have ep : vpp X.2.1 X.2.2.1 ch (a + 1) = _ := rfl
    conv at ep => rhs; unfold vpp
    generalize hq0 : (if ch = 101 then (1 : Int) else 0) = lo at *
    refine r_ci c120_32 ?_
    refine r_iv2 c120_35 vr_113 hM1.1 rfl (k_mnum hM1 ha (by omega) (by omega) (by omega) (by omega) (fun h2 v w2 hM2 e2 e3 v1 v2 f2 => ?_))
    dsimp only [vpush]
    rw [if_pos rfl] at hM2
    rw [Bool.true_and] at e2
    generalize hz : vnm X.2.1 X.2.2.1 lo 719 (a + 1) = z at *
    have second : ∀ (a3 : Nat) (w3 : Bool) (h3 : vHp), a3 ≤ X.2.1 → vRp h3 c X a3 w3 tp G → vFr (vZp c) h h3 → (w3 = true → w2 = true ∧ vpp X.2.1 X.2.2.1 ch (a + 1) = vpp2 X.2.1 X.2.2.1 ch v a3) → (w3 = false → vpp X.2.1 X.2.2.1 ch (a + 1) = (a3, none)) → ∀ lo2 : Int, lo2 = (if ch = 101 then 0 else v) → vW (vCall (d + 3)) 120 Q 55 [.ref c, .int (iI ch), .int (iI (vBi ea)), .int (iI v), x4, x5, x6] [.int (iI lo2), .ref c] h3 0 0 := by
      intro a3 w3 h3 ha3 hM3 f3 hT hF lo2 hl2
      have hlr : 0 ≤ lo2 ∧ lo2 ≤ 9999 := by rw [hl2]; split <;> omega
      have rg3 := vnm_rg (n := X.2.1) (t := X.2.2.1) (lo := lo2) (hi := 719) (p := a3) ha3
      refine r_ci c120_55 ?_
      refine r_iv2 c120_58 vr_113 hM3.1 rfl (k_mnum hM3 ha3 hlr.1 hlr.2 (by omega) (by omega) (fun h4 vb w4 hM4 g2 g3 u1 u2 f4 => ?_))
      dsimp only [vpush]
      refine r_istore c120_61 rfl ?_
      try dsimp only [vst]
      cases w3
      · rw [Bool.false_and] at g2
        subst g2
        rw [if_neg (by decide)] at hM4
        exact tail ea a3 false v vb h4 x5 x6 hea ha3 hM4 (vFr_tr f3 f4) (fun q => by cases q) (fun G' _ => vrs_no (fun q => by cases q) (fun _ => hF rfl))
      · obtain ⟨w2t, he⟩ := hT rfl
        unfold vpp2 at he
        rw [← hl2] at he
        rw [if_pos rfl] at hM4
        rw [Bool.true_and] at g2
        subst w2t
        have e2' : ¬ z.2 = -1 := by simpa using e2.symm
        have e3' := e3 rfl
        refine tail ea (vnm X.2.1 X.2.2.1 lo2 719 a3).1 w4 v vb h4 x5 x6 hea rg3.2.2 hM4 (vFr_tr f3 f4) (fun q => ?_) (fun G' hG => ?_)
        · subst q
          have g2' : ¬ (vnm X.2.1 X.2.2.1 lo2 719 a3).2 = -1 := by simpa using g2.symm
          have g3' := g3 rfl
          refine ⟨by omega, by omega, fun q => by have := hlo2 q; omega, by omega, by omega⟩
        · cases w4
          · have g2' : (vnm X.2.1 X.2.2.1 lo2 719 a3).2 = -1 := by simpa using g2.symm
            rw [if_pos g2'] at he
            exact vrs_no (fun q => by cases q) (fun _ => he)
          · have g2' : ¬ (vnm X.2.1 X.2.2.1 lo2 719 a3).2 = -1 := by simpa using g2.symm
            rw [if_neg g2', ← g3 rfl] at he
            rw [he]
            exact ⟨fun q => (by cases q), fun _ => ⟨rfl, fun q => (by cases q), fun _ => ⟨_, rfl, hG rfl⟩⟩⟩
    have third : ∀ (a3 : Nat) (w3 : Bool) (h3 : vHp), a3 ≤ X.2.1 → vRp h3 c X a3 w3 tp G → vFr (vZp c) h h3 → (w3 = true → w2 = true ∧ vpp X.2.1 X.2.2.1 ch (a + 1) = vpp2 X.2.1 X.2.2.1 ch v a3) → (w3 = false → vpp X.2.1 X.2.2.1 ch (a + 1) = (a3, none)) → vW (vCall (d + 3)) 120 Q 45 [.ref c, .int (iI ch), .int (iI (vBi ea)), .int (iI v), x4, x5, x6] [] h3 0 0 := by
      intro a3 w3 h3 ha3 hM3 f3 hT hF
      have sd := second a3 w3 h3 ha3 hM3 f3 hT hF
      refine r_aload c120_45 rfl (r_iload c120_46 rfl ?_)
      refine vife (by decide +kernel : vlk 120 47 = some (70, 54, 0, 0, 50)) (fun b => ?_) (fun b => ?_)
      · have nc : ¬ ch = 101 := by rw [b] at hea; exact of_decide_eq_false hea.symm
        refine r_iload c120_54 rfl ?_
        exact sd v (if_neg nc).symm
      · have yc : ch = 101 := by rw [b] at hea; exact of_decide_eq_true hea.symm
        refine r_ci c120_50 (r_goto c120_51 ?_)
        exact sd 0 (if_pos yc).symm
    refine r_istore c120_38 rfl (r_aload c120_39 rfl (r_ci c120_40 ?_))
    try dsimp only [vst]
    refine r_iv1 c120_42 vr_112 hM2.1 rfl (k_takes hM2 (by omega) (by omega) (by omega) (fun q1 q2 h3 hM3 f3 => ?_) (fun q h3 hM3 f3 => ?_))
    · dsimp only [vpush]
      have e2' : ¬ z.2 = -1 := by rw [q1] at e2; simpa using e2.symm
      have hl := vch_lt (n := X.2.1) (t := X.2.2.1) (p := z.1) (by omega)
      refine third (z.1 + 1) true h3 hl hM3 (vFr_tr f1 (vFr_tr f2 f3)) (fun _ => ⟨q1, ?_⟩) (fun g => by cases g)
      rw [ep, if_neg e2', if_pos q2, e3 q1]
    · dsimp only [vpush]
      refine third z.1 false h3 (by omega) hM3 (vFr_tr f1 (vFr_tr f2 f3)) (fun g => by cases g) (fun _ => ?_)
      rw [ep]
      cases w2
      · exact if_pos (by simpa using e2.symm)
      · rw [if_neg (by simpa using e2.symm), if_neg (fun g => q ⟨rfl, g⟩)]
  refine vin 7 [_, _, _, _, _, _, _] ml_120 rfl rfl ?_
  refine r_aload c120_0 rfl (r_dup c120_1 rfl (r_get c120_2 ho rfl (r_ci c120_5 (r_iadd c120_6 ?_))))
  refine r_put c120_7 ho hM.2.2.2.2.1 rfl ⟨rfl, rfl⟩ (fun h1 s1 => ?_)
  rw [vsu] at s1
  have hM1 := vRp_obj (a2 := a + 1) (w2 := true) (tp2 := tp) hM s1
  rcases hc with rfl | rfl
  · refine r_iload c120_10 rfl (r_ci c120_11 ?_)
    refine r_icne c120_13 (by omega) (by omega) (by omega) (by omega) (fun q => by exfalso; omega) (fun c_13 => ?_)
    refine r_ci c120_16 (r_goto c120_17 (r_istore c120_21 rfl (r_aload c120_22 rfl (r_iload c120_23 rfl ?_))))
    try dsimp only [vst]
    refine vife (v := true) (by decide +kernel : vlk 120 24 = some (70, 31, 0, 0, 27)) (fun b => by cases b) (fun _ => ?_)
    refine r_ci c120_27 (r_goto c120_28 ?_)
    exact main true h1 _ _ _ _ (by decide) hM1 (vZp_o s1)
  · refine r_iload c120_10 rfl (r_ci c120_11 ?_)
    refine r_icne c120_13 (by omega) (by omega) (by omega) (by omega) (fun c_13 => ?_) (fun q => by exfalso; omega)
    refine r_ci c120_20 (r_istore c120_21 rfl (r_aload c120_22 rfl (r_iload c120_23 rfl ?_)))
    try dsimp only [vst]
    refine vife (v := false) (by decide +kernel : vlk 120 24 = some (70, 31, 0, 0, 27)) (fun _ => ?_) (fun b => by cases b)
    refine r_ci c120_31 ?_
    exact main false h1 _ _ _ _ (by decide) hM1 (vZp_o s1)

