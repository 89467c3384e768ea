theorem ml_113 : vml 113 = 5 := by decide +kernel
theorem ml_117 : vml 117 = 3 := by decide +kernel
theorem ml_123 : vml 123 = 4 := by decide +kernel
theorem vr_112 : vrc 112 = some (6, 1) := by decide +kernel
theorem vr_115 : vrc 115 = some (6, 1) := by decide +kernel
theorem c113_0 : vlk 113 0 = some (6, 0, 0, 0, 1) := by decide +kernel
theorem c113_1 : vlk 113 1 = some (42, 6, 11, 0, 4) := by decide +kernel
theorem c113_4 : vlk 113 4 = some (7, 3, 0, 0, 5) := by decide +kernel
theorem c113_5 : vlk 113 5 = some (1, 0, 0, 0, 6) := by decide +kernel
theorem c113_6 : vlk 113 6 = some (7, 4, 0, 0, 8) := by decide +kernel
theorem c113_8 : vlk 113 8 = some (6, 0, 0, 0, 9) := by decide +kernel
theorem c113_9 : vlk 113 9 = some (42, 6, 12, 0, 12) := by decide +kernel
theorem c113_15 : vlk 113 15 = some (6, 0, 0, 0, 16) := by decide +kernel
theorem c113_16 : vlk 113 16 = some (42, 6, 11, 0, 19) := by decide +kernel
theorem c113_19 : vlk 113 19 = some (4, 3, 0, 0, 20) := by decide +kernel
theorem c113_20 : vlk 113 20 = some (12, 0, 0, 0, 21) := by decide +kernel
theorem c113_21 : vlk 113 21 = some (1, 0, 0, 4, 22) := by decide +kernel
theorem c113_22 : vlk 113 22 = some (79, 70, 0, 0, 25) := by decide +kernel
theorem c113_25 : vlk 113 25 = some (6, 0, 0, 0, 26) := by decide +kernel
theorem c113_26 : vlk 113 26 = some (58, 110, 0, 0, 29) := by decide +kernel
theorem c113_29 : vlk 113 29 = some (32, 0, 0, 0, 30) := by decide +kernel
theorem c113_30 : vlk 113 30 = some (2, 0, 0, 48, 33) := by decide +kernel
theorem c113_33 : vlk 113 33 = some (2, 0, 0, 57, 36) := by decide +kernel
theorem c113_36 : vlk 113 36 = some (59, 102, 0, 0, 39) := by decide +kernel
theorem c113_39 : vlk 113 39 = some (70, 70, 0, 0, 42) := by decide +kernel
theorem c113_42 : vlk 113 42 = some (1, 0, 0, 10, 44) := by decide +kernel
theorem c113_44 : vlk 113 44 = some (4, 4, 0, 0, 46) := by decide +kernel
theorem c113_46 : vlk 113 46 = some (13, 0, 0, 0, 47) := by decide +kernel
theorem c113_47 : vlk 113 47 = some (6, 0, 0, 0, 48) := by decide +kernel
theorem c113_48 : vlk 113 48 = some (58, 110, 0, 0, 51) := by decide +kernel
theorem c113_51 : vlk 113 51 = some (11, 0, 0, 0, 52) := by decide +kernel
theorem c113_52 : vlk 113 52 = some (1, 0, 0, 48, 54) := by decide +kernel
theorem c113_54 : vlk 113 54 = some (12, 0, 0, 0, 55) := by decide +kernel
theorem c113_55 : vlk 113 55 = some (7, 4, 0, 0, 57) := by decide +kernel
theorem c113_57 : vlk 113 57 = some (6, 0, 0, 0, 58) := by decide +kernel
theorem c113_58 : vlk 113 58 = some (34, 0, 0, 0, 59) := by decide +kernel
theorem c113_59 : vlk 113 59 = some (42, 6, 11, 0, 62) := by decide +kernel
theorem c113_62 : vlk 113 62 = some (1, 0, 0, 1, 63) := by decide +kernel
theorem c113_63 : vlk 113 63 = some (11, 0, 0, 0, 64) := by decide +kernel
theorem c113_64 : vlk 113 64 = some (43, 6, 11, 0, 67) := by decide +kernel
theorem c113_67 : vlk 113 67 = some (37, 8, 0, 0, 70) := by decide +kernel
theorem c113_70 : vlk 113 70 = some (6, 0, 0, 0, 71) := by decide +kernel
theorem c113_71 : vlk 113 71 = some (42, 6, 12, 0, 74) := by decide +kernel
theorem c113_77 : vlk 113 77 = some (6, 0, 0, 0, 78) := by decide +kernel
theorem c113_78 : vlk 113 78 = some (42, 6, 11, 0, 81) := by decide +kernel
theorem c113_81 : vlk 113 81 = some (4, 3, 0, 0, 82) := by decide +kernel
theorem c113_82 : vlk 113 82 = some (76, 98, 0, 0, 85) := by decide +kernel
theorem c113_85 : vlk 113 85 = some (4, 4, 0, 0, 87) := by decide +kernel
theorem c113_87 : vlk 113 87 = some (32, 0, 0, 0, 88) := by decide +kernel
theorem c113_88 : vlk 113 88 = some (4, 1, 0, 0, 89) := by decide +kernel
theorem c113_89 : vlk 113 89 = some (32, 0, 0, 0, 90) := by decide +kernel
theorem c113_90 : vlk 113 90 = some (4, 2, 0, 0, 91) := by decide +kernel
theorem c113_91 : vlk 113 91 = some (32, 0, 0, 0, 92) := by decide +kernel
theorem c113_92 : vlk 113 92 = some (59, 102, 0, 0, 95) := by decide +kernel
theorem c113_95 : vlk 113 95 = some (71, 108, 0, 0, 98) := by decide +kernel
theorem c113_98 : vlk 113 98 = some (6, 0, 0, 0, 99) := by decide +kernel
theorem c113_99 : vlk 113 99 = some (4, 3, 0, 0, 100) := by decide +kernel
theorem c113_100 : vlk 113 100 = some (43, 6, 11, 0, 103) := by decide +kernel
theorem c113_103 : vlk 113 103 = some (6, 0, 0, 0, 104) := by decide +kernel
theorem c113_104 : vlk 113 104 = some (1, 0, 0, 0, 105) := by decide +kernel
theorem c113_105 : vlk 113 105 = some (43, 6, 12, 0, 108) := by decide +kernel
theorem c113_108 : vlk 113 108 = some (4, 4, 0, 0, 110) := by decide +kernel
theorem c113_110 : vlk 113 110 = some (63, 0, 0, 0, 111) := by decide +kernel
theorem c117_0 : vlk 117 0 = some (6, 0, 0, 0, 1) := by decide +kernel
theorem c117_1 : vlk 117 1 = some (1, 0, 0, 40, 3) := by decide +kernel
theorem c117_3 : vlk 117 3 = some (58, 112, 0, 0, 6) := by decide +kernel
theorem c117_6 : vlk 117 6 = some (6, 0, 0, 0, 7) := by decide +kernel
theorem c117_7 : vlk 117 7 = some (4, 1, 0, 0, 8) := by decide +kernel
theorem c117_8 : vlk 117 8 = some (1, 0, 0, 1, 9) := by decide +kernel
theorem c117_9 : vlk 117 9 = some (11, 0, 0, 0, 10) := by decide +kernel
theorem c117_10 : vlk 117 10 = some (58, 115, 0, 0, 13) := by decide +kernel
theorem c117_13 : vlk 117 13 = some (7, 2, 0, 0, 14) := by decide +kernel
theorem c117_14 : vlk 117 14 = some (6, 0, 0, 0, 15) := by decide +kernel
theorem c117_15 : vlk 117 15 = some (1, 0, 0, 41, 17) := by decide +kernel
theorem c117_17 : vlk 117 17 = some (58, 112, 0, 0, 20) := by decide +kernel
theorem c117_20 : vlk 117 20 = some (4, 2, 0, 0, 21) := by decide +kernel
theorem c117_21 : vlk 117 21 = some (63, 0, 0, 0, 22) := by decide +kernel
theorem c123_0 : vlk 123 0 = some (1, 0, 0, 0, 1) := by decide +kernel
theorem c123_1 : vlk 123 1 = some (7, 3, 0, 0, 2) := by decide +kernel
theorem c123_2 : vlk 123 2 = some (4, 3, 0, 0, 3) := by decide +kernel
theorem c123_3 : vlk 123 3 = some (1, 0, 0, 720, 6) := by decide +kernel
theorem c123_6 : vlk 123 6 = some (79, 31, 0, 0, 9) := by decide +kernel
theorem c123_9 : vlk 123 9 = some (6, 0, 0, 0, 10) := by decide +kernel
theorem c123_10 : vlk 123 10 = some (42, 6, 13, 0, 13) := by decide +kernel
theorem c123_13 : vlk 123 13 = some (4, 2, 0, 0, 14) := by decide +kernel
theorem c123_14 : vlk 123 14 = some (4, 3, 0, 0, 15) := by decide +kernel
theorem c123_15 : vlk 123 15 = some (11, 0, 0, 0, 16) := by decide +kernel
theorem c123_16 : vlk 123 16 = some (6, 0, 0, 0, 17) := by decide +kernel
theorem c123_17 : vlk 123 17 = some (42, 6, 13, 0, 20) := by decide +kernel
theorem c123_20 : vlk 123 20 = some (4, 1, 0, 0, 21) := by decide +kernel
theorem c123_21 : vlk 123 21 = some (4, 3, 0, 0, 22) := by decide +kernel
theorem c123_22 : vlk 123 22 = some (11, 0, 0, 0, 23) := by decide +kernel
theorem c123_23 : vlk 123 23 = some (47, 0, 0, 0, 24) := by decide +kernel
theorem c123_24 : vlk 123 24 = some (51, 0, 0, 0, 25) := by decide +kernel
theorem c123_25 : vlk 123 25 = some (10, 3, 0, 1, 28) := by decide +kernel
theorem c123_28 : vlk 123 28 = some (37, 2, 0, 0, 31) := by decide +kernel
theorem c123_31 : vlk 123 31 = some (6, 0, 0, 0, 32) := by decide +kernel
theorem c123_32 : vlk 123 32 = some (4, 2, 0, 0, 33) := by decide +kernel
theorem c123_33 : vlk 123 33 = some (1, 0, 0, 720, 36) := by decide +kernel
theorem c123_36 : vlk 123 36 = some (14, 0, 0, 0, 37) := by decide +kernel
theorem c123_37 : vlk 123 37 = some (1, 0, 0, 1, 38) := by decide +kernel
theorem c123_38 : vlk 123 38 = some (11, 0, 0, 0, 39) := by decide +kernel
theorem c123_39 : vlk 123 39 = some (43, 6, 14, 0, 42) := by decide +kernel
theorem c123_42 : vlk 123 42 = some (4, 2, 0, 0, 43) := by decide +kernel
theorem c123_43 : vlk 123 43 = some (63, 0, 0, 0, 44) := by decide +kernel
/-! the reference's reading: numbers, what a part answers, brackets, a set over another -/
theorem vpe0_fig {n : Nat} {t : Nat → Int} (p : Nat) : (48 ≤ vpe0 n t p ∧ vpe0 n t p ≤ 57) ↔ (48 ≤ vch n t p ∧ vch n t p ≤ 57) := by
  unfold vpe0 vch
  split
  · exact Iff.rfl
  · omega
theorem vpe0_eq {n : Nat} {t : Nat → Int} {p : Nat} (h : 0 ≤ vch n t p) : vpe0 n t p = vch n t p := by
  unfold vpe0 vch at *
  split
  · rfl
  · rename_i q; rw [if_neg q] at h; omega
theorem k_mnum {d c a tp : Nat} {X : vMX} {w : Bool} {G : Nat → Bool} {lo hi : Int} {h : vHp} {Q : vQ} (hM : vRp h c X a w tp G) (ha : a ≤ X.2.1) (l1 : 0 ≤ lo) (l2 : lo ≤ 9999) (l3 : 0 ≤ hi) (l4 : hi ≤ 9999) (k : ∀ h' v w', vRp h' c X (if w = true then (vnm X.2.1 X.2.2.1 lo hi a).1 else a) w' tp G → w' = (w && !decide ((vnm X.2.1 X.2.2.1 lo hi a).2 = -1)) → (w' = true → v = (vnm X.2.1 X.2.2.1 lo hi a).2) → 0 ≤ v → v ≤ 9999 → vFr (vZp c) h h' → Q (some (.int (iI v))) h') : vCall (d + 2) 0 0 113 [.ref c, .int (iI lo), .int (iI hi)] h Q := by
  have hT := hM.2.2.2.2.2
  have hn := hT.1
  have rg := vnd_rg (n := X.2.1) (t := X.2.2.1) (p := a)
  have fin : w = true → ∀ h1, vRp h1 c X (vnd X.2.1 X.2.2.1 4 0 a).2 true tp G → vFr (vZp c) h h1 → vW (vCall (d + 1)) 113 Q 70 [.ref c, .int (iI lo), .int (iI hi), .int (iI (a : Int)), .int (iI (vnd X.2.1 X.2.2.1 4 0 a).1)] [] h1 0 0 := by
    intro hw h1 hM1 f1
    subst hw
    have fail : vnm X.2.1 X.2.2.1 lo hi a = (a, -1) → vW (vCall (d + 1)) 113 Q 98 [.ref c, .int (iI lo), .int (iI hi), .int (iI (a : Int)), .int (iI (vnd X.2.1 X.2.2.1 4 0 a).1)] [] h1 0 0 := fun e => by
      rw [e] at k
      refine r_aload c113_98 rfl (r_iload c113_99 rfl ?_)
      refine r_put c113_100 hM1.1 hM1.2.2.2.2.1 rfl ⟨rfl, rfl⟩ (fun h2 s2 => ?_)
      have hM2 := vRp_obj (a2 := a) (w2 := true) (tp2 := tp) hM1 s2
      refine r_aload c113_103 rfl (r_ci c113_104 ?_)
      refine r_put c113_105 hM2.1 hM2.2.2.2.2.1 rfl (vmwf false) (fun h3 s3 => ?_)
      have hM3 := vRp_obj (a2 := a) (w2 := false) (tp2 := tp) hM2 s3
      refine r_iload c113_108 rfl ?_
      refine r_iret (st := []) c113_110 ?_
      exact k h3 _ false hM3 rfl (fun q => by cases q) rg.1 rg.2.1 (vFr_tr f1 (vFr_tr (vZp_o s2) (vZp_o s3)))
    refine r_aload c113_70 rfl (r_get c113_71 hM1.1 rfl ?_)
    refine vife (by decide +kernel : vlk 113 74 = some (70, 108, 0, 0, 77)) (fun b => by cases b) (fun b => ?_)
    refine r_aload c113_77 rfl (r_get c113_78 hM1.1 rfl (r_iload c113_81 rfl ?_))
    refine r_iceq c113_82 (by omega) (by omega) (by omega) (by omega) (fun c_82 => ?_) (fun c_82 => ?_)
    · exact fail (if_pos (by omega))
    · refine r_iload c113_85 rfl (r_i2l c113_87 (by omega) (by omega) (r_iload c113_88 rfl (r_i2l c113_89 (by omega) (by omega) (r_iload c113_90 rfl (r_i2l c113_91 (by omega) (by omega) ?_)))))
      refine r_is3 c113_92 vr_102 rfl (k_isIn (by constructor <;> omega) (by constructor <;> omega) (by constructor <;> omega) (fun e1 e2 => ?_) (fun e1 => ?_))
      · dsimp only [vpush]
        refine r_ifne c113_95 (by omega) (by omega) (fun c_95 => ?_) (fun q => by exfalso; omega)
        have e : vnm X.2.1 X.2.2.1 lo hi a = ((vnd X.2.1 X.2.2.1 4 0 a).2, (vnd X.2.1 X.2.2.1 4 0 a).1) := (if_neg (by omega)).trans (if_neg (by omega))
        rw [e] at k
        refine r_iload c113_108 rfl ?_
        refine r_iret (st := []) c113_110 ?_
        refine k h1 _ true hM1 ?_ (fun _ => rfl) rg.1 rg.2.1 f1
        have : decide ((vnd X.2.1 X.2.2.1 4 0 a).1 = -1) = false := decide_eq_false (by omega)
        dsimp only
        rw [this]; rfl
      · dsimp only [vpush]
        refine r_ifne c113_95 (by omega) (by omega) (fun q => by exfalso; omega) (fun c_95 => ?_)
        exact fail ((if_neg (by omega)).trans (if_pos (by omega)))
  have loop : w = true → ∀ f p : Nat, p + f = a + 4 → ∀ (h1 : vHp) (v : Int), p ≤ X.2.1 → vnd X.2.1 X.2.2.1 4 0 a = vnd X.2.1 X.2.2.1 f v p → vRp h1 c X p true tp G → vFr (vZp c) h h1 → vW (vCall (d + 1)) 113 Q 8 [.ref c, .int (iI lo), .int (iI hi), .int (iI (a : Int)), .int (iI v)] [] h1 0 0 := by
    intro hw f
    induction f with
    | zero =>
      intro p hp h1 v hpn he hM1 f1
      have e1 : (vnd X.2.1 X.2.2.1 4 0 a).1 = v := by rw [he]; rfl
      have e2 : (vnd X.2.1 X.2.2.1 4 0 a).2 = p := by rw [he]; rfl
      have g := fin hw h1 (by rw [e2]; exact hM1) f1
      rw [e1] at g
      refine r_aload c113_8 rfl (r_get c113_9 hM1.1 rfl ?_)
      refine vife (by decide +kernel : vlk 113 12 = some (70, 70, 0, 0, 15)) (fun b => by cases b) (fun b => ?_)
      refine r_aload c113_15 rfl (r_get c113_16 hM1.1 rfl (r_iload c113_19 rfl (r_isub c113_20 (r_ci c113_21 ?_))))
      refine r_icge c113_22 (by omega) (by omega) (by omega) (by omega) (fun c_22 => ?_) (fun q => by exfalso; omega)
      exact g
    | succ f ih =>
      intro p hp h1 v hpn he hM1 f1
      have r1 := vpe0_rg hT p
      refine r_aload c113_8 rfl (r_get c113_9 hM1.1 rfl ?_)
      refine vife (by decide +kernel : vlk 113 12 = some (70, 70, 0, 0, 15)) (fun b => by cases b) (fun b => ?_)
      refine r_aload c113_15 rfl (r_get c113_16 hM1.1 rfl (r_iload c113_19 rfl (r_isub c113_20 (r_ci c113_21 ?_))))
      refine r_icge c113_22 (by omega) (by omega) (by omega) (by omega) (fun q => by exfalso; omega) (fun c_22 => ?_)
      refine r_aload c113_25 rfl ?_
      refine r_iv0 c113_26 vr_110 hM1.1 rfl (k_peek hM1 hpn ?_)
      dsimp only [vpush]
      refine r_i2l c113_29 (by omega) (by omega) (r_cl c113_30 (r_cl c113_33 ?_))
      refine r_is3 c113_36 vr_102 rfl (k_isIn (by constructor <;> omega) (by constructor <;> omega) (by constructor <;> omega) (fun q1 q2 => ?_) (fun q => ?_))
      · dsimp only [vpush]
        have ch := (vpe0_fig p).1 ⟨q1, q2⟩
        have he2 := he.trans (show vnd X.2.1 X.2.2.1 (f + 1) v p = vnd X.2.1 X.2.2.1 f (v * 10 + vch X.2.1 X.2.2.1 p - 48) (p + 1) from if_pos ch)
        have hl := vch_lt (n := X.2.1) (t := X.2.2.1) (p := p) (by omega)
        refine r_ifeq c113_39 (by omega) (by omega) (fun q => by exfalso; omega) (fun c_39 => ?_)
        refine r_ci c113_42 (r_iload c113_44 rfl (r_imul c113_46 (r_aload c113_47 rfl ?_)))
        refine r_iv0 c113_48 vr_110 hM1.1 rfl (k_peek hM1 hpn ?_)
        dsimp only [vpush]
        refine r_iadd c113_51 (r_ci c113_52 (r_isub c113_54 (r_istore c113_55 rfl (r_aload c113_57 rfl (r_dup c113_58 rfl (r_get c113_59 hM1.1 rfl (r_ci c113_62 (r_iadd c113_63 ?_))))))))
        try dsimp only [vst]
        refine r_put c113_64 hM1.1 hM1.2.2.2.2.1 rfl ⟨rfl, rfl⟩ (fun h2 s2 => ?_)
        rw [vsu] at s2
        have hM2 := vRp_obj (a2 := p + 1) (w2 := true) (tp2 := tp) hM1 s2
        refine r_goto c113_67 ?_
        rw [show (10 : Int) * v + vpe0 X.2.1 X.2.2.1 p - 48 = v * 10 + vch X.2.1 X.2.2.1 p - 48 by rw [vpe0_eq (by omega)]; omega]
        exact ih (p + 1) (by omega) h2 _ (by omega) he2 hM2 (vFr_tr f1 (vZp_o s2))
      · dsimp only [vpush]
        have he2 := he.trans (show vnd X.2.1 X.2.2.1 (f + 1) v p = (v, p) from if_neg (fun g => q ((vpe0_fig p).2 g)))
        have e1 : (vnd X.2.1 X.2.2.1 4 0 a).1 = v := by rw [he2]
        have e2 : (vnd X.2.1 X.2.2.1 4 0 a).2 = p := by rw [he2]
        have g := fin hw h1 (by rw [e2]; exact hM1) f1
        rw [e1] at g
        refine r_ifeq c113_39 (by omega) (by omega) (fun c_39 => ?_) (fun q => by exfalso; omega)
        exact g
  refine vin 5 [_, _, _, _, _] ml_113 rfl rfl ?_
  refine r_aload c113_0 rfl (r_get c113_1 hM.1 rfl (r_istore c113_4 rfl (r_ci c113_5 (r_istore c113_6 rfl ?_))))
  try dsimp only [vst]
  cases w
  · refine r_aload c113_8 rfl (r_get c113_9 hM.1 rfl ?_)
    refine vife (by decide +kernel : vlk 113 12 = some (70, 70, 0, 0, 15)) (fun b => ?_) (fun b => by cases b)
    refine r_aload c113_70 rfl (r_get c113_71 hM.1 rfl ?_)
    refine vife (by decide +kernel : vlk 113 74 = some (70, 108, 0, 0, 77)) (fun b => ?_) (fun b => by cases b)
    refine r_iload c113_108 rfl ?_
    refine r_iret (st := []) c113_110 ?_
    exact k h 0 false hM rfl (fun q => by cases q) (by decide) (by decide) vFr_rf
  · exact loop rfl 4 a rfl h 0 ha rfl hM vFr_rf
/-- what a part of the reading leaves: from a (well or not) to a' (well or not), and the set in the row from b on -/
def vrs (r : vPr) (a : Nat) (w : Bool) (a' : Nat) (w' : Bool) (b : Nat) (G' : Nat → Bool) : Prop := (w = false → a' = a ∧ w' = false) ∧ (w = true → a' = r.1 ∧ (w' = false → r.2 = none) ∧ (w' = true → ∃ S, r.2 = some S ∧ ∀ d, d < 720 → G' (b + d) = S d))
def vKm (d m : Nat) (as : List Value) (c : Nat) (X : vMX) (mx : Nat) (f : Nat → vPr) : Prop := ∀ (h : vHp) (a : Nat) (w : Bool) (tp : Nat) (G : Nat → Bool) (Q : vQ), vRp h c X a w tp G → a ≤ X.2.1 → tp + mx ≤ 50 → (∀ (h' : vHp) (a' : Nat) (w' : Bool) (G' : Nat → Bool), vRp h' c X a' w' (tp + 1) G' → a' ≤ X.2.1 → vpre G G' (720 * tp) → vrs (f a) a w a' w' (720 * tp) G' → vFr (vZp c) h h' → Q (some (.int (iI ((720 * tp : Nat) : Int)))) h') → vCall d 0 0 m (.ref c :: as) h Q
/-- likewise, well so far, from the letter that it begins with -/
def vKw (d m : Nat) (as : List Value) (c : Nat) (X : vMX) (mx : Nat) (f : Nat → vPr) : Prop := ∀ (h : vHp) (a : Nat) (tp : Nat) (G : Nat → Bool) (Q : vQ), vRp h c X a true tp G → a + 1 ≤ X.2.1 → tp + mx ≤ 50 → (∀ (h' : vHp) (a' : Nat) (w' : Bool) (G' : Nat → Bool), vRp h' c X a' w' (tp + 1) G' → a' ≤ X.2.1 → vpre G G' (720 * tp) → vrs (f (a + 1)) a true a' w' (720 * tp) G' → vFr (vZp c) h h' → Q (some (.int (iI ((720 * tp : Nat) : Int)))) h') → vCall d 0 0 m (.ref c :: as) h Q
theorem vrs_no {r : vPr} {a a' b : Nat} {w : Bool} {G' : Nat → Bool} (h1 : w = false → a' = a) (h2 : w = true → r = (a', none)) : vrs r a w a' false b G' :=
  ⟨fun q => ⟨h1 q, rfl⟩, fun q => ⟨by rw [h2 q], fun _ => by rw [h2 q], fun z => by cases z⟩⟩
theorem k_brd {d c dep mx : Nat} {X : vMX} {f : Nat → vPr} (hE : vKm (d + 3) 115 [.int (iI ((dep + 1 : Nat) : Int))] c X mx f) : vKm (d + 4) 117 [.int (iI (dep : Int))] c X mx (vbr X.2.1 X.2.2.1 f) := by
  intro h a w tp G Q hM ha ht k
  have ho := hM.1
  refine vin 3 [_, _, _] ml_117 rfl rfl ?_
  refine r_aload c117_0 rfl (r_ci c117_1 ?_)
  refine r_iv1 c117_3 vr_112 ho rfl (k_takes hM ha (by omega) (by omega) (fun e1 e2 h2 hM2 f2 => ?_) (fun e h2 hM2 f2 => ?_))
  · dsimp only [vpush]
    have hl := vch_lt (n := X.2.1) (t := X.2.2.1) (p := a) (by omega)
    have hv : vbr X.2.1 X.2.2.1 f a = vth (f (a + 1)) (fun q S => if vch X.2.1 X.2.2.1 q = 41 then (q + 1, some S) else (q, none)) := if_pos e2
    refine r_aload c117_6 rfl (r_iload c117_7 rfl (r_ci c117_8 (r_iadd c117_9 ?_)))
    rw [vsu]
    refine r_iv1 c117_10 vr_115 hM2.1 rfl (hE h2 _ _ _ _ _ hM2 hl ht (fun h3 a3 w3 G3 hM3 ha3 p3 r3 f3 => ?_))
    dsimp only [vpush]
    obtain ⟨q1, q2, q3⟩ := r3.2 rfl
    refine r_istore c117_13 rfl (r_aload c117_14 rfl (r_ci c117_15 ?_))
    try dsimp only [vst]
    refine r_iv1 c117_17 vr_112 hM3.1 rfl (k_takes hM3 ha3 (by omega) (by omega) (fun g1 g2 h4 hM4 f4 => ?_) (fun g h4 hM4 f4 => ?_))
    · dsimp only [vpush]
      obtain ⟨S, s1, s2⟩ := q3 g1
      have hl3 := vch_lt (n := X.2.1) (t := X.2.2.1) (p := a3) (by omega)
      refine r_iload c117_20 rfl ?_
      refine r_iret (st := []) c117_21 ?_
      refine k h4 (a3 + 1) true G3 hM4 hl3 p3 ⟨fun z => ?_, fun _ => ?_⟩ (vFr_tr f2 (vFr_tr f3 f4))
      · rw [e1] at z; cases z
      · rw [hv, vth_some s1]
        rw [← q1, if_pos g2]
        exact ⟨rfl, fun z => (by cases z), fun _ => ⟨S, rfl, s2⟩⟩
    · dsimp only [vpush]
      refine r_iload c117_20 rfl ?_
      refine r_iret (st := []) c117_21 ?_
      refine k h4 a3 false G3 hM4 ha3 p3 (vrs_no (fun z => ?_) (fun _ => ?_)) (vFr_tr f2 (vFr_tr f3 f4))
      · rw [e1] at z; cases z
      · rw [hv]
        cases w3
        · rw [vth_none (q2 rfl), ← q1]
        · obtain ⟨S, s1, s2⟩ := q3 rfl
          rw [vth_some s1, ← q1, if_neg (fun z => g ⟨rfl, z⟩)]
  · dsimp only [vpush]
    refine r_aload c117_6 rfl (r_iload c117_7 rfl (r_ci c117_8 (r_iadd c117_9 ?_)))
    rw [vsu]
    refine r_iv1 c117_10 vr_115 hM2.1 rfl (hE h2 _ _ _ _ _ hM2 ha ht (fun h3 a3 w3 G3 hM3 ha3 p3 r3 f3 => ?_))
    dsimp only [vpush]
    obtain ⟨q1, q2⟩ := r3.1 rfl
    subst q1 q2
    refine r_istore c117_13 rfl (r_aload c117_14 rfl (r_ci c117_15 ?_))
    try dsimp only [vst]
    refine r_iv1 c117_17 vr_112 hM3.1 rfl (k_takes hM3 ha3 (by omega) (by omega) (fun g1 g2 h4 hM4 f4 => by cases g1) (fun g h4 hM4 f4 => ?_))
    dsimp only [vpush]
    refine r_iload c117_20 rfl ?_
    refine r_iret (st := []) c117_21 ?_
    exact k h4 a3 false G3 hM4 ha3 p3 (vrs_no (fun _ => rfl) (fun z => if_neg (fun y => e ⟨z, y⟩))) (vFr_tr f2 (vFr_tr f3 f4))
theorem k_over {d c a tp t0 t1 : Nat} {X : vMX} {w : Bool} {G : Nat → Bool} {h : vHp} {Q : vQ} (hM : vRp h c X a w tp G) (h01 : t0 < t1) (h1 : t1 < 50) (k : ∀ h' G', vRp h' c X a w (t0 + 1) G' → vfil G G' (720 * t0) (fun d => G (720 * t1 + d)) 720 → vFr (vZp c) h h' → Q (some (.int (iI ((720 * t0 : Nat) : Int)))) h') : vCall (d + 1) 0 0 123 [.ref c, .int (iI ((720 * t1 : Nat) : Int)), .int (iI ((720 * t0 : Nat) : Int))] h Q := by
  have loop : ∀ u i : Nat, i + u = 720 → ∀ (h1 : vHp) (G1 : Nat → Bool), vRp h1 c X a w tp G1 → vfil G G1 (720 * t0) (fun d => G (720 * t1 + d)) i → vFr (vZp c) h h1 → vW (vCall d) 123 Q 2 [.ref c, .int (iI ((720 * t1 : Nat) : Int)), .int (iI ((720 * t0 : Nat) : Int)), .int (iI (i : Int))] [] h1 0 0 := by
    intro u
    induction u with
    | zero =>
      intro i hi h1 G1 hM1 hf f1
      obtain rfl : i = 720 := by omega
      refine r_iload c123_2 rfl (r_ci c123_3 ?_)
      refine r_icge c123_6 (by omega) (by omega) (by omega) (by omega) (fun c_6 => ?_) (fun q => by exfalso; omega)
      refine r_aload c123_31 rfl (r_iload c123_32 rfl (r_ci c123_33 (r_idiv c123_36 (by omega) (by omega) (by omega) (by omega) (r_ci c123_37 (r_iadd c123_38 ?_)))))
      rw [show ((720 * t0 : Nat) : Int) / 720 + 1 = ((t0 + 1 : Nat) : Int) by omega]
      refine r_put c123_39 hM1.1 hM1.2.2.2.2.1 rfl ⟨rfl, rfl⟩ (fun h2 s2 => ?_)
      refine r_iload c123_42 rfl ?_
      refine r_iret (st := []) c123_43 ?_
      exact k h2 G1 (vRp_obj hM1 s2) hf (vFr_tr f1 (vZp_o s2))
    | succ u ih =>
      intro i hi h1 G1 hM1 hf f1
      obtain ⟨g, g1, g2⟩ := hM1.2.1
      refine r_iload c123_2 rfl (r_ci c123_3 ?_)
      refine r_icge c123_6 (by omega) (by omega) (by omega) (by omega) (fun q => by exfalso; omega) (fun c_6 => ?_)
      refine r_aload c123_9 rfl (r_get c123_10 hM1.1 rfl (r_iload c123_13 rfl (r_iload c123_14 rfl (r_iadd c123_15 (r_aload c123_16 rfl (r_get c123_17 hM1.1 rfl (r_iload c123_20 rfl (r_iload c123_21 rfl (r_iadd c123_22 (r_bald c123_23 g1 (by omega) (by omega) ?_))))))))))
      rw [show (((720 * t1 : Nat) : Int) + (i : Int)).toNat = 720 * t1 + i by omega, g2 _ (by omega)]
      refine r_bast c123_24 g1 (Nat.le_add_right_of_le hM1.2.2.2.2.1) (by omega) (by omega) (by cases G1 (720 * t1 + i) <;> decide) (fun h2 s2 => ?_)
      refine r_iinc c123_25 rfl rfl (r_goto c123_28 ?_)
      try dsimp only [vst]
      rw [vsu]
      rw [show (((720 * t0 : Nat) : Int) + (i : Int)).toNat = 720 * t0 + i by omega] at s2
      exact ih (i + 1) (by omega) h2 _ (vRp_set hM1 g2 s2 rfl) (vfil_su hf (hf.2 _ (Or.inr (by omega)))) (vFr_tr f1 (vZp_s s2))
  refine vin 4 [_, _, _, _] ml_123 rfl rfl ?_
  refine r_ci c123_0 (r_istore c123_1 rfl ?_)
  try dsimp only [vst]
  exact loop 720 0 rfl h G hM vfil_0 vFr_rf

