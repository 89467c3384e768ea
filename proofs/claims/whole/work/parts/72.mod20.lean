theorem ml_164 : vml 164 = 5 := by decide +kernel
theorem ml_165 : vml 165 = 8 := by decide +kernel
theorem ml_166 : vml 166 = 8 := by decide +kernel
theorem vr_164 : vrc 164 = some (6, 4) := by decide +kernel
theorem c164_0 : vlk 164 0 = some (4, 1, 0, 0, 1) := by decide +kernel
theorem c164_1 : vlk 164 1 = some (59, 159, 0, 0, 4) := by decide +kernel
theorem c164_4 : vlk 164 4 = some (70, 14, 0, 0, 7) := by decide +kernel
theorem c164_7 : vlk 164 7 = some (4, 3, 0, 0, 8) := by decide +kernel
theorem c164_8 : vlk 164 8 = some (59, 103, 0, 0, 11) := by decide +kernel
theorem c164_11 : vlk 164 11 = some (71, 16, 0, 0, 14) := by decide +kernel
theorem c164_14 : vlk 164 14 = some (1, 0, 0, (-1), 15) := by decide +kernel
theorem c164_15 : vlk 164 15 = some (63, 0, 0, 0, 16) := by decide +kernel
theorem c164_16 : vlk 164 16 = some (4, 4, 0, 0, 18) := by decide +kernel
theorem c164_18 : vlk 164 18 = some (59, 104, 0, 0, 21) := by decide +kernel
theorem c164_21 : vlk 164 21 = some (71, 27, 0, 0, 24) := by decide +kernel
theorem c164_24 : vlk 164 24 = some (1, 0, 0, (-2), 26) := by decide +kernel
theorem c164_26 : vlk 164 26 = some (63, 0, 0, 0, 27) := by decide +kernel
theorem c164_27 : vlk 164 27 = some (6, 0, 0, 0, 28) := by decide +kernel
theorem c164_28 : vlk 164 28 = some (42, 6, 22, 0, 31) := by decide +kernel
theorem c164_31 : vlk 164 31 = some (4, 1, 0, 0, 32) := by decide +kernel
theorem c164_32 : vlk 164 32 = some (45, 0, 0, 0, 33) := by decide +kernel
theorem c164_33 : vlk 164 33 = some (73, 41, 0, 0, 36) := by decide +kernel
theorem c164_36 : vlk 164 36 = some (1, 0, 0, (-11), 38) := by decide +kernel
theorem c164_38 : vlk 164 38 = some (37, 63, 0, 0, 41) := by decide +kernel
theorem c164_41 : vlk 164 41 = some (4, 2, 0, 0, 42) := by decide +kernel
theorem c164_42 : vlk 164 42 = some (32, 0, 0, 0, 43) := by decide +kernel
theorem c164_43 : vlk 164 43 = some (2, 0, 0, 0, 44) := by decide +kernel
theorem c164_44 : vlk 164 44 = some (6, 0, 0, 0, 45) := by decide +kernel
theorem c164_45 : vlk 164 45 = some (42, 6, 22, 0, 48) := by decide +kernel
theorem c164_48 : vlk 164 48 = some (4, 1, 0, 0, 49) := by decide +kernel
theorem c164_49 : vlk 164 49 = some (45, 0, 0, 0, 50) := by decide +kernel
theorem c164_50 : vlk 164 50 = some (32, 0, 0, 0, 51) := by decide +kernel
theorem c164_51 : vlk 164 51 = some (59, 102, 0, 0, 54) := by decide +kernel
theorem c164_54 : vlk 164 54 = some (70, 61, 0, 0, 57) := by decide +kernel
theorem c164_57 : vlk 164 57 = some (1, 0, 0, 0, 58) := by decide +kernel
theorem c164_58 : vlk 164 58 = some (37, 63, 0, 0, 61) := by decide +kernel
theorem c164_61 : vlk 164 61 = some (1, 0, 0, (-13), 63) := by decide +kernel
theorem c164_63 : vlk 164 63 = some (63, 0, 0, 0, 64) := by decide +kernel
theorem c165_0 : vlk 165 0 = some (6, 0, 0, 0, 1) := by decide +kernel
theorem c165_1 : vlk 165 1 = some (4, 1, 0, 0, 2) := by decide +kernel
theorem c165_2 : vlk 165 2 = some (4, 2, 0, 0, 3) := by decide +kernel
theorem c165_3 : vlk 165 3 = some (4, 3, 0, 0, 4) := by decide +kernel
theorem c165_4 : vlk 165 4 = some (4, 4, 0, 0, 6) := by decide +kernel
theorem c165_6 : vlk 165 6 = some (58, 164, 0, 0, 9) := by decide +kernel
theorem c165_9 : vlk 165 9 = some (7, 5, 0, 0, 11) := by decide +kernel
theorem c165_11 : vlk 165 11 = some (4, 5, 0, 0, 13) := by decide +kernel
theorem c165_13 : vlk 165 13 = some (70, 19, 0, 0, 16) := by decide +kernel
theorem c165_16 : vlk 165 16 = some (4, 5, 0, 0, 18) := by decide +kernel
theorem c165_18 : vlk 165 18 = some (63, 0, 0, 0, 19) := by decide +kernel
theorem c165_19 : vlk 165 19 = some (1, 0, 0, 0, 20) := by decide +kernel
theorem c165_20 : vlk 165 20 = some (7, 6, 0, 0, 22) := by decide +kernel
theorem c165_22 : vlk 165 22 = some (6, 0, 0, 0, 23) := by decide +kernel
theorem c165_23 : vlk 165 23 = some (4, 3, 0, 0, 24) := by decide +kernel
theorem c165_24 : vlk 165 24 = some (4, 4, 0, 0, 26) := by decide +kernel
theorem c165_26 : vlk 165 26 = some (58, 134, 0, 0, 29) := by decide +kernel
theorem c165_29 : vlk 165 29 = some (7, 7, 0, 0, 31) := by decide +kernel
theorem c165_31 : vlk 165 31 = some (4, 7, 0, 0, 33) := by decide +kernel
theorem c165_33 : vlk 165 33 = some (72, 82, 0, 0, 36) := by decide +kernel
theorem c165_36 : vlk 165 36 = some (4, 2, 0, 0, 37) := by decide +kernel
theorem c165_37 : vlk 165 37 = some (4, 6, 0, 0, 39) := by decide +kernel
theorem c165_39 : vlk 165 39 = some (11, 0, 0, 0, 40) := by decide +kernel
theorem c165_40 : vlk 165 40 = some (6, 0, 0, 0, 41) := by decide +kernel
theorem c165_41 : vlk 165 41 = some (42, 6, 22, 0, 44) := by decide +kernel
theorem c165_44 : vlk 165 44 = some (4, 1, 0, 0, 45) := by decide +kernel
theorem c165_45 : vlk 165 45 = some (45, 0, 0, 0, 46) := by decide +kernel
theorem c165_46 : vlk 165 46 = some (79, 82, 0, 0, 49) := by decide +kernel
theorem c165_49 : vlk 165 49 = some (6, 0, 0, 0, 50) := by decide +kernel
theorem c165_50 : vlk 165 50 = some (42, 6, 23, 0, 53) := by decide +kernel
theorem c165_53 : vlk 165 53 = some (1, 0, 0, 30, 55) := by decide +kernel
theorem c165_55 : vlk 165 55 = some (4, 1, 0, 0, 56) := by decide +kernel
theorem c165_56 : vlk 165 56 = some (13, 0, 0, 0, 57) := by decide +kernel
theorem c165_57 : vlk 165 57 = some (4, 2, 0, 0, 58) := by decide +kernel
theorem c165_58 : vlk 165 58 = some (11, 0, 0, 0, 59) := by decide +kernel
theorem c165_59 : vlk 165 59 = some (4, 6, 0, 0, 61) := by decide +kernel
theorem c165_61 : vlk 165 61 = some (11, 0, 0, 0, 62) := by decide +kernel
theorem c165_62 : vlk 165 62 = some (4, 7, 0, 0, 64) := by decide +kernel
theorem c165_64 : vlk 165 64 = some (49, 0, 0, 0, 65) := by decide +kernel
theorem c165_65 : vlk 165 65 = some (10, 6, 0, 1, 68) := by decide +kernel
theorem c165_68 : vlk 165 68 = some (6, 0, 0, 0, 69) := by decide +kernel
theorem c165_69 : vlk 165 69 = some (4, 3, 0, 0, 70) := by decide +kernel
theorem c165_70 : vlk 165 70 = some (4, 7, 0, 0, 72) := by decide +kernel
theorem c165_72 : vlk 165 72 = some (1, 0, 0, 1, 73) := by decide +kernel
theorem c165_73 : vlk 165 73 = some (11, 0, 0, 0, 74) := by decide +kernel
theorem c165_74 : vlk 165 74 = some (58, 134, 0, 0, 77) := by decide +kernel
theorem c165_77 : vlk 165 77 = some (7, 7, 0, 0, 79) := by decide +kernel
theorem c165_79 : vlk 165 79 = some (37, 31, 0, 0, 82) := by decide +kernel
theorem c165_82 : vlk 165 82 = some (4, 6, 0, 0, 84) := by decide +kernel
theorem c165_84 : vlk 165 84 = some (63, 0, 0, 0, 85) := by decide +kernel
theorem c166_0 : vlk 166 0 = some (6, 0, 0, 0, 1) := by decide +kernel
theorem c166_1 : vlk 166 1 = some (4, 1, 0, 0, 2) := by decide +kernel
theorem c166_2 : vlk 166 2 = some (4, 2, 0, 0, 3) := by decide +kernel
theorem c166_3 : vlk 166 3 = some (4, 3, 0, 0, 4) := by decide +kernel
theorem c166_4 : vlk 166 4 = some (4, 4, 0, 0, 6) := by decide +kernel
theorem c166_6 : vlk 166 6 = some (58, 164, 0, 0, 9) := by decide +kernel
theorem c166_9 : vlk 166 9 = some (7, 5, 0, 0, 11) := by decide +kernel
theorem c166_11 : vlk 166 11 = some (4, 5, 0, 0, 13) := by decide +kernel
theorem c166_13 : vlk 166 13 = some (70, 19, 0, 0, 16) := by decide +kernel
theorem c166_16 : vlk 166 16 = some (4, 5, 0, 0, 18) := by decide +kernel
theorem c166_18 : vlk 166 18 = some (63, 0, 0, 0, 19) := by decide +kernel
theorem c166_19 : vlk 166 19 = some (6, 0, 0, 0, 20) := by decide +kernel
theorem c166_20 : vlk 166 20 = some (4, 3, 0, 0, 21) := by decide +kernel
theorem c166_21 : vlk 166 21 = some (4, 4, 0, 0, 23) := by decide +kernel
theorem c166_23 : vlk 166 23 = some (58, 134, 0, 0, 26) := by decide +kernel
theorem c166_26 : vlk 166 26 = some (7, 6, 0, 0, 28) := by decide +kernel
theorem c166_28 : vlk 166 28 = some (4, 2, 0, 0, 29) := by decide +kernel
theorem c166_29 : vlk 166 29 = some (7, 7, 0, 0, 31) := by decide +kernel
theorem c166_31 : vlk 166 31 = some (4, 7, 0, 0, 33) := by decide +kernel
theorem c166_33 : vlk 166 33 = some (6, 0, 0, 0, 34) := by decide +kernel
theorem c166_34 : vlk 166 34 = some (42, 6, 22, 0, 37) := by decide +kernel
theorem c166_37 : vlk 166 37 = some (4, 1, 0, 0, 38) := by decide +kernel
theorem c166_38 : vlk 166 38 = some (45, 0, 0, 0, 39) := by decide +kernel
theorem c166_39 : vlk 166 39 = some (79, 100, 0, 0, 42) := by decide +kernel
theorem c166_42 : vlk 166 42 = some (6, 0, 0, 0, 43) := by decide +kernel
theorem c166_43 : vlk 166 43 = some (42, 6, 23, 0, 46) := by decide +kernel
theorem c166_46 : vlk 166 46 = some (1, 0, 0, 30, 48) := by decide +kernel
theorem c166_48 : vlk 166 48 = some (4, 1, 0, 0, 49) := by decide +kernel
theorem c166_49 : vlk 166 49 = some (13, 0, 0, 0, 50) := by decide +kernel
theorem c166_50 : vlk 166 50 = some (4, 7, 0, 0, 52) := by decide +kernel
theorem c166_52 : vlk 166 52 = some (11, 0, 0, 0, 53) := by decide +kernel
theorem c166_53 : vlk 166 53 = some (45, 0, 0, 0, 54) := by decide +kernel
theorem c166_54 : vlk 166 54 = some (4, 6, 0, 0, 56) := by decide +kernel
theorem c166_56 : vlk 166 56 = some (73, 63, 0, 0, 59) := by decide +kernel
theorem c166_59 : vlk 166 59 = some (1, 0, 0, (-1), 60) := by decide +kernel
theorem c166_60 : vlk 166 60 = some (37, 65, 0, 0, 63) := by decide +kernel
theorem c166_63 : vlk 166 63 = some (4, 6, 0, 0, 65) := by decide +kernel
theorem c166_65 : vlk 166 65 = some (76, 73, 0, 0, 68) := by decide +kernel
theorem c166_68 : vlk 166 68 = some (4, 7, 0, 0, 70) := by decide +kernel
theorem c166_70 : vlk 166 70 = some (4, 2, 0, 0, 71) := by decide +kernel
theorem c166_71 : vlk 166 71 = some (12, 0, 0, 0, 72) := by decide +kernel
theorem c166_72 : vlk 166 72 = some (63, 0, 0, 0, 73) := by decide +kernel
theorem c166_73 : vlk 166 73 = some (4, 6, 0, 0, 75) := by decide +kernel
theorem c166_75 : vlk 166 75 = some (73, 83, 0, 0, 78) := by decide +kernel
theorem c166_78 : vlk 166 78 = some (4, 6, 0, 0, 80) := by decide +kernel
theorem c166_80 : vlk 166 80 = some (37, 92, 0, 0, 83) := by decide +kernel
theorem c166_83 : vlk 166 83 = some (6, 0, 0, 0, 84) := by decide +kernel
theorem c166_84 : vlk 166 84 = some (4, 3, 0, 0, 85) := by decide +kernel
theorem c166_85 : vlk 166 85 = some (4, 6, 0, 0, 87) := by decide +kernel
theorem c166_87 : vlk 166 87 = some (1, 0, 0, 1, 88) := by decide +kernel
theorem c166_88 : vlk 166 88 = some (11, 0, 0, 0, 89) := by decide +kernel
theorem c166_89 : vlk 166 89 = some (58, 134, 0, 0, 92) := by decide +kernel
theorem c166_92 : vlk 166 92 = some (7, 6, 0, 0, 94) := by decide +kernel
theorem c166_94 : vlk 166 94 = some (10, 7, 0, 1, 97) := by decide +kernel
theorem c166_97 : vlk 166 97 = some (37, 31, 0, 0, 100) := by decide +kernel
theorem c166_100 : vlk 166 100 = some (1, 0, 0, (-5), 102) := by decide +kernel
theorem c166_102 : vlk 166 102 = some (63, 0, 0, 0, 103) := by decide +kernel
/-! the reference: a list, a place, a name, a day; laying, judging, moving -/
theorem m_wrong {d c : Nat} {σ : vSg} {x y z u : Int} {h : vHp} {Q : vQ} (hD : vMD h c σ) (hO : vOk σ) (x1 : -2147483648 ≤ x) (x2 : x ≤ 2147483647) (y1 : -2147483648 ≤ y) (y2 : y ≤ 2147483647) (z1 : -2147483648 ≤ z) (z2 : z ≤ 2147483647) (u1 : -2147483648 ≤ u) (u2 : u ≤ 2147483647) (k : Q (some (.int (iI (vQ_ref σ.2.2.2.2 x y z u)))) h) : vCall (d + 3) 0 0 164 [.ref c, .int (iI x), .int (iI y), .int (iI z), .int (iI u)] h Q := by
  obtain ⟨a, w, tp, ho⟩ := vMD_o hD
  obtain ⟨-, -, -, -, ⟨f, g, m, e1, e2, e3, e4⟩⟩ := hD
  unfold vQ_ref at k
  have no : ¬ ((0 ≤ x ∧ x < 4) ∧ 0 ≤ z ∧ z < 10) → vW (vCall (d + 2)) 164 Q 14 [.ref c, .int (iI x), .int (iI y), .int (iI z), .int (iI u)] [] h 0 0 := fun q => by
    rw [if_neg q] at k
    refine r_ci c164_14 ?_
    refine r_iret (st := []) c164_15 ?_
    exact k
  refine vin 5 [_, _, _, _, _] ml_164 rfl rfl ?_
  refine r_iload c164_0 rfl ?_
  refine r_is1 c164_1 vr_159 rfl (k_mList x1 x2 (fun q1 q2 => ?_) (fun q => ?_))
  · dsimp only [vpush]
    refine r_ifeq c164_4 (by omega) (by omega) (fun q => by exfalso; omega) (fun c_4 => ?_)
    refine r_iload c164_7 rfl ?_
    refine r_is1 c164_8 vr_103 rfl (k_mName z1 z2 (fun f1 f2 => ?_) (fun q => ?_))
    · dsimp only [vpush]
      rw [if_pos ⟨⟨q1, q2⟩, f1, f2⟩] at k
      refine r_ifne c164_11 (by omega) (by omega) (fun c_11 => ?_) (fun q => by exfalso; omega)
      refine r_iload c164_16 rfl ?_
      refine r_is1 c164_18 vr_104 rfl (k_mDay u1 u2 (fun g1 g2 => ?_) (fun q => ?_))
      · dsimp only [vpush]
        rw [if_pos ⟨g1, g2⟩] at k
        obtain ⟨i, rfl⟩ := Int.eq_ofNat_of_zero_le q1
        rw [Int.toNat_natCast] at k
        have h4 := e4 i (by omega)
        refine r_ifne c164_21 (by omega) (by omega) (fun c_21 => ?_) (fun q => by exfalso; omega)
        refine r_aload c164_27 rfl (r_get c164_28 ho rfl (r_iload c164_31 rfl (r_iald c164_32 e1 (by omega) (by omega) ?_)))
        rw [Int.toNat_natCast]
        cases hl : σ.2.2.2.2 i with
        | none =>
          rw [hl] at k h4
          rw [show f i = -1 from h4]
          refine r_ifge c164_33 (by omega) (by omega) (fun q => by exfalso; omega) (fun c_33 => ?_)
          refine r_ci c164_36 (r_goto c164_38 ?_)
          refine r_iret (st := []) c164_63 ?_
          exact k
        | some np =>
          obtain ⟨n, p⟩ := np
          have hn := (hO.2.2.2.2.1 i n p (by omega) hl).1
          rw [hl] at k h4
          dsimp only at k
          rw [h4.1]
          refine r_ifge c164_33 (by omega) (by omega) (fun c_33 => ?_) (fun q => by exfalso; omega)
          refine r_iload c164_41 rfl (r_i2l c164_42 (by omega) (by omega) (r_cl c164_43 (r_aload c164_44 rfl (r_get c164_45 ho rfl (r_iload c164_48 rfl (r_iald c164_49 e1 (by omega) (by omega) ?_))))))
          rw [Int.toNat_natCast, h4.1]
          refine r_i2l c164_50 (by omega) (by omega) ?_
          refine r_is3 c164_51 vr_102 rfl (k_isIn (by constructor <;> omega) (by constructor <;> omega) (by constructor <;> omega) (fun r1 r2 => ?_) (fun r => ?_))
          · dsimp only [vpush]
            rw [if_pos ⟨r1, r2⟩] at k
            refine r_ifeq c164_54 (by omega) (by omega) (fun q => by exfalso; omega) (fun c_54 => ?_)
            refine r_ci c164_57 (r_goto c164_58 ?_)
            refine r_iret (st := []) c164_63 ?_
            exact k
          · dsimp only [vpush]
            rw [if_neg r] at k
            refine r_ifeq c164_54 (by omega) (by omega) (fun c_54 => ?_) (fun q => by exfalso; omega)
            refine r_ci c164_61 ?_
            refine r_iret (st := []) c164_63 ?_
            exact k
      · dsimp only [vpush]
        rw [if_neg q] at k
        refine r_ifne c164_21 (by omega) (by omega) (fun q => by exfalso; omega) (fun c_21 => ?_)
        refine r_ci c164_24 ?_
        refine r_iret (st := []) c164_26 ?_
        exact k
    · dsimp only [vpush]
      refine r_ifne c164_11 (by omega) (by omega) (fun q => by exfalso; omega) (fun c_11 => ?_)
      exact no (fun z => q z.2)
  · dsimp only [vpush]
    refine r_ifeq c164_4 (by omega) (by omega) (fun c_4 => ?_) (fun q => by exfalso; omega)
    exact no (fun z => q z.1)
/-- laying goes from day to day -/
theorem vla_no {D : vSt1} {n : Nat} : ∀ (v e pl : Nat) (p : Nat → Int), (vfw D v e 0 = -5 ∨ ¬ pl < n) → vla D n v e pl p = (pl, p)
  | 0, _, _, _, _ => rfl
  | v + 1, e, pl, p, h => by
    have ev : vla D n (v + 1) e pl p = (if pl < n then (if D e = true then vla D n v (e + 1) (pl + 1) (vup p pl (e : Int)) else vla D n v (e + 1) pl p) else (pl, p)) := rfl
    have fv : vfw D (v + 1) e 0 = (if D e = true then (e : Int) else vfw D v (e + 1) 0) := rfl
    rw [ev]
    by_cases hp : pl < n
    · rw [if_pos hp]
      rcases h with h | h
      · rw [fv] at h
        by_cases hd : D e = true
        · rw [if_pos hd] at h; omega
        · rw [if_neg hd] at h ⊢
          exact vla_no v (e + 1) pl p (Or.inl h)
      · exact absurd hp h
    · rw [if_neg hp]
theorem vla_st {D : vSt1} {n m : Nat} : ∀ (v e pl : Nat) (p : Nat → Int), vfw D v e 0 = (m : Int) → pl < n → vla D n v e pl p = vla D n (e + v - (m + 1)) (m + 1) (pl + 1) (vup p pl (m : Int))
  | 0, e, pl, p, h, _ => by
    have h2 : (-5 : Int) = (m : Int) := h
    omega
  | v + 1, e, pl, p, h, hp => by
    have ev : vla D n (v + 1) e pl p = (if pl < n then (if D e = true then vla D n v (e + 1) (pl + 1) (vup p pl (e : Int)) else vla D n v (e + 1) pl p) else (pl, p)) := rfl
    have fv : vfw D (v + 1) e 0 = (if D e = true then (e : Int) else vfw D v (e + 1) 0) := rfl
    rw [ev, if_pos hp]
    rw [fv] at h
    by_cases hd : D e = true
    · rw [if_pos hd] at h ⊢
      obtain rfl : e = m := by omega
      rw [show e + (v + 1) - (e + 1) = v by omega]
    · rw [if_neg hd] at h ⊢
      rw [vla_st v (e + 1) pl p h hp, show e + 1 + v - (m + 1) = e + (v + 1) - (m + 1) by omega]
theorem m_lay {d c : Nat} {σ : vSg} {x y z u : Int} {h : vHp} {Q : vQ} (hD : vMD h c σ) (hO : vOk σ) (x1 : -2147483648 ≤ x) (x2 : x ≤ 2147483647) (y1 : -2147483648 ≤ y) (y2 : y ≤ 2147483647) (z1 : -2147483648 ≤ z) (z2 : z ≤ 2147483647) (u1 : -2147483648 ≤ u) (u2 : u ≤ 2147483647) (k : ∀ h', vMD h' c (vS_lay σ x y z u) → vFr (vZd c) h h' → Q (some (.int (iI (vQ_lay σ x y z u)))) h') : vCall (d + 4) 0 0 165 [.ref c, .int (iI x), .int (iI y), .int (iI z), .int (iI u)] h Q := by
  obtain ⟨a, w, tp, ho⟩ := vMD_o hD
  have hlo := vMD_lo hD
  have hD0 := hD
  have hn := vMD_n hD
  have rr := vQ_ref_rg σ.2.2.2.2 x y z u
  refine vin 8 [_, _, _, _, _, _, _, _] ml_165 rfl rfl ?_
  refine r_aload c165_0 rfl (r_iload c165_1 rfl (r_iload c165_2 rfl (r_iload c165_3 rfl (r_iload c165_4 rfl ?_))))
  refine r_iv4 c165_6 vr_164 ho rfl (m_wrong hD hO x1 x2 y1 y2 z1 z2 u1 u2 ?_)
  dsimp only [vpush]
  refine r_istore c165_9 rfl (r_iload c165_11 rfl ?_)
  try dsimp only [vst]
  refine r_ifeq c165_13 (by omega) (by omega) (fun c_13 => ?_) (fun c_13 => ?_)
  · obtain ⟨⟨q1, q2⟩, ⟨f1, f2⟩, ⟨g1, g2⟩, n, p, hl, r1, r2⟩ := vQ_ref0 c_13
    obtain ⟨-, -, -, -, ⟨f, g, m, e1, e2, e3, e4⟩⟩ := hD
    obtain ⟨i, rfl⟩ := Int.eq_ofNat_of_zero_le q1
    obtain ⟨nm, rfl⟩ := Int.eq_ofNat_of_zero_le f1
    obtain ⟨a0, rfl⟩ := Int.eq_ofNat_of_zero_le g1
    obtain ⟨s0, rfl⟩ := Int.eq_ofNat_of_zero_le r1
    rw [Int.toNat_natCast] at hl
    have h4 := e4 i (by omega)
    rw [hl] at h4
    have hnn := (hO.2.2.2.2.1 i n p (by omega) hl).1
    have eQ : vQ_lay σ (i : Int) (s0 : Int) (nm : Int) (a0 : Int) = ((vla (vDd σ.1 nm) n (720 - a0) a0 s0 p).1 : Int) - (s0 : Int) := by
      unfold vQ_lay
      rw [if_pos c_13, Int.toNat_natCast, Int.toNat_natCast, Int.toNat_natCast, Int.toNat_natCast, hl]
    have eS : vS_lay σ (i : Int) (s0 : Int) (nm : Int) (a0 : Int) = vLu σ i (some (n, (vla (vDd σ.1 nm) n (720 - a0) a0 s0 p).2)) := by
      unfold vS_lay
      rw [if_pos c_13, Int.toNat_natCast, Int.toNat_natCast, Int.toNat_natCast, Int.toNat_natCast, hl]
    rw [eQ, eS] at k
    have zr : ¬ (vQ_ref σ.2.2.2.2 (i : Int) (s0 : Int) (nm : Int) (a0 : Int) ≠ 0) := fun q => q c_13
    rw [c_13]
    have fin : ∀ (h3 : vHp) (g3 p3 : Nat → Int) (pl : Nat) (x7 : Value), vla (vDd σ.1 nm) n (720 - a0) a0 s0 p = (pl, p3) → s0 ≤ pl → hg h3 (c + 16) = some (.inl (0, 120, .inl g3)) → (∀ t, t < 30 → g3 (30 * i + t) = p3 t) → (∀ t, (t < 30 * i ∨ 30 * i + 30 ≤ t) → g3 t = g t) → vFr (fun q => q = c + 16) h h3 → vW (vCall (d + 3)) 165 Q 82 [.ref c, .int (iI (i : Int)), .int (iI (s0 : Int)), .int (iI (nm : Int)), .int (iI (a0 : Int)), .int (iI 0), .int (iI ((pl - s0 : Nat) : Int)), x7] [] h3 0 0 := by
      intro h3 g3 p3 pl x7 hv hs hg3 t1 t2 f3
      rw [hv] at k
      have f4 : vFr (fun q => c + 15 ≤ q ∧ q < c + 18) h h3 := vFr_up f3 (fun q e => by omega)
      refine r_iload c165_82 rfl ?_
      refine r_iret (st := []) c165_84 ?_
      rw [show ((pl - s0 : Nat) : Int) = (pl : Int) - (s0 : Int) by omega]
      exact k h3 (vMD_l hD0 ⟨f, g3, m, (f3.2.2 _ (by omega)).trans e1, hg3, (f3.2.2 _ (by omega)).trans e3, vLi_up e4 ⟨h4.1, t1⟩ (fun t ht => rfl) t2⟩ f4) (vZd_l f4)
    have loop : ∀ (s e pl : Nat) (h3 : vHp) (g3 p3 : Nat → Int), pl + s = 31 → e ≤ 720 → s0 ≤ pl → vla (vDd σ.1 nm) n (720 - a0) a0 s0 p = vla (vDd σ.1 nm) n (720 - e) e pl p3 → hg h3 (c + 16) = some (.inl (0, 120, .inl g3)) → (∀ t, t < 30 → g3 (30 * i + t) = p3 t) → (∀ t, (t < 30 * i ∨ 30 * i + 30 ≤ t) → g3 t = g t) → vFr (fun q => q = c + 16) h h3 → vW (vCall (d + 3)) 165 Q 31 [.ref c, .int (iI (i : Int)), .int (iI (s0 : Int)), .int (iI (nm : Int)), .int (iI (a0 : Int)), .int (iI 0), .int (iI ((pl - s0 : Nat) : Int)), .int (iI (vfw (vDd σ.1 nm) (720 - e) e 0))] [] h3 0 0 := by
      intro s
      induction s with
      | zero =>
        intro e pl h3 g3 p3 hs he hsp hv hg3 t1 t2 f3
        have rg := vfw_range (S := vDd σ.1 nm) (n := 720 - e) (d := e) (k := 0)
        have ho3 := (f3.2.2 c (by omega)).trans ho
        have e13 := (f3.2.2 (c + 15) (by omega)).trans e1
        have gf := fin h3 g3 p3 pl (.int (iI (vfw (vDd σ.1 nm) (720 - e) e 0))) (hv.trans (vla_no _ _ _ _ (Or.inr (by omega)))) hsp hg3 t1 t2 f3
        refine r_iload c165_31 rfl ?_
        refine r_iflt c165_33 (by omega) (by omega) (fun c_33 => ?_) (fun c_33 => ?_)
        · exact gf
        · refine r_iload c165_36 rfl (r_iload c165_37 rfl (r_iadd c165_39 (r_aload c165_40 rfl (r_get c165_41 ho3 rfl (r_iload c165_44 rfl (r_iald c165_45 e13 (by omega) (by omega) ?_))))))
          rw [Int.toNat_natCast, h4.1]
          refine r_icge c165_46 (by omega) (by omega) (by omega) (by omega) (fun c_46 => ?_) (fun q => by exfalso; omega)
          exact gf
      | succ s ih =>
        intro e pl h3 g3 p3 hs he hsp hv hg3 t1 t2 f3
        have rg := vfw_range (S := vDd σ.1 nm) (n := 720 - e) (d := e) (k := 0)
        have ho3 := (f3.2.2 c (by omega)).trans ho
        have e13 := (f3.2.2 (c + 15) (by omega)).trans e1
        have gf := fun hh => fin h3 g3 p3 pl (.int (iI (vfw (vDd σ.1 nm) (720 - e) e 0))) (hv.trans (vla_no _ _ _ _ hh)) hsp hg3 t1 t2 f3
        refine r_iload c165_31 rfl ?_
        refine r_iflt c165_33 (by omega) (by omega) (fun c_33 => ?_) (fun c_33 => ?_)
        · exact gf (Or.inl (by omega))
        · obtain ⟨m0, hm0⟩ := Int.eq_ofNat_of_zero_le c_33
          refine r_iload c165_36 rfl (r_iload c165_37 rfl (r_iadd c165_39 (r_aload c165_40 rfl (r_get c165_41 ho3 rfl (r_iload c165_44 rfl (r_iald c165_45 e13 (by omega) (by omega) ?_))))))
          rw [Int.toNat_natCast, h4.1]
          refine r_icge c165_46 (by omega) (by omega) (by omega) (by omega) (fun c_46 => ?_) (fun c_46 => ?_)
          · exact gf (Or.inr (by omega))
          · have hvs := vla_st (n := n) (720 - e) e pl p3 hm0 (by omega)
            rw [show e + (720 - e) - (m0 + 1) = 720 - (m0 + 1) by omega] at hvs
            rw [hm0]
            refine r_aload c165_49 rfl (r_get c165_50 ho3 rfl (r_ci c165_53 (r_iload c165_55 rfl (r_imul c165_56 (r_iload c165_57 rfl (r_iadd c165_58 (r_iload c165_59 rfl (r_iadd c165_61 (r_iload c165_62 rfl ?_)))))))))
            refine r_iast c165_64 hg3 (by rw [f3.1]; omega) (by omega) (by omega) (fun h5 s5 => ?_)
            rw [show ((30 : Int) * (i : Int) + (s0 : Int) + ((pl - s0 : Nat) : Int)).toNat = 30 * i + pl by omega] at s5
            have f5 := vFr_tr f3 (vFr_st s5)
            have hn5 : vMn h5 c σ.1 := by
              obtain ⟨⟨aa, ww, tt, GG, hM⟩, -⟩ := hD0
              exact vRp_n (vRp_fr hM f5 (by omega) (by omega) (by omega) (by omega) (by omega) (by omega))
            obtain ⟨fs5, ho5⟩ := vMn_o hn5
            refine r_iinc c165_65 rfl rfl (r_aload c165_68 rfl (r_iload c165_69 rfl (r_iload c165_70 rfl (r_ci c165_72 (r_iadd c165_73 ?_)))))
            try dsimp only [vst]
            rw [vsu m0]
            refine r_iv2 c165_74 vr_134 ho5 rfl (k_nextOf hn5 (by omega) (by omega) ?_)
            dsimp only [vpush]
            refine r_istore c165_77 rfl (r_goto c165_79 ?_)
            try dsimp only [vst]
            rw [show ((pl - s0 : Nat) : Int) + 1 = ((pl + 1 - s0 : Nat) : Int) by omega]
            refine ih (m0 + 1) (pl + 1) h5 _ _ (by omega) (by omega) (by omega) (hv.trans hvs) s5.2.2.1 (fun t ht => ?_) (fun t ht => ?_) f5
            · unfold vup
              by_cases e : t = pl
              · rw [if_pos (by omega), if_pos e]
              · rw [if_neg (by omega), if_neg e]; exact t1 t ht
            · unfold vup
              rw [if_neg (by omega)]; exact t2 t ht
    refine r_ci c165_19 (r_istore c165_20 rfl (r_aload c165_22 rfl (r_iload c165_23 rfl (r_iload c165_24 rfl ?_))))
    try dsimp only [vst]
    refine r_iv2 c165_26 vr_134 ho rfl (k_nextOf hn (by omega) (by omega) ?_)
    dsimp only [vpush]
    refine r_istore c165_29 rfl ?_
    try dsimp only [vst]
    have g0 := loop (31 - s0) a0 s0 h g p (by omega) (by omega) (Nat.le_refl _) rfl e2 h4.2 (fun t _ => rfl) vFr_rf
    rw [Nat.sub_self] at g0
    exact g0
  · have eQ : vQ_lay σ x y z u = vQ_ref σ.2.2.2.2 x y z u := if_neg c_13
    have eS : vS_lay σ x y z u = σ := if_neg c_13
    rw [eQ, eS] at k
    refine r_iload c165_16 rfl ?_
    refine r_iret (st := []) c165_18 ?_
    exact k h hD0 vFr_rf
theorem m_judge {d c : Nat} {σ : vSg} {x y z u : Int} {h : vHp} {Q : vQ} (hD : vMD h c σ) (hO : vOk σ) (x1 : -2147483648 ≤ x) (x2 : x ≤ 2147483647) (y1 : -2147483648 ≤ y) (y2 : y ≤ 2147483647) (z1 : -2147483648 ≤ z) (z2 : z ≤ 2147483647) (u1 : -2147483648 ≤ u) (u2 : u ≤ 2147483647) (k : Q (some (.int (iI (vQ_judge σ x y z u)))) h) : vCall (d + 4) 0 0 166 [.ref c, .int (iI x), .int (iI y), .int (iI z), .int (iI u)] h Q := by
  obtain ⟨a, w, tp, ho⟩ := vMD_o hD
  have hn := vMD_n hD
  have rr := vQ_ref_rg σ.2.2.2.2 x y z u
  refine vin 8 [_, _, _, _, _, _, _, _] ml_166 rfl rfl ?_
  refine r_aload c166_0 rfl (r_iload c166_1 rfl (r_iload c166_2 rfl (r_iload c166_3 rfl (r_iload c166_4 rfl ?_))))
  refine r_iv4 c166_6 vr_164 ho rfl (m_wrong hD hO x1 x2 y1 y2 z1 z2 u1 u2 ?_)
  dsimp only [vpush]
  refine r_istore c166_9 rfl (r_iload c166_11 rfl ?_)
  try dsimp only [vst]
  refine r_ifeq c166_13 (by omega) (by omega) (fun c_13 => ?_) (fun c_13 => ?_)
  · obtain ⟨⟨q1, q2⟩, ⟨f1, f2⟩, ⟨g1, g2⟩, n, p, hl, r1, r2⟩ := vQ_ref0 c_13
    obtain ⟨-, -, -, -, ⟨f, g, m, e1, e2, e3, e4⟩⟩ := hD
    obtain ⟨i, rfl⟩ := Int.eq_ofNat_of_zero_le q1
    obtain ⟨nm, rfl⟩ := Int.eq_ofNat_of_zero_le f1
    obtain ⟨a0, rfl⟩ := Int.eq_ofNat_of_zero_le g1
    obtain ⟨s0, rfl⟩ := Int.eq_ofNat_of_zero_le r1
    rw [Int.toNat_natCast] at hl
    have h4 := e4 i (by omega)
    rw [hl] at h4
    have hnn := hO.2.2.2.2.1 i n p (by omega) hl
    have eQ : vQ_judge σ (i : Int) (s0 : Int) (nm : Int) (a0 : Int) = vju (vDd σ.1 nm) p s0 (n - s0) s0 a0 := by
      unfold vQ_judge
      rw [if_pos c_13, Int.toNat_natCast, Int.toNat_natCast, Int.toNat_natCast, Int.toNat_natCast, hl]
    rw [eQ] at k
    rw [c_13]
    have loop : ∀ (v pl e : Nat), pl + v = n → s0 ≤ pl → e ≤ 720 → vju (vDd σ.1 nm) p s0 (n - s0) s0 a0 = vju (vDd σ.1 nm) p s0 v pl e → vW (vCall (d + 3)) 166 Q 31 [.ref c, .int (iI (i : Int)), .int (iI (s0 : Int)), .int (iI (nm : Int)), .int (iI (a0 : Int)), .int (iI 0), .int (iI (vfw (vDd σ.1 nm) (720 - e) e 0)), .int (iI (pl : Int))] [] h 0 0 := by
      intro v
      induction v with
      | zero =>
        intro pl e hp hs he hv
        rw [hv] at k
        refine r_iload c166_31 rfl (r_aload c166_33 rfl (r_get c166_34 ho rfl (r_iload c166_37 rfl (r_iald c166_38 e1 (by omega) (by omega) ?_))))
        rw [Int.toNat_natCast, h4.1]
        refine r_icge c166_39 (by omega) (by omega) (by omega) (by omega) (fun c_39 => ?_) (fun q => by exfalso; omega)
        refine r_ci c166_100 ?_
        refine r_iret (st := []) c166_102 ?_
        exact k
      | succ v ih =>
        intro pl e hp hs he hv
        have rg := vfw_range (S := vDd σ.1 nm) (n := 720 - e) (d := e) (k := 0)
        have hb := hnn.2 pl (by omega)
        have hv2 := hv.trans (show vju (vDd σ.1 nm) p s0 (v + 1) pl e = (if p pl = (if vpk (vDd σ.1 nm) e 719 0 < 0 then -1 else vpk (vDd σ.1 nm) e 719 0) then vju (vDd σ.1 nm) p s0 v (pl + 1) (if vpk (vDd σ.1 nm) e 719 0 < 0 then 720 else (vpk (vDd σ.1 nm) e 719 0).toNat + 1) else (pl : Int) - (s0 : Int)) from rfl)
        rw [vpk_fw] at hv2
        refine r_iload c166_31 rfl (r_aload c166_33 rfl (r_get c166_34 ho rfl (r_iload c166_37 rfl (r_iald c166_38 e1 (by omega) (by omega) ?_))))
        rw [Int.toNat_natCast, h4.1]
        refine r_icge c166_39 (by omega) (by omega) (by omega) (by omega) (fun q => by exfalso; omega) (fun c_39 => ?_)
        refine r_aload c166_42 rfl (r_get c166_43 ho rfl (r_ci c166_46 (r_iload c166_48 rfl (r_imul c166_49 (r_iload c166_50 rfl (r_iadd c166_52 (r_iald c166_53 e2 (by omega) (by omega) (r_iload c166_54 rfl ?_))))))))
        rw [show ((30 : Int) * (i : Int) + (pl : Int)).toNat = 30 * i + pl by omega, h4.2 pl (by omega)]
        refine r_ifge c166_56 (by omega) (by omega) (fun c_56 => ?_) (fun c_56 => ?_)
        · rw [if_neg (show ¬ vfw (vDd σ.1 nm) (720 - e) e 0 < 0 by omega), if_neg (show ¬ vfw (vDd σ.1 nm) (720 - e) e 0 < 0 by omega)] at hv2
          refine r_iload c166_63 rfl ?_
          refine r_iceq c166_65 (by omega) (by omega) (by omega) (by omega) (fun c_65 => ?_) (fun c_65 => ?_)
          · rw [if_pos c_65] at hv2
            obtain ⟨m0, hm0⟩ := Int.eq_ofNat_of_zero_le c_56
            rw [hm0, Int.toNat_natCast] at hv2
            rw [hm0]
            refine r_iload c166_73 rfl ?_
            refine r_ifge c166_75 (by omega) (by omega) (fun c_75 => ?_) (fun q => by exfalso; omega)
            refine r_aload c166_83 rfl (r_iload c166_84 rfl (r_iload c166_85 rfl (r_ci c166_87 (r_iadd c166_88 ?_))))
            rw [vsu]
            refine r_iv2 c166_89 vr_134 ho rfl (k_nextOf hn (by omega) (by omega) ?_)
            dsimp only [vpush]
            refine r_istore c166_92 rfl (r_iinc c166_94 rfl rfl (r_goto c166_97 ?_))
            try dsimp only [vst]
            rw [vsu]
            exact ih (pl + 1) (m0 + 1) (by omega) (by omega) (by omega) hv2
          · rw [if_neg c_65] at hv2
            rw [hv2] at k
            refine r_iload c166_68 rfl (r_iload c166_70 rfl (r_isub c166_71 ?_))
            refine r_iret (st := []) c166_72 ?_
            exact k
        · rw [if_pos (show vfw (vDd σ.1 nm) (720 - e) e 0 < 0 by omega), if_pos (show vfw (vDd σ.1 nm) (720 - e) e 0 < 0 by omega)] at hv2
          refine r_ci c166_59 (r_goto c166_60 ?_)
          refine r_iceq c166_65 (by omega) (by omega) (by omega) (by omega) (fun c_65 => ?_) (fun c_65 => ?_)
          · rw [if_pos c_65] at hv2
            refine r_iload c166_73 rfl ?_
            refine r_ifge c166_75 (by omega) (by omega) (fun q => by exfalso; omega) (fun c_75 => ?_)
            refine r_iload c166_78 rfl (r_goto c166_80 (r_istore c166_92 rfl (r_iinc c166_94 rfl rfl (r_goto c166_97 ?_))))
            try dsimp only [vst]
            rw [vsu, show vfw (vDd σ.1 nm) (720 - e) e 0 = vfw (vDd σ.1 nm) (720 - 720) 720 0 by rw [show vfw (vDd σ.1 nm) (720 - 720) 720 0 = -5 from rfl]; omega]
            exact ih (pl + 1) 720 (by omega) (by omega) (by omega) hv2
          · rw [if_neg c_65] at hv2
            rw [hv2] at k
            refine r_iload c166_68 rfl (r_iload c166_70 rfl (r_isub c166_71 ?_))
            refine r_iret (st := []) c166_72 ?_
            exact k
    refine r_aload c166_19 rfl (r_iload c166_20 rfl (r_iload c166_21 rfl ?_))
    refine r_iv2 c166_23 vr_134 ho rfl (k_nextOf hn (by omega) (by omega) ?_)
    dsimp only [vpush]
    refine r_istore c166_26 rfl (r_iload c166_28 rfl (r_istore c166_29 rfl ?_))
    try dsimp only [vst]
    exact loop (n - s0) s0 a0 (by omega) (Nat.le_refl _) (by omega) rfl
  · have eQ : vQ_judge σ x y z u = vQ_ref σ.2.2.2.2 x y z u := if_neg c_13
    rw [eQ] at k
    refine r_iload c166_16 rfl ?_
    refine r_iret (st := []) c166_18 ?_
    exact k

