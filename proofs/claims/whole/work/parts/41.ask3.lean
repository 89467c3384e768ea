theorem ml_66 : vml 66 = 5 := by decide +kernel
theorem ml_77 : vml 77 = 2 := by decide +kernel
theorem ml_78 : vml 78 = 3 := by decide +kernel
theorem ml_95 : vml 95 = 3 := by decide +kernel
theorem ml_96 : vml 96 = 4 := by decide +kernel
theorem vr_21 : vrc 21 = some (1, 4) := by decide +kernel
theorem vr_89 : vrc 89 = some (5, 2) := by decide +kernel
theorem vr_97 : vrc 97 = some (5, 0) := by decide +kernel
theorem vr_98 : vrc 98 = some (5, 0) := by decide +kernel
theorem vr_99 : vrc 99 = some (5, 0) := by decide +kernel
theorem c66_0 : vlk 66 0 = some (4, 1, 0, 0, 1) := by decide +kernel
theorem c66_1 : vlk 66 1 = some (59, 87, 0, 0, 4) := by decide +kernel
theorem c66_4 : vlk 66 4 = some (71, 9, 0, 0, 7) := by decide +kernel
theorem c66_7 : vlk 66 7 = some (1, 0, 0, (-1), 8) := by decide +kernel
theorem c66_8 : vlk 66 8 = some (63, 0, 0, 0, 9) := by decide +kernel
theorem c66_9 : vlk 66 9 = some (4, 2, 0, 0, 10) := by decide +kernel
theorem c66_10 : vlk 66 10 = some (4, 3, 0, 0, 11) := by decide +kernel
theorem c66_11 : vlk 66 11 = some (59, 89, 0, 0, 14) := by decide +kernel
theorem c66_14 : vlk 66 14 = some (71, 20, 0, 0, 17) := by decide +kernel
theorem c66_17 : vlk 66 17 = some (1, 0, 0, (-2), 19) := by decide +kernel
theorem c66_19 : vlk 66 19 = some (63, 0, 0, 0, 20) := by decide +kernel
theorem c66_20 : vlk 66 20 = some (6, 0, 0, 0, 21) := by decide +kernel
theorem c66_21 : vlk 66 21 = some (42, 5, 0, 0, 24) := by decide +kernel
theorem c66_24 : vlk 66 24 = some (4, 1, 0, 0, 25) := by decide +kernel
theorem c66_25 : vlk 66 25 = some (48, 0, 0, 0, 26) := by decide +kernel
theorem c66_26 : vlk 66 26 = some (42, 2, 4, 0, 29) := by decide +kernel
theorem c66_29 : vlk 66 29 = some (4, 2, 0, 0, 30) := by decide +kernel
theorem c66_30 : vlk 66 30 = some (4, 3, 0, 0, 31) := by decide +kernel
theorem c66_31 : vlk 66 31 = some (58, 11, 0, 0, 34) := by decide +kernel
theorem c66_34 : vlk 66 34 = some (7, 4, 0, 0, 36) := by decide +kernel
theorem c66_36 : vlk 66 36 = some (6, 0, 0, 0, 37) := by decide +kernel
theorem c66_37 : vlk 66 37 = some (42, 5, 4, 0, 40) := by decide +kernel
theorem c66_40 : vlk 66 40 = some (4, 1, 0, 0, 41) := by decide +kernel
theorem c66_41 : vlk 66 41 = some (4, 2, 0, 0, 42) := by decide +kernel
theorem c66_42 : vlk 66 42 = some (4, 3, 0, 0, 43) := by decide +kernel
theorem c66_43 : vlk 66 43 = some (4, 4, 0, 0, 45) := by decide +kernel
theorem c66_45 : vlk 66 45 = some (58, 21, 0, 0, 48) := by decide +kernel
theorem c66_48 : vlk 66 48 = some (4, 4, 0, 0, 50) := by decide +kernel
theorem c66_50 : vlk 66 50 = some (63, 0, 0, 0, 51) := by decide +kernel
theorem c77_0 : vlk 77 0 = some (4, 1, 0, 0, 1) := by decide +kernel
theorem c77_1 : vlk 77 1 = some (67, 4, 0, 0, 44) := by decide +kernel
theorem c77_44 : vlk 77 44 = some (6, 0, 0, 0, 45) := by decide +kernel
theorem c77_45 : vlk 77 45 = some (58, 97, 0, 0, 48) := by decide +kernel
theorem c77_48 : vlk 77 48 = some (63, 0, 0, 0, 49) := by decide +kernel
theorem c77_49 : vlk 77 49 = some (6, 0, 0, 0, 50) := by decide +kernel
theorem c77_50 : vlk 77 50 = some (42, 5, 4, 0, 53) := by decide +kernel
theorem c77_53 : vlk 77 53 = some (42, 1, 2, 0, 56) := by decide +kernel
theorem c77_56 : vlk 77 56 = some (63, 0, 0, 0, 57) := by decide +kernel
theorem c77_57 : vlk 77 57 = some (6, 0, 0, 0, 58) := by decide +kernel
theorem c77_58 : vlk 77 58 = some (42, 5, 4, 0, 61) := by decide +kernel
theorem c77_61 : vlk 77 61 = some (42, 1, 3, 0, 64) := by decide +kernel
theorem c77_64 : vlk 77 64 = some (63, 0, 0, 0, 65) := by decide +kernel
theorem c77_65 : vlk 77 65 = some (6, 0, 0, 0, 66) := by decide +kernel
theorem c77_66 : vlk 77 66 = some (42, 5, 4, 0, 69) := by decide +kernel
theorem c77_69 : vlk 77 69 = some (42, 1, 1, 0, 72) := by decide +kernel
theorem c77_72 : vlk 77 72 = some (63, 0, 0, 0, 73) := by decide +kernel
theorem c77_73 : vlk 77 73 = some (6, 0, 0, 0, 74) := by decide +kernel
theorem c77_74 : vlk 77 74 = some (42, 5, 3, 0, 77) := by decide +kernel
theorem c77_77 : vlk 77 77 = some (42, 3, 1, 0, 80) := by decide +kernel
theorem c77_80 : vlk 77 80 = some (63, 0, 0, 0, 81) := by decide +kernel
theorem c77_81 : vlk 77 81 = some (6, 0, 0, 0, 82) := by decide +kernel
theorem c77_82 : vlk 77 82 = some (58, 98, 0, 0, 85) := by decide +kernel
theorem c77_85 : vlk 77 85 = some (63, 0, 0, 0, 86) := by decide +kernel
theorem c77_86 : vlk 77 86 = some (6, 0, 0, 0, 87) := by decide +kernel
theorem c77_87 : vlk 77 87 = some (58, 99, 0, 0, 90) := by decide +kernel
theorem c77_90 : vlk 77 90 = some (63, 0, 0, 0, 91) := by decide +kernel
theorem c77_91 : vlk 77 91 = some (1, 0, 0, (-1), 92) := by decide +kernel
theorem c77_92 : vlk 77 92 = some (63, 0, 0, 0, 93) := by decide +kernel
theorem c78_0 : vlk 78 0 = some (4, 1, 0, 0, 1) := by decide +kernel
theorem c78_1 : vlk 78 1 = some (72, 24, 0, 0, 4) := by decide +kernel
theorem c78_4 : vlk 78 4 = some (4, 1, 0, 0, 5) := by decide +kernel
theorem c78_5 : vlk 78 5 = some (6, 0, 0, 0, 6) := by decide +kernel
theorem c78_6 : vlk 78 6 = some (42, 5, 4, 0, 9) := by decide +kernel
theorem c78_9 : vlk 78 9 = some (42, 1, 1, 0, 12) := by decide +kernel
theorem c78_12 : vlk 78 12 = some (79, 24, 0, 0, 15) := by decide +kernel
theorem c78_15 : vlk 78 15 = some (4, 2, 0, 0, 16) := by decide +kernel
theorem c78_16 : vlk 78 16 = some (72, 24, 0, 0, 19) := by decide +kernel
theorem c78_19 : vlk 78 19 = some (4, 2, 0, 0, 20) := by decide +kernel
theorem c78_20 : vlk 78 20 = some (1, 0, 0, 4, 21) := by decide +kernel
theorem c78_21 : vlk 78 21 = some (78, 26, 0, 0, 24) := by decide +kernel
theorem c78_24 : vlk 78 24 = some (1, 0, 0, (-1), 25) := by decide +kernel
theorem c78_25 : vlk 78 25 = some (63, 0, 0, 0, 26) := by decide +kernel
theorem c78_26 : vlk 78 26 = some (6, 0, 0, 0, 27) := by decide +kernel
theorem c78_27 : vlk 78 27 = some (42, 5, 4, 0, 30) := by decide +kernel
theorem c78_30 : vlk 78 30 = some (42, 1, 0, 0, 33) := by decide +kernel
theorem c78_33 : vlk 78 33 = some (4, 1, 0, 0, 34) := by decide +kernel
theorem c78_34 : vlk 78 34 = some (48, 0, 0, 0, 35) := by decide +kernel
theorem c78_35 : vlk 78 35 = some (4, 2, 0, 0, 36) := by decide +kernel
theorem c78_36 : vlk 78 36 = some (45, 0, 0, 0, 37) := by decide +kernel
theorem c78_37 : vlk 78 37 = some (63, 0, 0, 0, 38) := by decide +kernel
theorem c95_0 : vlk 95 0 = some (6, 0, 0, 0, 1) := by decide +kernel
theorem c95_1 : vlk 95 1 = some (42, 5, 6, 0, 4) := by decide +kernel
theorem c95_4 : vlk 95 4 = some (58, 4, 0, 0, 7) := by decide +kernel
theorem c95_7 : vlk 95 7 = some (1, 0, 0, 0, 8) := by decide +kernel
theorem c95_8 : vlk 95 8 = some (7, 2, 0, 0, 9) := by decide +kernel
theorem c95_9 : vlk 95 9 = some (4, 2, 0, 0, 10) := by decide +kernel
theorem c95_10 : vlk 95 10 = some (1, 0, 0, 10, 12) := by decide +kernel
theorem c95_12 : vlk 95 12 = some (79, 45, 0, 0, 15) := by decide +kernel
theorem c95_15 : vlk 95 15 = some (4, 1, 0, 0, 16) := by decide +kernel
theorem c95_16 : vlk 95 16 = some (4, 2, 0, 0, 17) := by decide +kernel
theorem c95_17 : vlk 95 17 = some (20, 0, 0, 0, 18) := by decide +kernel
theorem c95_18 : vlk 95 18 = some (1, 0, 0, 1, 19) := by decide +kernel
theorem c95_19 : vlk 95 19 = some (17, 0, 0, 0, 20) := by decide +kernel
theorem c95_20 : vlk 95 20 = some (70, 39, 0, 0, 23) := by decide +kernel
theorem c95_23 : vlk 95 23 = some (6, 0, 0, 0, 24) := by decide +kernel
theorem c95_24 : vlk 95 24 = some (42, 5, 6, 0, 27) := by decide +kernel
theorem c95_27 : vlk 95 27 = some (6, 0, 0, 0, 28) := by decide +kernel
theorem c95_28 : vlk 95 28 = some (42, 5, 0, 0, 31) := by decide +kernel
theorem c95_31 : vlk 95 31 = some (4, 2, 0, 0, 32) := by decide +kernel
theorem c95_32 : vlk 95 32 = some (48, 0, 0, 0, 33) := by decide +kernel
theorem c95_33 : vlk 95 33 = some (42, 2, 4, 0, 36) := by decide +kernel
theorem c95_36 : vlk 95 36 = some (58, 6, 0, 0, 39) := by decide +kernel
theorem c95_39 : vlk 95 39 = some (10, 2, 0, 1, 42) := by decide +kernel
theorem c95_42 : vlk 95 42 = some (37, 9, 0, 0, 45) := by decide +kernel
theorem c95_45 : vlk 95 45 = some (66, 0, 0, 0, 46) := by decide +kernel
theorem c96_0 : vlk 96 0 = some (1, 0, 0, 0, 1) := by decide +kernel
theorem c96_1 : vlk 96 1 = some (7, 2, 0, 0, 2) := by decide +kernel
theorem c96_2 : vlk 96 2 = some (1, 0, 0, 0, 3) := by decide +kernel
theorem c96_3 : vlk 96 3 = some (7, 3, 0, 0, 4) := by decide +kernel
theorem c96_4 : vlk 96 4 = some (4, 3, 0, 0, 5) := by decide +kernel
theorem c96_5 : vlk 96 5 = some (1, 0, 0, 10, 7) := by decide +kernel
theorem c96_7 : vlk 96 7 = some (79, 38, 0, 0, 10) := by decide +kernel
theorem c96_10 : vlk 96 10 = some (6, 0, 0, 0, 11) := by decide +kernel
theorem c96_11 : vlk 96 11 = some (42, 5, 0, 0, 14) := by decide +kernel
theorem c96_14 : vlk 96 14 = some (4, 3, 0, 0, 15) := by decide +kernel
theorem c96_15 : vlk 96 15 = some (48, 0, 0, 0, 16) := by decide +kernel
theorem c96_16 : vlk 96 16 = some (42, 2, 4, 0, 19) := by decide +kernel
theorem c96_19 : vlk 96 19 = some (4, 1, 0, 0, 20) := by decide +kernel
theorem c96_20 : vlk 96 20 = some (58, 1, 0, 0, 23) := by decide +kernel
theorem c96_23 : vlk 96 23 = some (70, 32, 0, 0, 26) := by decide +kernel
theorem c96_26 : vlk 96 26 = some (4, 2, 0, 0, 27) := by decide +kernel
theorem c96_27 : vlk 96 27 = some (1, 0, 0, 1, 28) := by decide +kernel
theorem c96_28 : vlk 96 28 = some (4, 3, 0, 0, 29) := by decide +kernel
theorem c96_29 : vlk 96 29 = some (19, 0, 0, 0, 30) := by decide +kernel
theorem c96_30 : vlk 96 30 = some (18, 0, 0, 0, 31) := by decide +kernel
theorem c96_31 : vlk 96 31 = some (7, 2, 0, 0, 32) := by decide +kernel
theorem c96_32 : vlk 96 32 = some (10, 3, 0, 1, 35) := by decide +kernel
theorem c96_35 : vlk 96 35 = some (37, 4, 0, 0, 38) := by decide +kernel
theorem c96_38 : vlk 96 38 = some (4, 2, 0, 0, 39) := by decide +kernel
theorem c96_39 : vlk 96 39 = some (63, 0, 0, 0, 40) := by decide +kernel
/-! the object's questions: told, remembered, count, and those about sets of names -/
def vQ_told (σ : vSg) (x : Int) : Int := if x = 0 then vQ_ruled σ.1 else if x = 1 then σ.2.2.1.2.1 else if x = 2 then σ.2.2.1.2.2 else if x = 3 then (σ.2.2.1.1.length : Int) else if x = 4 then (σ.2.2.2.1.1 : Int) else if x = 5 then vQ_outs σ.1 else if x = 6 then vQ_extras σ.1 else -1
theorem k_told {d b : Nat} {σ : vSg} {x : Int} {h : vHp} {Q : vQ} (hR : vRD h b σ) (x1 : -2147483648 ≤ x) (x2 : x ≤ 2147483647) (k : Q (some (.int (iI (vQ_told σ x)))) h) : vCall (d + 5) 0 0 77 [.ref b, .int (iI x)] h Q := by
  have hR0 := hR
  obtain ⟨a1, ⟨p, p1, p2⟩, ⟨s, s1, s2⟩, ⟨w, w1, w2⟩, a5, a6, a7, a8, ⟨J, a9⟩, b1, b2, b3⟩ := hR
  obtain ⟨hlen, L, ⟨m0, pm, mm⟩, hL⟩ := a8
  unfold vMo at m0
  obtain ⟨⟨pl, r0⟩, rz, rk⟩ := a7
  unfold vRo at r0
  unfold vQ_told at k
  refine vin 2 [_, _] ml_77 rfl rfl ?_
  refine r_iload c77_0 rfl ?_
  refine r_sw c77_1 rfl (by omega) (by omega) ?_
  by_cases h0 : x = 0
  · rw [if_pos h0] at k
    subst h0
    refine r_aload c77_44 rfl ?_
    refine r_iv0 c77_45 vr_97 a1 rfl (k_ruledNames hR0 ?_)
    dsimp only [vpush]
    refine r_iret (st := []) c77_48 ?_
    exact k
  · rw [if_neg h0] at k
    by_cases h1 : x = 1
    · rw [if_pos h1] at k
      subst h1
      refine r_aload c77_49 rfl (r_get c77_50 a1 rfl (r_get c77_53 m0 rfl ?_))
      refine r_iret (st := []) c77_56 ?_
      exact k
    · rw [if_neg h1] at k
      by_cases h2 : x = 2
      · rw [if_pos h2] at k
        subst h2
        refine r_aload c77_57 rfl (r_get c77_58 a1 rfl (r_get c77_61 m0 rfl ?_))
        refine r_iret (st := []) c77_64 ?_
        exact k
      · rw [if_neg h2] at k
        by_cases h3 : x = 3
        · rw [if_pos h3] at k
          subst h3
          refine r_aload c77_65 rfl (r_get c77_66 a1 rfl (r_get c77_69 m0 rfl ?_))
          refine r_iret (st := []) c77_72 ?_
          exact k
        · rw [if_neg h3] at k
          by_cases h4 : x = 4
          · rw [if_pos h4] at k
            subst h4
            refine r_aload c77_73 rfl (r_get c77_74 a1 rfl (r_get c77_77 r0 rfl ?_))
            refine r_iret (st := []) c77_80 ?_
            exact k
          · rw [if_neg h4] at k
            by_cases h5 : x = 5
            · rw [if_pos h5] at k
              subst h5
              refine r_aload c77_81 rfl ?_
              refine r_iv0 c77_82 vr_98 a1 rfl (k_daysOutOfAll hR0 ?_)
              dsimp only [vpush]
              refine r_iret (st := []) c77_85 ?_
              exact k
            · rw [if_neg h5] at k
              by_cases h6 : x = 6
              · rw [if_pos h6] at k
                subst h6
                refine r_aload c77_86 rfl ?_
                refine r_iv0 c77_87 vr_99 a1 rfl (k_extraDaysOfAll hR0 ?_)
                dsimp only [vpush]
                refine r_iret (st := []) c77_90 ?_
                exact k
              · rw [if_neg h6] at k
                have e : vfd [(0, 44), (1, 49), (2, 57), (3, 65), (4, 73), (5, 81), (6, 86)] 91 x = 91 := by
                  simp only [vfd, if_neg h0, if_neg h1, if_neg h2, if_neg h3, if_neg h4, if_neg h5, if_neg h6]
                rw [e]
                refine r_ci c77_91 ?_
                refine r_iret (st := []) c77_92 ?_
                exact k
def vQ_rem (l : List vSp) (x y : Int) : Int := if 0 ≤ x ∧ 0 ≤ y ∧ y < 4 then (match l[x.toNat]? with
  | some s => if y = 0 then s.1 else if y = 1 then s.2.1 else if y = 2 then s.2.2.1 else s.2.2.2
  | none => -1) else -1
theorem k_remembered {d b : Nat} {σ : vSg} {x y : Int} {h : vHp} {Q : vQ} (hR : vRD h b σ) (x1 : -2147483648 ≤ x) (x2 : x ≤ 2147483647) (y1 : -2147483648 ≤ y) (y2 : y ≤ 2147483647) (k : Q (some (.int (iI (vQ_rem σ.2.2.1.1 x y)))) h) : vCall (d + 5) 0 0 78 [.ref b, .int (iI x), .int (iI y)] h Q := by
  obtain ⟨a1, ⟨p, p1, p2⟩, ⟨s, s1, s2⟩, ⟨w, w1, w2⟩, a5, a6, a7, a8, ⟨J, a9⟩, b1, b2, b3⟩ := hR
  obtain ⟨hlen, L, ⟨m0, pm, ⟨pp, hp, hp2⟩, hj, hr⟩, hL⟩ := a8
  unfold vMo at m0
  have no : vQ_rem σ.2.2.1.1 x y = -1 → vW (vCall (d + 4)) 78 Q 24 [.ref b, .int (iI x), .int (iI y)] [] h 0 0 := fun q => by
    rw [q] at k
    refine r_ci c78_24 ?_
    refine r_iret (st := []) c78_25 ?_
    exact k
  refine vin 3 [_, _, _] ml_78 rfl rfl ?_
  refine r_iload c78_0 rfl ?_
  refine r_iflt c78_1 (by omega) (by omega) (fun c_1 => ?_) (fun c_1 => ?_)
  · exact no (by unfold vQ_rem; exact if_neg (by omega))
  · refine r_iload c78_4 rfl (r_aload c78_5 rfl (r_get c78_6 a1 rfl (r_get c78_9 m0 rfl ?_)))
    refine r_icge c78_12 (by omega) (by omega) (by omega) (by omega) (fun c_12 => ?_) (fun c_12 => ?_)
    · refine no ?_
      unfold vQ_rem
      split
      · rw [List.getElem?_eq_none (by omega)]
      · rfl
    · refine r_iload c78_15 rfl ?_
      refine r_iflt c78_16 (by omega) (by omega) (fun c_16 => ?_) (fun c_16 => ?_)
      · exact no (by unfold vQ_rem; exact if_neg (by omega))
      · refine r_iload c78_19 rfl (r_ci c78_20 ?_)
        refine r_iclt c78_21 (by omega) (by omega) (by omega) (by omega) (fun c_21 => ?_) (fun c_21 => ?_)
        · have hxl : x.toNat < σ.2.2.1.1.length := by omega
          obtain ⟨s0, hs0⟩ : ∃ s, σ.2.2.1.1[x.toNat]? = some s := ⟨σ.2.2.1.1[x.toNat], List.getElem?_eq_getElem hxl⟩
          have rr := hL _ _ hs0
          obtain ⟨f, f1, f2⟩ := hr x.toNat (by omega)
          unfold vQ_rem at k
          rw [if_pos (by omega), hs0] at k
          refine r_aload c78_26 rfl (r_get c78_27 a1 rfl (r_get c78_30 m0 rfl (r_iload c78_33 rfl (r_aald c78_34 hp (by omega) (by omega) (by omega) (hp2 _ (by omega)) (r_iload c78_35 rfl (r_iald c78_36 f1 (by omega) (by omega) ?_))))))
          refine r_iret (st := []) c78_37 ?_
          rw [f2 _ (by omega)]
          obtain ⟨m, rfl⟩ := Int.eq_ofNat_of_zero_le c_16
          have cc : m = 0 ∨ m = 1 ∨ m = 2 ∨ m = 3 := by omega
          rcases cc with rfl | rfl | rfl | rfl
          · rw [show (((0 : Nat) : Int)).toNat = 0 by rfl, rr.1]; exact k
          · rw [show (((1 : Nat) : Int)).toNat = 1 by rfl, rr.2.1]; exact k
          · rw [show (((2 : Nat) : Int)).toNat = 2 by rfl, rr.2.2.1]; exact k
          · rw [show (((3 : Nat) : Int)).toNat = 3 by rfl, rr.2.2.2]; exact k
        · exact no (by unfold vQ_rem; exact if_neg (by omega))
abbrev vSpn (x y z : Int) : Prop := (0 ≤ x ∧ x < 10) ∧ 0 ≤ y ∧ y ≤ z ∧ z < 720
def vQ_count (N : vNmS) (x y z : Int) : Int := if vSpn x y z then ((vcn (vDd N x.toNat) y.toNat (z.toNat + 1 - y.toNat) : Nat) : Int) else if 0 ≤ x ∧ x < 10 then -2 else -1
def vS_count (σ : vSg) (x y z : Int) : vSg := if vSpn x y z then (σ.1, σ.2.1, (vask σ.2.2.1.1 x y z (vQ_count σ.1 x y z), σ.2.2.1.2.1 + vBi (vhit σ.2.2.1.1 x y z), σ.2.2.1.2.2 + vBi (!vhit σ.2.2.1.1 x y z)), σ.2.2.2) else σ
theorem k_count {d b : Nat} {σ : vSg} {x y z : Int} {h : vHp} {Q : vQ} (hR : vRD h b σ) (hO : vOk σ) (x1 : -2147483648 ≤ x) (x2 : x ≤ 2147483647) (y1 : -2147483648 ≤ y) (y2 : y ≤ 2147483647) (z1 : -2147483648 ≤ z) (z2 : z ≤ 2147483647) (k : ∀ h', vRD h' b (vS_count σ x y z) → vFr (fun q => b ≤ q ∧ q < b + 243) h h' → Q (some (.int (iI (vQ_count σ.1 x y z)))) h') : vCall (d + 5) 0 0 66 [.ref b, .int (iI x), .int (iI y), .int (iI z)] h Q := by
  have hR0 := hR
  obtain ⟨a1, ⟨p, p1, p2⟩, ⟨s, s1, s2⟩, ⟨w, w1, w2⟩, a5, a6, a7, a8, ⟨J, a9⟩, b1, b2, b3⟩ := hR
  unfold vS_count at k
  refine vin 5 [_, _, _, _, _] ml_66 rfl rfl ?_
  refine r_iload c66_0 rfl ?_
  refine r_is1 c66_1 vr_87 rfl (k_isName x1 x2 (fun e1 e2 => ?_) (fun e1 => ?_))
  · dsimp only [vpush]
    refine r_ifne c66_4 (by omega) (by omega) (fun c_4 => ?_) (fun q => by exfalso; omega)
    refine r_iload c66_9 rfl (r_iload c66_10 rfl ?_)
    refine r_is2 c66_11 vr_89 rfl (k_isSpan y1 y2 z1 z2 (fun g1 g2 g3 => ?_) (fun g1 => ?_))
    · have hs : vSpn x y z := ⟨⟨e1, e2⟩, g1, g2, g3⟩
      have eq : vQ_count σ.1 x y z = ((vcn (vDd σ.1 x.toNat) y.toNat (z.toNat + 1 - y.toNat) : Nat) : Int) := if_pos hs
      rw [if_pos hs, eq] at k
      dsimp only [vpush]
      refine r_ifne c66_14 (by omega) (by omega) (fun c_14 => ?_) (fun q => by exfalso; omega)
      have hx := a5 x.toNat (by omega)
      have hx2 : vDy h (vpa b x.toNat + 7) (vDd σ.1 x.toNat) := hx.2.2.2.2
      obtain ⟨yn, rfl⟩ := Int.eq_ofNat_of_zero_le g1
      obtain ⟨zn, rfl⟩ := Int.eq_ofNat_of_zero_le (show 0 ≤ z by omega)
      rw [Int.toNat_natCast, Int.toNat_natCast] at k
      refine r_aload c66_20 rfl (r_get c66_21 a1 rfl (r_iload c66_24 rfl (r_aald c66_25 p1 (by omega) (by omega) (by omega) (p2 _ (by omega)) (r_get c66_26 hx.1 rfl (r_iload c66_29 rfl (r_iload c66_30 rfl ?_))))))
      refine r_iv2 c66_31 vr_11 hx2.1 rfl (k_heldWithin hx2 (by omega) (by omega) ?_)
      dsimp only [vpush]
      obtain ⟨hlen, L, ⟨m0, pm, mm⟩, hL⟩ := a8
      have m0' := m0
      unfold vMo at m0'
      refine r_istore c66_34 rfl (r_aload c66_36 rfl (r_get c66_37 a1 rfl (r_iload c66_40 rfl (r_iload c66_41 rfl (r_iload c66_42 rfl (r_iload c66_43 rfl ?_))))))
      try dsimp only [vst]
      refine r_iv4 c66_45 vr_21 m0' rfl (k_ask (l := σ.2.2.1.1) ⟨hlen, L, ⟨m0, pm, mm⟩, hL⟩ (by omega) hO.1 (fun s hs => by have := hO.2.1 s hs; omega) x1 x2 (by omega) (by omega) (by omega) (by omega) (fun h1 hM1 f1 => ?_))
      dsimp only [vpush]
      refine r_iload c66_48 rfl ?_
      refine r_iret (st := []) c66_50 ?_
      exact k h1 (vRD_mem hR0 hM1 f1) (vFr_up f1 (fun q e => by omega))
    · have hs : ¬ vSpn x y z := fun q => g1 q.2
      have eq : vQ_count σ.1 x y z = -2 := by unfold vQ_count; rw [if_neg hs, if_pos ⟨e1, e2⟩]
      rw [if_neg hs, eq] at k
      dsimp only [vpush]
      refine r_ifne c66_14 (by omega) (by omega) (fun q => by exfalso; omega) (fun c_14 => ?_)
      refine r_ci c66_17 ?_
      refine r_iret (st := []) c66_19 ?_
      exact k h hR0 vFr_rf
  · have hs : ¬ vSpn x y z := fun q => by have := q.1; omega
    have eq : vQ_count σ.1 x y z = -1 := by unfold vQ_count; rw [if_neg hs, if_neg (by omega)]
    rw [if_neg hs, eq] at k
    dsimp only [vpush]
    refine r_ifne c66_4 (by omega) (by omega) (fun q => by exfalso; omega) (fun c_4 => ?_)
    refine r_ci c66_7 ?_
    refine r_iret (st := []) c66_8 ?_
    exact k h hR0 vFr_rf
/-- the days of any name of a set -/
def vjn (N : vNmS) (m : Nat) : Nat → vSt1
  | 0 => fun _ => false
  | u + 1 => fun d => vjn N m u d || (m.testBit u && vDd N u d)
theorem vbit_m : ∀ m : Nat, m < 1024 → ∀ i : Nat, i < 10 → vandI (vshrI (m : Int) (i : Int)) 1 = if m.testBit i = true then 1 else 0 := by decide +kernel
theorem k_join {d b m : Nat} {σ : vSg} {h : vHp} {Q : vQ} (hR : vRD h b σ) (hm : m < 1024) (k : ∀ h', vRD h' b σ → vDy h' (b + 53) (vjn σ.1 m 10) → vFr (fun q => q = b + 53 + 1) h h' → Q none h') : vCall (d + 2) 0 0 95 [.ref b, .int (iI (m : Int))] h Q := by
  have hR0 := hR
  obtain ⟨a1, ⟨p, p1, p2⟩, ⟨s, s1, s2⟩, ⟨w, w1, w2⟩, a5, a6, a7, a8, ⟨J, a9⟩, b1, b2, b3⟩ := hR
  have loop : ∀ u i : Nat, i + u = 10 → ∀ h1 : vHp, vRD h1 b σ → vDy h1 (b + 53) (vjn σ.1 m i) → vFr (fun q => q = b + 53 + 1) h h1 → vW (vCall (d + 1)) 95 Q 9 [.ref b, .int (iI (m : Int)), .int (iI (i : Int))] [] h1 0 0 := by
    intro u
    induction u with
    | zero =>
      intro i hi h1 hR1 hD1 f1
      refine r_iload c95_9 rfl (r_ci c95_10 ?_)
      refine r_icge c95_12 (by omega) (by omega) (by omega) (by omega) (fun c_12 => ?_) (fun q => by exfalso; omega)
      refine r_vret (st := []) c95_45 ?_
      obtain rfl : i = 10 := by omega
      exact k h1 hR1 hD1 f1
    | succ u ih =>
      intro i hi h1 hR1 hD1 f1
      have hR2 := hR1
      obtain ⟨a1, ⟨p, p1, p2⟩, -, -, a5, -⟩ := hR2
      have hx := a5 i (by omega)
      have hx2 : vDy h1 (vpa b i + 7) (vDd σ.1 i) := hx.2.2.2.2
      have hb := vbit_m m hm i (by omega)
      refine r_iload c95_9 rfl (r_ci c95_10 ?_)
      refine r_icge c95_12 (by omega) (by omega) (by omega) (by omega) (fun q => by exfalso; omega) (fun c_12 => ?_)
      refine r_iload c95_15 rfl (r_iload c95_16 rfl (r_ishr c95_17 (r_ci c95_18 (r_iand c95_19 ?_))))
      rw [hb]
      have e : vjn σ.1 m (i + 1) = fun d => vjn σ.1 m i d || (m.testBit i && vDd σ.1 i d) := rfl
      cases hc : m.testBit i
      · rw [if_neg (by decide)]
        refine r_ifeq c95_20 (by omega) (by omega) (fun c_20 => ?_) (fun q => by exfalso; omega)
        refine r_iinc c95_39 rfl rfl (r_goto c95_42 ?_)
        try dsimp only [vst]
        rw [vsu]
        refine ih (i + 1) (by omega) h1 hR1 (vDy_cg hD1 (fun q hq => ?_)) f1
        rw [e, hc]
        simp
      · rw [if_pos rfl]
        refine r_ifeq c95_20 (by omega) (by omega) (fun q => by exfalso; omega) (fun c_20 => ?_)
        refine r_aload c95_23 rfl (r_get c95_24 a1 rfl (r_aload c95_27 rfl (r_get c95_28 a1 rfl (r_iload c95_31 rfl (r_aald c95_32 p1 (by omega) (by omega) (by omega) (by rw [Int.toNat_natCast]; exact p2 _ (by omega)) (r_get c95_33 hx.1 rfl ?_))))))
        refine r_iv1 c95_36 vr_6 hD1.1 rfl (k_addAll hD1 hx2 (by unfold vpa; omega) (by have := hR1.2.2.2.2.2.2.2.2.2.2.2; omega) (fun h2 hD2 f2 => ?_))
        dsimp only [vpush]
        refine r_iinc c95_39 rfl rfl (r_goto c95_42 ?_)
        try dsimp only [vst]
        rw [vsu]
        refine ih (i + 1) (by omega) h2 (vRD_joi hR1 hD2 f2) (vDy_cg hD2 (fun q hq => ?_)) (vFr_tr f1 f2)
        rw [e, hc]
        simp
  refine vin 3 [_, _, _] ml_95 rfl rfl ?_
  refine r_aload c95_0 rfl (r_get c95_1 a1 rfl ?_)
  refine r_iv0 c95_4 vr_4 a9.1 rfl (k_wipe a9 (by omega) (fun h1 hD1 f1 => ?_))
  dsimp only [vpush]
  refine r_ci c95_7 (r_istore c95_8 rfl ?_)
  try dsimp only [vst]
  exact loop 10 0 rfl h1 (vRD_joi hR0 hD1 f1) hD1 f1
/-- the names that have a day, as bits -/
def vow (N : vNmS) (z : Int) : Nat → Nat
  | 0 => 0
  | u + 1 => vow N z u + if 0 ≤ z ∧ z < 720 ∧ vDd N u z.toNat = true then 2 ^ u else 0
theorem vow_lt (N : vNmS) (z : Int) : ∀ u, vow N z u < 2 ^ u
  | 0 => Nat.one_pos
  | u + 1 => by
    have := vow_lt N z u
    unfold vow
    rw [Nat.pow_succ]
    split <;> omega
theorem vor_m : ∀ i : Nat, i < 10 → ∀ o : Nat, o < 2 ^ i → vorI (o : Int) (vshlI 1 (i : Int)) = ((o + 2 ^ i : Nat) : Int) := by decide +kernel
theorem k_ownersOf {d b : Nat} {σ : vSg} {z : Int} {h : vHp} {Q : vQ} (hR : vRD h b σ) (z1 : -2147483648 ≤ z) (z2 : z ≤ 2147483647) (k : Q (some (.int (iI (vow σ.1 z 10 : Nat)))) h) : vCall (d + 3) 0 0 96 [.ref b, .int (iI z)] h Q := by
  obtain ⟨a1, ⟨p, p1, p2⟩, ⟨s, s1, s2⟩, ⟨w, w1, w2⟩, a5, a6, a7, a8, ⟨J, a9⟩, b1, b2, b3⟩ := hR
  have loop : ∀ u i : Nat, i + u = 10 → vW (vCall (d + 2)) 96 Q 4 [.ref b, .int (iI z), .int (iI (vow σ.1 z i : Nat)), .int (iI (i : Int))] [] h 0 0 := by
    intro u
    induction u with
    | zero =>
      intro i hi
      refine r_iload c96_4 rfl (r_ci c96_5 ?_)
      refine r_icge c96_7 (by omega) (by omega) (by omega) (by omega) (fun c_7 => ?_) (fun q => by exfalso; omega)
      refine r_iload c96_38 rfl ?_
      refine r_iret (st := []) c96_39 ?_
      obtain rfl : i = 10 := by omega
      exact k
    | succ u ih =>
      intro i hi
      have hx := a5 i (by omega)
      have hx2 : vDy h (vpa b i + 7) (vDd σ.1 i) := hx.2.2.2.2
      refine r_iload c96_4 rfl (r_ci c96_5 ?_)
      refine r_icge c96_7 (by omega) (by omega) (by omega) (by omega) (fun q => by exfalso; omega) (fun c_7 => ?_)
      refine r_aload c96_10 rfl (r_get c96_11 a1 rfl (r_iload c96_14 rfl (r_aald c96_15 p1 (by omega) (by omega) (by omega) (by rw [Int.toNat_natCast]; exact p2 _ (by omega)) (r_get c96_16 hx.1 rfl (r_iload c96_19 rfl ?_)))))
      refine r_iv1 c96_20 vr_1 hx2.1 rfl (k_holds hx2 z1 z2 (fun g1 g2 g3 => ?_) (fun g => ?_))
      · dsimp only [vpush]
        have e : vow σ.1 z (i + 1) = vow σ.1 z i + 2 ^ i := by
          show vow σ.1 z i + (if 0 ≤ z ∧ z < 720 ∧ vDd σ.1 i z.toNat = true then 2 ^ i else 0) = _
          rw [if_pos ⟨g1, g2, g3⟩]
        refine r_ifeq c96_23 (by omega) (by omega) (fun q => by exfalso; omega) (fun c_23 => ?_)
        refine r_iload c96_26 rfl (r_ci c96_27 (r_iload c96_28 rfl (r_ishl c96_29 (r_ior c96_30 (r_istore c96_31 rfl (r_iinc c96_32 rfl rfl (r_goto c96_35 ?_)))))))
        try dsimp only [vst]
        rw [vor_m i (by omega) _ (vow_lt σ.1 z i), ← e, vsu]
        exact ih (i + 1) (by omega)
      · dsimp only [vpush]
        have e : vow σ.1 z (i + 1) = vow σ.1 z i := by
          show vow σ.1 z i + (if 0 ≤ z ∧ z < 720 ∧ vDd σ.1 i z.toNat = true then 2 ^ i else 0) = _
          rw [if_neg g, Nat.add_zero]
        refine r_ifeq c96_23 (by omega) (by omega) (fun c_23 => ?_) (fun q => by exfalso; omega)
        refine r_iinc c96_32 rfl rfl (r_goto c96_35 ?_)
        try dsimp only [vst]
        rw [← e, vsu]
        exact ih (i + 1) (by omega)
  refine vin 4 [_, _, _, _] ml_96 rfl rfl ?_
  refine r_ci c96_0 (r_istore c96_1 rfl (r_ci c96_2 (r_istore c96_3 rfl ?_)))
  try dsimp only [vst]
  exact loop 10 0 rfl

