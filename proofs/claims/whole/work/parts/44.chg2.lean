theorem ml_58 : vml 58 = 4 := by decide +kernel
theorem ml_59 : vml 59 = 4 := by decide +kernel
theorem ml_60 : vml 60 = 3 := by decide +kernel
theorem ml_61 : vml 61 = 3 := by decide +kernel
theorem ml_94 : vml 94 = 4 := by decide +kernel
theorem vr_29 : vrc 29 = some (2, 0) := by decide +kernel
theorem c58_0 : vlk 58 0 = some (4, 1, 0, 0, 1) := by decide +kernel
theorem c58_1 : vlk 58 1 = some (59, 87, 0, 0, 4) := by decide +kernel
theorem c58_4 : vlk 58 4 = some (71, 9, 0, 0, 7) := by decide +kernel
theorem c58_7 : vlk 58 7 = some (1, 0, 0, (-1), 8) := by decide +kernel
theorem c58_8 : vlk 58 8 = some (63, 0, 0, 0, 9) := by decide +kernel
theorem c58_9 : vlk 58 9 = some (6, 0, 0, 0, 10) := by decide +kernel
theorem c58_10 : vlk 58 10 = some (42, 5, 0, 0, 13) := by decide +kernel
theorem c58_13 : vlk 58 13 = some (4, 1, 0, 0, 14) := by decide +kernel
theorem c58_14 : vlk 58 14 = some (48, 0, 0, 0, 15) := by decide +kernel
theorem c58_15 : vlk 58 15 = some (9, 2, 0, 0, 16) := by decide +kernel
theorem c58_16 : vlk 58 16 = some (6, 2, 0, 0, 17) := by decide +kernel
theorem c58_17 : vlk 58 17 = some (42, 2, 0, 0, 20) := by decide +kernel
theorem c58_23 : vlk 58 23 = some (1, 0, 0, (-3), 25) := by decide +kernel
theorem c58_25 : vlk 58 25 = some (63, 0, 0, 0, 26) := by decide +kernel
theorem c58_26 : vlk 58 26 = some (6, 2, 0, 0, 27) := by decide +kernel
theorem c58_27 : vlk 58 27 = some (42, 2, 1, 0, 30) := by decide +kernel
theorem c58_30 : vlk 58 30 = some (58, 10, 0, 0, 33) := by decide +kernel
theorem c58_33 : vlk 58 33 = some (7, 3, 0, 0, 34) := by decide +kernel
theorem c58_34 : vlk 58 34 = some (6, 2, 0, 0, 35) := by decide +kernel
theorem c58_35 : vlk 58 35 = some (58, 29, 0, 0, 38) := by decide +kernel
theorem c58_38 : vlk 58 38 = some (6, 0, 0, 0, 39) := by decide +kernel
theorem c58_39 : vlk 58 39 = some (42, 5, 4, 0, 42) := by decide +kernel
theorem c58_42 : vlk 58 42 = some (4, 1, 0, 0, 43) := by decide +kernel
theorem c58_43 : vlk 58 43 = some (58, 25, 0, 0, 46) := by decide +kernel
theorem c58_46 : vlk 58 46 = some (4, 3, 0, 0, 47) := by decide +kernel
theorem c58_47 : vlk 58 47 = some (63, 0, 0, 0, 48) := by decide +kernel
theorem c59_0 : vlk 59 0 = some (4, 1, 0, 0, 1) := by decide +kernel
theorem c59_1 : vlk 59 1 = some (59, 87, 0, 0, 4) := by decide +kernel
theorem c59_4 : vlk 59 4 = some (70, 14, 0, 0, 7) := by decide +kernel
theorem c59_7 : vlk 59 7 = some (4, 2, 0, 0, 8) := by decide +kernel
theorem c59_8 : vlk 59 8 = some (59, 87, 0, 0, 11) := by decide +kernel
theorem c59_11 : vlk 59 11 = some (71, 16, 0, 0, 14) := by decide +kernel
theorem c59_14 : vlk 59 14 = some (1, 0, 0, (-1), 15) := by decide +kernel
theorem c59_15 : vlk 59 15 = some (63, 0, 0, 0, 16) := by decide +kernel
theorem c59_16 : vlk 59 16 = some (6, 0, 0, 0, 17) := by decide +kernel
theorem c59_17 : vlk 59 17 = some (42, 5, 0, 0, 20) := by decide +kernel
theorem c59_20 : vlk 59 20 = some (4, 1, 0, 0, 21) := by decide +kernel
theorem c59_21 : vlk 59 21 = some (48, 0, 0, 0, 22) := by decide +kernel
theorem c59_22 : vlk 59 22 = some (9, 3, 0, 0, 23) := by decide +kernel
theorem c59_23 : vlk 59 23 = some (6, 3, 0, 0, 24) := by decide +kernel
theorem c59_24 : vlk 59 24 = some (42, 2, 0, 0, 27) := by decide +kernel
theorem c59_30 : vlk 59 30 = some (1, 0, 0, (-3), 32) := by decide +kernel
theorem c59_32 : vlk 59 32 = some (63, 0, 0, 0, 33) := by decide +kernel
theorem c59_33 : vlk 59 33 = some (6, 0, 0, 0, 34) := by decide +kernel
theorem c59_34 : vlk 59 34 = some (42, 5, 0, 0, 37) := by decide +kernel
theorem c59_37 : vlk 59 37 = some (4, 2, 0, 0, 38) := by decide +kernel
theorem c59_38 : vlk 59 38 = some (48, 0, 0, 0, 39) := by decide +kernel
theorem c59_39 : vlk 59 39 = some (1, 0, 0, 1, 40) := by decide +kernel
theorem c59_40 : vlk 59 40 = some (6, 3, 0, 0, 41) := by decide +kernel
theorem c59_41 : vlk 59 41 = some (42, 2, 1, 0, 44) := by decide +kernel
theorem c59_44 : vlk 59 44 = some (58, 28, 0, 0, 47) := by decide +kernel
theorem c59_47 : vlk 59 47 = some (6, 0, 0, 0, 48) := by decide +kernel
theorem c59_48 : vlk 59 48 = some (42, 5, 4, 0, 51) := by decide +kernel
theorem c59_51 : vlk 59 51 = some (4, 2, 0, 0, 52) := by decide +kernel
theorem c59_52 : vlk 59 52 = some (58, 25, 0, 0, 55) := by decide +kernel
theorem c59_55 : vlk 59 55 = some (6, 3, 0, 0, 56) := by decide +kernel
theorem c59_56 : vlk 59 56 = some (42, 2, 1, 0, 59) := by decide +kernel
theorem c59_59 : vlk 59 59 = some (58, 10, 0, 0, 62) := by decide +kernel
theorem c59_62 : vlk 59 62 = some (63, 0, 0, 0, 63) := by decide +kernel
theorem c60_0 : vlk 60 0 = some (4, 1, 0, 0, 1) := by decide +kernel
theorem c60_1 : vlk 60 1 = some (59, 87, 0, 0, 4) := by decide +kernel
theorem c60_4 : vlk 60 4 = some (71, 9, 0, 0, 7) := by decide +kernel
theorem c60_7 : vlk 60 7 = some (1, 0, 0, (-1), 8) := by decide +kernel
theorem c60_8 : vlk 60 8 = some (63, 0, 0, 0, 9) := by decide +kernel
theorem c60_9 : vlk 60 9 = some (6, 0, 0, 0, 10) := by decide +kernel
theorem c60_10 : vlk 60 10 = some (4, 1, 0, 0, 11) := by decide +kernel
theorem c60_11 : vlk 60 11 = some (6, 0, 0, 0, 12) := by decide +kernel
theorem c60_12 : vlk 60 12 = some (42, 5, 0, 0, 15) := by decide +kernel
theorem c60_15 : vlk 60 15 = some (4, 1, 0, 0, 16) := by decide +kernel
theorem c60_16 : vlk 60 16 = some (48, 0, 0, 0, 17) := by decide +kernel
theorem c60_17 : vlk 60 17 = some (42, 2, 2, 0, 20) := by decide +kernel
theorem c60_20 : vlk 60 20 = some (4, 2, 0, 0, 21) := by decide +kernel
theorem c60_24 : vlk 60 24 = some (63, 0, 0, 0, 25) := by decide +kernel
theorem c61_0 : vlk 61 0 = some (4, 1, 0, 0, 1) := by decide +kernel
theorem c61_1 : vlk 61 1 = some (59, 87, 0, 0, 4) := by decide +kernel
theorem c61_4 : vlk 61 4 = some (71, 9, 0, 0, 7) := by decide +kernel
theorem c61_7 : vlk 61 7 = some (1, 0, 0, (-1), 8) := by decide +kernel
theorem c61_8 : vlk 61 8 = some (63, 0, 0, 0, 9) := by decide +kernel
theorem c61_9 : vlk 61 9 = some (6, 0, 0, 0, 10) := by decide +kernel
theorem c61_10 : vlk 61 10 = some (4, 1, 0, 0, 11) := by decide +kernel
theorem c61_11 : vlk 61 11 = some (6, 0, 0, 0, 12) := by decide +kernel
theorem c61_12 : vlk 61 12 = some (42, 5, 0, 0, 15) := by decide +kernel
theorem c61_15 : vlk 61 15 = some (4, 1, 0, 0, 16) := by decide +kernel
theorem c61_16 : vlk 61 16 = some (48, 0, 0, 0, 17) := by decide +kernel
theorem c61_17 : vlk 61 17 = some (42, 2, 3, 0, 20) := by decide +kernel
theorem c61_20 : vlk 61 20 = some (4, 2, 0, 0, 21) := by decide +kernel
theorem c61_24 : vlk 61 24 = some (63, 0, 0, 0, 25) := by decide +kernel
theorem c94_0 : vlk 94 0 = some (4, 3, 0, 0, 1) := by decide +kernel
theorem c94_1 : vlk 94 1 = some (59, 88, 0, 0, 4) := by decide +kernel
theorem c94_4 : vlk 94 4 = some (71, 10, 0, 0, 7) := by decide +kernel
theorem c94_7 : vlk 94 7 = some (1, 0, 0, (-2), 9) := by decide +kernel
theorem c94_9 : vlk 94 9 = some (63, 0, 0, 0, 10) := by decide +kernel
theorem c94_10 : vlk 94 10 = some (6, 2, 0, 0, 11) := by decide +kernel
theorem c94_11 : vlk 94 11 = some (4, 3, 0, 0, 12) := by decide +kernel
theorem c94_12 : vlk 94 12 = some (58, 1, 0, 0, 15) := by decide +kernel
theorem c94_15 : vlk 94 15 = some (70, 26, 0, 0, 18) := by decide +kernel
theorem c94_18 : vlk 94 18 = some (6, 2, 0, 0, 19) := by decide +kernel
theorem c94_19 : vlk 94 19 = some (4, 3, 0, 0, 20) := by decide +kernel
theorem c94_20 : vlk 94 20 = some (58, 3, 0, 0, 23) := by decide +kernel
theorem c94_23 : vlk 94 23 = some (37, 43, 0, 0, 26) := by decide +kernel
theorem c94_26 : vlk 94 26 = some (6, 2, 0, 0, 27) := by decide +kernel
theorem c94_27 : vlk 94 27 = some (58, 10, 0, 0, 30) := by decide +kernel
theorem c94_30 : vlk 94 30 = some (1, 0, 0, 7, 32) := by decide +kernel
theorem c94_32 : vlk 94 32 = some (78, 38, 0, 0, 35) := by decide +kernel
theorem c94_35 : vlk 94 35 = some (1, 0, 0, (-4), 37) := by decide +kernel
theorem c94_37 : vlk 94 37 = some (63, 0, 0, 0, 38) := by decide +kernel
theorem c94_38 : vlk 94 38 = some (6, 2, 0, 0, 39) := by decide +kernel
theorem c94_39 : vlk 94 39 = some (4, 3, 0, 0, 40) := by decide +kernel
theorem c94_40 : vlk 94 40 = some (58, 2, 0, 0, 43) := by decide +kernel
theorem c94_43 : vlk 94 43 = some (6, 0, 0, 0, 44) := by decide +kernel
theorem c94_44 : vlk 94 44 = some (42, 5, 0, 0, 47) := by decide +kernel
theorem c94_47 : vlk 94 47 = some (4, 1, 0, 0, 48) := by decide +kernel
theorem c94_48 : vlk 94 48 = some (48, 0, 0, 0, 49) := by decide +kernel
theorem c94_49 : vlk 94 49 = some (58, 31, 0, 0, 52) := by decide +kernel
theorem c94_52 : vlk 94 52 = some (6, 0, 0, 0, 53) := by decide +kernel
theorem c94_53 : vlk 94 53 = some (42, 5, 4, 0, 56) := by decide +kernel
theorem c94_56 : vlk 94 56 = some (4, 1, 0, 0, 57) := by decide +kernel
theorem c94_57 : vlk 94 57 = some (58, 25, 0, 0, 60) := by decide +kernel
theorem c94_60 : vlk 94 60 = some (6, 2, 0, 0, 61) := by decide +kernel
theorem c94_61 : vlk 94 61 = some (58, 10, 0, 0, 64) := by decide +kernel
theorem c94_64 : vlk 94 64 = some (63, 0, 0, 0, 65) := by decide +kernel
/-! what changes names: drop, copy, days out, extra days, the image and back -/
theorem vifb {v : Bool} {m pc a nx d : Nat} {R : vQ} {lv st : List Value} {h : vHp} {bc bs : Nat} (hc : vlk m pc = some (71, a, 0, 0, nx)) (kT : v = true → vW (vCall d) m R a lv st h bc bs) (kF : v = false → vW (vCall d) m R nx lv st h bc bs) : vW (vCall d) m R pc lv (.int (iI (vBi v)) :: st) h bc bs := by
  cases v
  · exact r_ifne hc (by decide) (by decide) (fun q => absurd rfl q) (fun _ => kF rfl)
  · exact r_ifne hc (by decide) (by decide) (fun _ => kT rfl) (fun q => by cases q)
def vQ_drop (N : vNmS) (x : Int) : Int := if 0 ≤ x ∧ x < 10 then (if N.1 x.toNat = true then ((vcn (N.2.1 x.toNat) 0 720 : Nat) : Int) else -3) else -1
def vS_drop (σ : vSg) (x : Int) : vSg := if (0 ≤ x ∧ x < 10) ∧ σ.1.1 x.toNat = true then (vNup σ.1 x.toNat false (fun _ => false) (σ.1.2.2.1 x.toNat) (σ.1.2.2.2 x.toNat), σ.2.1, vfg σ.2.2.1 x, σ.2.2.2) else σ
theorem k_drop {d b : Nat} {σ : vSg} {x : Int} {h : vHp} {Q : vQ} (hR : vRD h b σ) (hO : vOk σ) (x1 : -2147483648 ≤ x) (x2 : x ≤ 2147483647) (k : ∀ h', vRD h' b (vS_drop σ x) → vFr (fun q => b ≤ q ∧ q < b + 243) h h' → Q (some (.int (iI (vQ_drop σ.1 x)))) h') : vCall (d + 4) 0 0 58 [.ref b, .int (iI x)] h Q := by
  have hR0 := hR
  obtain ⟨a1, ⟨p, p1, p2⟩, ⟨s, s1, s2⟩, ⟨w, w1, w2⟩, a5, a6, a7, a8, ⟨J, a9⟩, b1, b2, b3⟩ := hR
  refine vin 4 [_, _, _, _] ml_58 rfl rfl ?_
  refine r_iload c58_0 rfl ?_
  refine r_is1 c58_1 vr_87 rfl (k_isName x1 x2 (fun e1 e2 => ?_) (fun e1 => ?_))
  · dsimp only [vpush]
    refine r_ifne c58_4 (by omega) (by omega) (fun c_4 => ?_) (fun q => by exfalso; omega)
    have hx := a5 x.toNat (by omega)
    refine r_aload c58_9 rfl (r_get c58_10 a1 rfl (r_iload c58_13 rfl (r_aald c58_14 p1 (by omega) (by omega) (by omega) (p2 _ (by omega)) (r_astore c58_15 rfl (r_aload c58_16 rfl (r_get c58_17 hx.1 rfl ?_))))))
    try dsimp only [vst]
    refine vifb (by decide +kernel : vlk 58 20 = some (71, 26, 0, 0, 23)) (fun c => ?_) (fun c => ?_)
    · have eS : vS_drop σ x = (vNup σ.1 x.toNat false (fun _ => false) (σ.1.2.2.1 x.toNat) (σ.1.2.2.2 x.toNat), σ.2.1, vfg σ.2.2.1 x, σ.2.2.2) := if_pos ⟨⟨e1, e2⟩, c⟩
      have eQ : vQ_drop σ.1 x = ((vcn (σ.1.2.1 x.toNat) 0 720 : Nat) : Int) := by unfold vQ_drop; rw [if_pos ⟨e1, e2⟩, if_pos c]
      rw [eS, eQ] at k
      refine r_aload c58_26 rfl (r_get c58_27 hx.1 rfl ?_)
      refine r_iv0 c58_30 vr_10 hx.2.1.1 rfl (k_size hx.2.1 ?_)
      dsimp only [vpush]
      refine r_istore c58_33 rfl (r_aload c58_34 rfl ?_)
      try dsimp only [vst]
      refine r_iv0 c58_35 vr_29 hx.1 rfl (k_unrule hx (by unfold vpa; omega) (fun h1 hP1 f1 => ?_))
      dsimp only [vpush]
      have hR1 := vRD_plan hR0 (by omega) hP1 f1
      have d1 := hR1.1
      obtain ⟨mo, hmo⟩ := vRD_mo hR1
      refine r_aload c58_38 rfl (r_get c58_39 d1 rfl (r_iload c58_42 rfl ?_))
      refine r_iv1 c58_43 vr_25 hmo rfl (vRD_forget hR1 (fun s hs => by have := hO.2.1 s hs; omega) x1 x2 (fun h2 hR2 f2 => ?_))
      dsimp only [vpush]
      refine r_iload c58_46 rfl ?_
      refine r_iret (st := []) c58_47 ?_
      exact k h2 hR2 (vFr_tr (vFr_up f1 (fun q e => by unfold vpa at e; omega)) (vFr_up f2 (fun q e => by omega)))
    · have eS : vS_drop σ x = σ := if_neg (fun q => by have := q.2; rw [c] at this; cases this)
      have eQ : vQ_drop σ.1 x = -3 := by unfold vQ_drop; rw [if_pos ⟨e1, e2⟩, if_neg (by rw [c]; decide)]
      rw [eS, eQ] at k
      refine r_ci c58_23 ?_
      refine r_iret (st := []) c58_25 ?_
      exact k h hR0 vFr_rf
  · dsimp only [vpush]
    have eS : vS_drop σ x = σ := if_neg (fun q => by have := q.1; omega)
    have eQ : vQ_drop σ.1 x = -1 := if_neg (by omega)
    rw [eS, eQ] at k
    refine r_ifne c58_4 (by omega) (by omega) (fun q => by exfalso; omega) (fun c_4 => ?_)
    refine r_ci c58_7 ?_
    refine r_iret (st := []) c58_8 ?_
    exact k h hR0 vFr_rf
def vQ_copy (N : vNmS) (x y : Int) : Int := if (0 ≤ x ∧ x < 10) ∧ 0 ≤ y ∧ y < 10 then (if N.1 x.toNat = true then ((vcn (N.2.1 x.toNat) 0 720 : Nat) : Int) else -3) else -1
def vS_copy (σ : vSg) (x y : Int) : vSg := if ((0 ≤ x ∧ x < 10) ∧ 0 ≤ y ∧ y < 10) ∧ σ.1.1 x.toNat = true then (vNup σ.1 y.toNat true (σ.1.2.1 x.toNat) (σ.1.2.2.1 y.toNat) (σ.1.2.2.2 y.toNat), σ.2.1, vfg σ.2.2.1 y, σ.2.2.2) else σ
theorem k_copy {d b : Nat} {σ : vSg} {x y : Int} {h : vHp} {Q : vQ} (hR : vRD h b σ) (hO : vOk σ) (x1 : -2147483648 ≤ x) (x2 : x ≤ 2147483647) (y1 : -2147483648 ≤ y) (y2 : y ≤ 2147483647) (k : ∀ h', vRD h' b (vS_copy σ x y) → vFr (fun q => b ≤ q ∧ q < b + 243) h h' → Q (some (.int (iI (vQ_copy σ.1 x y)))) h') : vCall (d + 4) 0 0 59 [.ref b, .int (iI x), .int (iI y)] h Q := by
  have hR0 := hR
  obtain ⟨a1, ⟨p, p1, p2⟩, ⟨s, s1, s2⟩, ⟨w, w1, w2⟩, a5, a6, a7, a8, ⟨J, a9⟩, b1, b2, b3⟩ := hR
  have no : ¬ ((0 ≤ x ∧ x < 10) ∧ 0 ≤ y ∧ y < 10) → ∀ v4 : Value, vW (vCall (d + 3)) 59 Q 14 [.ref b, .int (iI x), .int (iI y), v4] [] h 0 0 := fun q v4 => by
    have eS : vS_copy σ x y = σ := if_neg (fun e => q e.1)
    have eQ : vQ_copy σ.1 x y = -1 := if_neg q
    rw [eS, eQ] at k
    refine r_ci c59_14 ?_
    refine r_iret (st := []) c59_15 ?_
    exact k h hR0 vFr_rf
  refine vin 4 [_, _, _, _] ml_59 rfl rfl ?_
  refine r_iload c59_0 rfl ?_
  refine r_is1 c59_1 vr_87 rfl (k_isName x1 x2 (fun e1 e2 => ?_) (fun e1 => ?_))
  · dsimp only [vpush]
    refine r_ifeq c59_4 (by omega) (by omega) (fun q => by exfalso; omega) (fun c_4 => ?_)
    refine r_iload c59_7 rfl ?_
    refine r_is1 c59_8 vr_87 rfl (k_isName y1 y2 (fun g1 g2 => ?_) (fun g1 => ?_))
    · dsimp only [vpush]
      refine r_ifne c59_11 (by omega) (by omega) (fun c_11 => ?_) (fun q => by exfalso; omega)
      have hx := a5 x.toNat (by omega)
      have hy := a5 y.toNat (by omega)
      refine r_aload c59_16 rfl (r_get c59_17 a1 rfl (r_iload c59_20 rfl (r_aald c59_21 p1 (by omega) (by omega) (by omega) (p2 _ (by omega)) (r_astore c59_22 rfl (r_aload c59_23 rfl (r_get c59_24 hx.1 rfl ?_))))))
      try dsimp only [vst]
      refine vifb (by decide +kernel : vlk 59 27 = some (71, 33, 0, 0, 30)) (fun c => ?_) (fun c => ?_)
      · have eS : vS_copy σ x y = (vNup σ.1 y.toNat true (σ.1.2.1 x.toNat) (σ.1.2.2.1 y.toNat) (σ.1.2.2.2 y.toNat), σ.2.1, vfg σ.2.2.1 y, σ.2.2.2) := if_pos ⟨⟨⟨e1, e2⟩, g1, g2⟩, c⟩
        have eQ : vQ_copy σ.1 x y = ((vcn (σ.1.2.1 x.toNat) 0 720 : Nat) : Int) := by unfold vQ_copy; rw [if_pos ⟨⟨e1, e2⟩, g1, g2⟩, if_pos c]
        rw [eS, eQ] at k
        refine r_aload c59_33 rfl (r_get c59_34 a1 rfl (r_iload c59_37 rfl (r_aald c59_38 p1 (by omega) (by omega) (by omega) (p2 _ (by omega)) (r_ci c59_39 (r_aload c59_40 rfl (r_get c59_41 hx.1 rfl ?_))))))
        refine r_iv2 c59_44 vr_28 hy.1 rfl (k_planBecome (rn := true) hy hx.2.1 (by unfold vpa; omega) (fun h1 hP1 f1 => ?_))
        dsimp only [vpush]
        have hR1 := vRD_plan hR0 (by omega) hP1 f1
        have d1 := hR1.1
        obtain ⟨mo, hmo⟩ := vRD_mo hR1
        refine r_aload c59_47 rfl (r_get c59_48 d1 rfl (r_iload c59_51 rfl ?_))
        refine r_iv1 c59_52 vr_25 hmo rfl (vRD_forget hR1 (fun s hs => by have := hO.2.1 s hs; omega) y1 y2 (fun h2 hR2 f2 => ?_))
        dsimp only [vpush]
        have hx2 := hR2.2.2.2.2.1 x.toNat (by omega)
        have es : (vNup σ.1 y.toNat true (σ.1.2.1 x.toNat) (σ.1.2.2.1 y.toNat) (σ.1.2.2.2 y.toNat)).2.1 x.toNat = σ.1.2.1 x.toNat := by
          unfold vNup vup
          dsimp only
          split
          · rfl
          · rfl
        have hz := hx2.2.1
        rw [es] at hz
        refine r_aload c59_55 rfl (r_get c59_56 hx2.1 rfl ?_)
        refine r_iv0 c59_59 vr_10 hz.1 rfl (k_size hz ?_)
        dsimp only [vpush]
        refine r_iret (st := []) c59_62 ?_
        exact k h2 hR2 (vFr_tr (vFr_up f1 (fun q e => by unfold vpa at e; omega)) (vFr_up f2 (fun q e => by omega)))
      · have eS : vS_copy σ x y = σ := if_neg (fun q => by have := q.2; rw [c] at this; cases this)
        have eQ : vQ_copy σ.1 x y = -3 := by unfold vQ_copy; rw [if_pos ⟨⟨e1, e2⟩, g1, g2⟩, if_neg (by rw [c]; decide)]
        rw [eS, eQ] at k
        refine r_ci c59_30 ?_
        refine r_iret (st := []) c59_32 ?_
        exact k h hR0 vFr_rf
    · dsimp only [vpush]
      refine r_ifne c59_11 (by omega) (by omega) (fun q => by exfalso; omega) (fun c_11 => ?_)
      exact no (by omega) _
  · dsimp only [vpush]
    refine r_ifeq c59_4 (by omega) (by omega) (fun c_4 => ?_) (fun q => by exfalso; omega)
    exact no (by omega) _
/-- one day changes sides -/
def vfl (O : vSt1) (y : Nat) (n : Nat) : Bool := if n = y then !O n else O n
def vfull (O : vSt1) (y : Nat) : Bool := !O y && decide (7 ≤ vcn O 0 720)
def vQ_tog (O : vSt1) (y : Int) : Int := if 0 ≤ y ∧ y < 720 then (if vfull O y.toNat = true then -4 else ((vcn (vfl O y.toNat) 0 720 : Nat) : Int)) else -2
def vQ_out (N : vNmS) (x y : Int) : Int := if 0 ≤ x ∧ x < 10 then vQ_tog (N.2.2.1 x.toNat) y else -1
def vS_out (σ : vSg) (x y : Int) : vSg := if ((0 ≤ x ∧ x < 10) ∧ 0 ≤ y ∧ y < 720) ∧ vfull (σ.1.2.2.1 x.toNat) y.toNat = false then (vNup σ.1 x.toNat (σ.1.1 x.toNat) (σ.1.2.1 x.toNat) (vfl (σ.1.2.2.1 x.toNat) y.toNat) (σ.1.2.2.2 x.toNat), σ.2.1, vfg σ.2.2.1 x, σ.2.2.2) else σ
theorem k_out {d b : Nat} {σ : vSg} {x y : Int} {h : vHp} {Q : vQ} (hR : vRD h b σ) (hO : vOk σ) (x1 : -2147483648 ≤ x) (x2 : x ≤ 2147483647) (y1 : -2147483648 ≤ y) (y2 : y ≤ 2147483647) (k : ∀ h', vRD h' b (vS_out σ x y) → vFr (fun q => b ≤ q ∧ q < b + 243) h h' → Q (some (.int (iI (vQ_out σ.1 x y)))) h') : vCall (d + 5) 0 0 60 [.ref b, .int (iI x), .int (iI y)] h Q := by
  have hR0 := hR
  obtain ⟨a1, ⟨p, p1, p2⟩, ⟨s, s1, s2⟩, ⟨w, w1, w2⟩, a5, a6, a7, a8, ⟨J, a9⟩, b1, b2, b3⟩ := hR
  refine vin 3 [_, _, _] ml_60 rfl rfl ?_
  refine r_iload c60_0 rfl ?_
  refine r_is1 c60_1 vr_87 rfl (k_isName x1 x2 (fun e1 e2 => ?_) (fun e1 => ?_))
  · dsimp only [vpush]
    refine r_ifne c60_4 (by omega) (by omega) (fun c_4 => ?_) (fun q => by exfalso; omega)
    have hx := a5 x.toNat (by omega)
    refine r_aload c60_9 rfl (r_iload c60_10 rfl (r_aload c60_11 rfl (r_get c60_12 a1 rfl (r_iload c60_15 rfl (r_aald c60_16 p1 (by omega) (by omega) (by omega) (p2 _ (by omega)) (r_get c60_17 hx.1 rfl (r_iload c60_20 rfl ?_)))))))
    refine r_iv3 (by decide +kernel : vlk 60 21 = some (58, 94, 0, 0, 24)) (by decide +kernel : vrc 94 = some (5, 3)) a1 rfl ?_
    refine vin 4 [_, _, _, _] ml_94 rfl rfl ?_
    refine r_iload c94_0 rfl ?_
    refine r_is1 c94_1 vr_88 rfl (k_isDay y1 y2 (fun g1 g2 => ?_) (fun g1 => ?_))
    · obtain ⟨m, rfl⟩ := Int.eq_ofNat_of_zero_le g1
      dsimp only [vpush]
      refine r_ifne c94_4 (by omega) (by omega) (fun c_4 => ?_) (fun q => by exfalso; omega)
      have hlo : h.1.1 ≤ vpa b x.toNat := by unfold vpa; omega
      have from43 : vfull (σ.1.2.2.1 x.toNat) m = false → ∀ h1, vDy h1 (vpa b x.toNat + 3) (vfl (σ.1.2.2.1 x.toNat) m) → vFr (fun q => q = vpa b x.toNat + 3 + 1) h h1 → vW (vCall (d + 3)) 94 (fun v h' => vW (vCall (d + 4)) 60 Q 24 [.ref b, .int (iI x), .int (iI (m : Int))] (vpush v []) h' 0 0) 43 [.ref b, .int (iI x), .ref (vpa b x.toNat + 3), .int (iI (m : Int))] [] h1 0 0 := by
        intro q h1 hD1 f1
        have eS : vS_out σ x (m : Int) = (vNup σ.1 x.toNat (σ.1.1 x.toNat) (σ.1.2.1 x.toNat) (vfl (σ.1.2.2.1 x.toNat) m) (σ.1.2.2.2 x.toNat), σ.2.1, vfg σ.2.2.1 x, σ.2.2.2) := if_pos ⟨⟨⟨e1, e2⟩, g1, g2⟩, q⟩
        have eQ : vQ_out σ.1 x (m : Int) = ((vcn (vfl (σ.1.2.2.1 x.toNat) m) 0 720 : Nat) : Int) := by unfold vQ_out vQ_tog; rw [if_pos ⟨e1, e2⟩, if_pos ⟨g1, g2⟩, Int.toNat_natCast, if_neg (by rw [q]; decide)]
        rw [eS, eQ] at k
        have g0 := (f1.2.2 (vpa b x.toNat) (by omega)).trans hx.1
        have c1 : hg h1 b = _ := (f1.2.2 b (by unfold vpa; omega)).trans a1
        have c2 : hg h1 (b + 1) = _ := (f1.2.2 (b + 1) (by unfold vpa; omega)).trans p1
        refine r_aload c94_43 rfl (r_get c94_44 c1 rfl (r_iload c94_47 rfl (r_aald c94_48 c2 (by omega) (by omega) (by omega) (p2 _ (by omega)) ?_)))
        refine r_iv0 c94_49 vr_31 g0 rfl (k_refresh (ru := σ.1.1 x.toNat) ⟨g0, vDy_fr hx.2.1 f1 (by omega) (by omega), hD1, vDy_fr hx.2.2.2.1 f1 (by omega) (by omega), vDy_fr hx.2.2.2.2 f1 (by omega) (by omega)⟩ (vFr_lo f1 hlo) (fun h2 hP2 f2 => ?_))
        dsimp only [vpush]
        have f12 : vFr (fun q => vpa b x.toNat ≤ q ∧ q < vpa b x.toNat + 9) h h2 := vFr_tr (vFr_up f1 (fun q e => by omega)) (vFr_up f2 (fun q e => by omega))
        have hR2 := vRD_plan hR0 (by omega) hP2 f12
        have d1 := hR2.1
        obtain ⟨mo, hmo⟩ := vRD_mo hR2
        refine r_aload c94_52 rfl (r_get c94_53 d1 rfl (r_iload c94_56 rfl ?_))
        refine r_iv1 c94_57 vr_25 hmo rfl (vRD_forget hR2 (fun s hs => by have := hO.2.1 s hs; omega) x1 x2 (fun h3 hR3 f3 => ?_))
        dsimp only [vpush]
        have hD3 := vDy_fr (vDy_fr hD1 f2 (by omega) (by omega)) f3 (by unfold vpa; omega) (by unfold vpa; omega)
        refine r_aload c94_60 rfl ?_
        refine r_iv0 c94_61 vr_10 hD3.1 rfl (k_size hD3 ?_)
        dsimp only [vpush]
        refine r_iret (st := []) c94_64 ?_
        dsimp only [vpush]
        refine r_iret (st := []) c60_24 ?_
        exact k h3 hR3 (vFr_tr (vFr_up f12 (fun q e => by unfold vpa at e; omega)) (vFr_up f3 (fun q e => by omega)))
      refine r_aload c94_10 rfl (r_iload c94_11 rfl ?_)
      refine r_iv1 c94_12 vr_1 (hx.2.2.1).1 rfl (k_holdsN (hx.2.2.1) (by omega) (fun q => ?_) (fun q => ?_))
      · dsimp only [vpush]
        refine r_ifeq c94_15 (by omega) (by omega) (fun q => by exfalso; omega) (fun c_15 => ?_)
        refine r_aload c94_18 rfl (r_iload c94_19 rfl ?_)
        refine r_iv1 c94_20 vr_3 (hx.2.2.1).1 rfl (k_remove (hx.2.2.1) (by omega) (by omega) (by omega) (fun h1 hD1 f1 => ?_))
        dsimp only [vpush]
        refine r_goto c94_23 ?_
        refine from43 (by unfold vfull; rw [q]; rfl) h1 (vDy_cg hD1 (fun n hn => ?_)) f1
        unfold vfl
        by_cases e : n = m
        · subst e; rw [if_pos rfl, q]; simp
        · rw [if_neg e, decide_eq_false (by omega)]; simp
      · dsimp only [vpush]
        have hc := vcn_le (σ.1.2.2.1 x.toNat) 0 720
        refine r_ifeq c94_15 (by omega) (by omega) (fun c_15 => ?_) (fun q => by exfalso; omega)
        refine r_aload c94_26 rfl ?_
        refine r_iv0 c94_27 vr_10 (hx.2.2.1).1 rfl (k_size (hx.2.2.1) ?_)
        dsimp only [vpush]
        refine r_ci c94_30 ?_
        refine r_iclt c94_32 (by omega) (by omega) (by omega) (by omega) (fun c_32 => ?_) (fun c_32 => ?_)
        · refine r_aload c94_38 rfl (r_iload c94_39 rfl ?_)
          refine r_iv1 c94_40 vr_2 (hx.2.2.1).1 rfl (k_add (hx.2.2.1) (by omega) (by omega) (by omega) (fun h1 hD1 f1 => ?_))
          dsimp only [vpush]
          refine from43 (by unfold vfull; rw [decide_eq_false (by omega), Bool.and_false]) h1 (vDy_cg hD1 (fun n hn => ?_)) f1
          unfold vfl
          by_cases e : n = m
          · subst e; rw [if_pos rfl, q]; simp
          · rw [if_neg e, decide_eq_false (by omega)]; simp
        · have hv : vfull (σ.1.2.2.1 x.toNat) m = true := by unfold vfull; rw [q, decide_eq_true (by omega)]; rfl
          have eS : vS_out σ x (m : Int) = σ := if_neg (fun g => by have := g.2; rw [Int.toNat_natCast, hv] at this; cases this)
          have eQ : vQ_out σ.1 x (m : Int) = -4 := by unfold vQ_out vQ_tog; rw [if_pos ⟨e1, e2⟩, if_pos ⟨g1, g2⟩, Int.toNat_natCast, if_pos hv]
          rw [eS, eQ] at k
          refine r_ci c94_35 ?_
          refine r_iret (st := []) c94_37 ?_
          dsimp only [vpush]
          refine r_iret (st := []) c60_24 ?_
          exact k h hR0 vFr_rf
    · have eS : vS_out σ x y = σ := if_neg (fun g => by have := g.1.2; omega)
      have eQ : vQ_out σ.1 x y = -2 := by unfold vQ_out vQ_tog; rw [if_pos ⟨e1, e2⟩, if_neg (by omega)]
      rw [eS, eQ] at k
      dsimp only [vpush]
      refine r_ifne c94_4 (by omega) (by omega) (fun q => by exfalso; omega) (fun c_4 => ?_)
      refine r_ci c94_7 ?_
      refine r_iret (st := []) c94_9 ?_
      dsimp only [vpush]
      refine r_iret (st := []) c60_24 ?_
      exact k h hR0 vFr_rf
  · dsimp only [vpush]
    have eS : vS_out σ x y = σ := if_neg (fun g => by have := g.1.1; omega)
    have eQ : vQ_out σ.1 x y = -1 := if_neg (by omega)
    rw [eS, eQ] at k
    refine r_ifne c60_4 (by omega) (by omega) (fun q => by exfalso; omega) (fun c_4 => ?_)
    refine r_ci c60_7 ?_
    refine r_iret (st := []) c60_8 ?_
    exact k h hR0 vFr_rf
def vQ_extra (N : vNmS) (x y : Int) : Int := if 0 ≤ x ∧ x < 10 then vQ_tog (N.2.2.2 x.toNat) y else -1
def vS_extra (σ : vSg) (x y : Int) : vSg := if ((0 ≤ x ∧ x < 10) ∧ 0 ≤ y ∧ y < 720) ∧ vfull (σ.1.2.2.2 x.toNat) y.toNat = false then (vNup σ.1 x.toNat (σ.1.1 x.toNat) (σ.1.2.1 x.toNat) (σ.1.2.2.1 x.toNat) (vfl (σ.1.2.2.2 x.toNat) y.toNat), σ.2.1, vfg σ.2.2.1 x, σ.2.2.2) else σ
theorem k_extra {d b : Nat} {σ : vSg} {x y : Int} {h : vHp} {Q : vQ} (hR : vRD h b σ) (hO : vOk σ) (x1 : -2147483648 ≤ x) (x2 : x ≤ 2147483647) (y1 : -2147483648 ≤ y) (y2 : y ≤ 2147483647) (k : ∀ h', vRD h' b (vS_extra σ x y) → vFr (fun q => b ≤ q ∧ q < b + 243) h h' → Q (some (.int (iI (vQ_extra σ.1 x y)))) h') : vCall (d + 5) 0 0 61 [.ref b, .int (iI x), .int (iI y)] h Q := by
  have hR0 := hR
  obtain ⟨a1, ⟨p, p1, p2⟩, ⟨s, s1, s2⟩, ⟨w, w1, w2⟩, a5, a6, a7, a8, ⟨J, a9⟩, b1, b2, b3⟩ := hR
  refine vin 3 [_, _, _] ml_61 rfl rfl ?_
  refine r_iload c61_0 rfl ?_
  refine r_is1 c61_1 vr_87 rfl (k_isName x1 x2 (fun e1 e2 => ?_) (fun e1 => ?_))
  · dsimp only [vpush]
    refine r_ifne c61_4 (by omega) (by omega) (fun c_4 => ?_) (fun q => by exfalso; omega)
    have hx := a5 x.toNat (by omega)
    refine r_aload c61_9 rfl (r_iload c61_10 rfl (r_aload c61_11 rfl (r_get c61_12 a1 rfl (r_iload c61_15 rfl (r_aald c61_16 p1 (by omega) (by omega) (by omega) (p2 _ (by omega)) (r_get c61_17 hx.1 rfl (r_iload c61_20 rfl ?_)))))))
    refine r_iv3 (by decide +kernel : vlk 61 21 = some (58, 94, 0, 0, 24)) (by decide +kernel : vrc 94 = some (5, 3)) a1 rfl ?_
    refine vin 4 [_, _, _, _] ml_94 rfl rfl ?_
    refine r_iload c94_0 rfl ?_
    refine r_is1 c94_1 vr_88 rfl (k_isDay y1 y2 (fun g1 g2 => ?_) (fun g1 => ?_))
    · obtain ⟨m, rfl⟩ := Int.eq_ofNat_of_zero_le g1
      dsimp only [vpush]
      refine r_ifne c94_4 (by omega) (by omega) (fun c_4 => ?_) (fun q => by exfalso; omega)
      have hlo : h.1.1 ≤ vpa b x.toNat := by unfold vpa; omega
      have from43 : vfull (σ.1.2.2.2 x.toNat) m = false → ∀ h1, vDy h1 (vpa b x.toNat + 5) (vfl (σ.1.2.2.2 x.toNat) m) → vFr (fun q => q = vpa b x.toNat + 5 + 1) h h1 → vW (vCall (d + 3)) 94 (fun v h' => vW (vCall (d + 4)) 61 Q 24 [.ref b, .int (iI x), .int (iI (m : Int))] (vpush v []) h' 0 0) 43 [.ref b, .int (iI x), .ref (vpa b x.toNat + 5), .int (iI (m : Int))] [] h1 0 0 := by
        intro q h1 hD1 f1
        have eS : vS_extra σ x (m : Int) = (vNup σ.1 x.toNat (σ.1.1 x.toNat) (σ.1.2.1 x.toNat) (σ.1.2.2.1 x.toNat) (vfl (σ.1.2.2.2 x.toNat) m), σ.2.1, vfg σ.2.2.1 x, σ.2.2.2) := if_pos ⟨⟨⟨e1, e2⟩, g1, g2⟩, q⟩
        have eQ : vQ_extra σ.1 x (m : Int) = ((vcn (vfl (σ.1.2.2.2 x.toNat) m) 0 720 : Nat) : Int) := by unfold vQ_extra vQ_tog; rw [if_pos ⟨e1, e2⟩, if_pos ⟨g1, g2⟩, Int.toNat_natCast, if_neg (by rw [q]; decide)]
        rw [eS, eQ] at k
        have g0 := (f1.2.2 (vpa b x.toNat) (by omega)).trans hx.1
        have c1 : hg h1 b = _ := (f1.2.2 b (by unfold vpa; omega)).trans a1
        have c2 : hg h1 (b + 1) = _ := (f1.2.2 (b + 1) (by unfold vpa; omega)).trans p1
        refine r_aload c94_43 rfl (r_get c94_44 c1 rfl (r_iload c94_47 rfl (r_aald c94_48 c2 (by omega) (by omega) (by omega) (p2 _ (by omega)) ?_)))
        refine r_iv0 c94_49 vr_31 g0 rfl (k_refresh (ru := σ.1.1 x.toNat) ⟨g0, vDy_fr hx.2.1 f1 (by omega) (by omega), vDy_fr hx.2.2.1 f1 (by omega) (by omega), hD1, vDy_fr hx.2.2.2.2 f1 (by omega) (by omega)⟩ (vFr_lo f1 hlo) (fun h2 hP2 f2 => ?_))
        dsimp only [vpush]
        have f12 : vFr (fun q => vpa b x.toNat ≤ q ∧ q < vpa b x.toNat + 9) h h2 := vFr_tr (vFr_up f1 (fun q e => by omega)) (vFr_up f2 (fun q e => by omega))
        have hR2 := vRD_plan hR0 (by omega) hP2 f12
        have d1 := hR2.1
        obtain ⟨mo, hmo⟩ := vRD_mo hR2
        refine r_aload c94_52 rfl (r_get c94_53 d1 rfl (r_iload c94_56 rfl ?_))
        refine r_iv1 c94_57 vr_25 hmo rfl (vRD_forget hR2 (fun s hs => by have := hO.2.1 s hs; omega) x1 x2 (fun h3 hR3 f3 => ?_))
        dsimp only [vpush]
        have hD3 := vDy_fr (vDy_fr hD1 f2 (by omega) (by omega)) f3 (by unfold vpa; omega) (by unfold vpa; omega)
        refine r_aload c94_60 rfl ?_
        refine r_iv0 c94_61 vr_10 hD3.1 rfl (k_size hD3 ?_)
        dsimp only [vpush]
        refine r_iret (st := []) c94_64 ?_
        dsimp only [vpush]
        refine r_iret (st := []) c61_24 ?_
        exact k h3 hR3 (vFr_tr (vFr_up f12 (fun q e => by unfold vpa at e; omega)) (vFr_up f3 (fun q e => by omega)))
      refine r_aload c94_10 rfl (r_iload c94_11 rfl ?_)
      refine r_iv1 c94_12 vr_1 (hx.2.2.2.1).1 rfl (k_holdsN (hx.2.2.2.1) (by omega) (fun q => ?_) (fun q => ?_))
      · dsimp only [vpush]
        refine r_ifeq c94_15 (by omega) (by omega) (fun q => by exfalso; omega) (fun c_15 => ?_)
        refine r_aload c94_18 rfl (r_iload c94_19 rfl ?_)
        refine r_iv1 c94_20 vr_3 (hx.2.2.2.1).1 rfl (k_remove (hx.2.2.2.1) (by omega) (by omega) (by omega) (fun h1 hD1 f1 => ?_))
        dsimp only [vpush]
        refine r_goto c94_23 ?_
        refine from43 (by unfold vfull; rw [q]; rfl) h1 (vDy_cg hD1 (fun n hn => ?_)) f1
        unfold vfl
        by_cases e : n = m
        · subst e; rw [if_pos rfl, q]; simp
        · rw [if_neg e, decide_eq_false (by omega)]; simp
      · dsimp only [vpush]
        have hc := vcn_le (σ.1.2.2.2 x.toNat) 0 720
        refine r_ifeq c94_15 (by omega) (by omega) (fun c_15 => ?_) (fun q => by exfalso; omega)
        refine r_aload c94_26 rfl ?_
        refine r_iv0 c94_27 vr_10 (hx.2.2.2.1).1 rfl (k_size (hx.2.2.2.1) ?_)
        dsimp only [vpush]
        refine r_ci c94_30 ?_
        refine r_iclt c94_32 (by omega) (by omega) (by omega) (by omega) (fun c_32 => ?_) (fun c_32 => ?_)
        · refine r_aload c94_38 rfl (r_iload c94_39 rfl ?_)
          refine r_iv1 c94_40 vr_2 (hx.2.2.2.1).1 rfl (k_add (hx.2.2.2.1) (by omega) (by omega) (by omega) (fun h1 hD1 f1 => ?_))
          dsimp only [vpush]
          refine from43 (by unfold vfull; rw [decide_eq_false (by omega), Bool.and_false]) h1 (vDy_cg hD1 (fun n hn => ?_)) f1
          unfold vfl
          by_cases e : n = m
          · subst e; rw [if_pos rfl, q]; simp
          · rw [if_neg e, decide_eq_false (by omega)]; simp
        · have hv : vfull (σ.1.2.2.2 x.toNat) m = true := by unfold vfull; rw [q, decide_eq_true (by omega)]; rfl
          have eS : vS_extra σ x (m : Int) = σ := if_neg (fun g => by have := g.2; rw [Int.toNat_natCast, hv] at this; cases this)
          have eQ : vQ_extra σ.1 x (m : Int) = -4 := by unfold vQ_extra vQ_tog; rw [if_pos ⟨e1, e2⟩, if_pos ⟨g1, g2⟩, Int.toNat_natCast, if_pos hv]
          rw [eS, eQ] at k
          refine r_ci c94_35 ?_
          refine r_iret (st := []) c94_37 ?_
          dsimp only [vpush]
          refine r_iret (st := []) c61_24 ?_
          exact k h hR0 vFr_rf
    · have eS : vS_extra σ x y = σ := if_neg (fun g => by have := g.1.2; omega)
      have eQ : vQ_extra σ.1 x y = -2 := by unfold vQ_extra vQ_tog; rw [if_pos ⟨e1, e2⟩, if_neg (by omega)]
      rw [eS, eQ] at k
      dsimp only [vpush]
      refine r_ifne c94_4 (by omega) (by omega) (fun q => by exfalso; omega) (fun c_4 => ?_)
      refine r_ci c94_7 ?_
      refine r_iret (st := []) c94_9 ?_
      dsimp only [vpush]
      refine r_iret (st := []) c61_24 ?_
      exact k h hR0 vFr_rf
  · dsimp only [vpush]
    have eS : vS_extra σ x y = σ := if_neg (fun g => by have := g.1.1; omega)
    have eQ : vQ_extra σ.1 x y = -1 := if_neg (by omega)
    rw [eS, eQ] at k
    refine r_ifne c61_4 (by omega) (by omega) (fun q => by exfalso; omega) (fun c_4 => ?_)
    refine r_ci c61_7 ?_
    refine r_iret (st := []) c61_8 ?_
    exact k h hR0 vFr_rf

