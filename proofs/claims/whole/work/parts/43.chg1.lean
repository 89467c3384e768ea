theorem ml_33 : vml 33 = 2 := by decide +kernel
theorem ml_34 : vml 34 = 2 := by decide +kernel
theorem ml_55 : vml 55 = 2 := by decide +kernel
theorem ml_56 : vml 56 = 1 := by decide +kernel
theorem ml_57 : vml 57 = 4 := by decide +kernel
theorem vr_25 : vrc 25 = some (1, 1) := by decide +kernel
theorem vr_34 : vrc 34 = some (3, 0) := by decide +kernel
theorem vr_35 : vrc 35 = some (3, 1) := by decide +kernel
theorem c33_0 : vlk 33 0 = some (6, 0, 0, 0, 1) := by decide +kernel
theorem c33_1 : vlk 33 1 = some (42, 3, 1, 0, 4) := by decide +kernel
theorem c33_4 : vlk 33 4 = some (1, 0, 0, 80, 6) := by decide +kernel
theorem c33_6 : vlk 33 6 = some (78, 12, 0, 0, 9) := by decide +kernel
theorem c33_9 : vlk 33 9 = some (1, 0, 0, (-4), 11) := by decide +kernel
theorem c33_11 : vlk 33 11 = some (63, 0, 0, 0, 12) := by decide +kernel
theorem c33_12 : vlk 33 12 = some (6, 0, 0, 0, 13) := by decide +kernel
theorem c33_13 : vlk 33 13 = some (42, 3, 0, 0, 16) := by decide +kernel
theorem c33_16 : vlk 33 16 = some (6, 0, 0, 0, 17) := by decide +kernel
theorem c33_17 : vlk 33 17 = some (42, 3, 1, 0, 20) := by decide +kernel
theorem c33_20 : vlk 33 20 = some (4, 1, 0, 0, 21) := by decide +kernel
theorem c33_21 : vlk 33 21 = some (49, 0, 0, 0, 22) := by decide +kernel
theorem c33_22 : vlk 33 22 = some (6, 0, 0, 0, 23) := by decide +kernel
theorem c33_23 : vlk 33 23 = some (34, 0, 0, 0, 24) := by decide +kernel
theorem c33_24 : vlk 33 24 = some (42, 3, 1, 0, 27) := by decide +kernel
theorem c33_27 : vlk 33 27 = some (1, 0, 0, 1, 28) := by decide +kernel
theorem c33_28 : vlk 33 28 = some (11, 0, 0, 0, 29) := by decide +kernel
theorem c33_29 : vlk 33 29 = some (43, 3, 1, 0, 32) := by decide +kernel
theorem c33_32 : vlk 33 32 = some (6, 0, 0, 0, 33) := by decide +kernel
theorem c33_33 : vlk 33 33 = some (42, 3, 1, 0, 36) := by decide +kernel
theorem c33_36 : vlk 33 36 = some (63, 0, 0, 0, 37) := by decide +kernel
theorem c34_0 : vlk 34 0 = some (6, 0, 0, 0, 1) := by decide +kernel
theorem c34_1 : vlk 34 1 = some (42, 3, 1, 0, 4) := by decide +kernel
theorem c34_4 : vlk 34 4 = some (7, 1, 0, 0, 5) := by decide +kernel
theorem c34_5 : vlk 34 5 = some (6, 0, 0, 0, 6) := by decide +kernel
theorem c34_6 : vlk 34 6 = some (1, 0, 0, 0, 7) := by decide +kernel
theorem c34_7 : vlk 34 7 = some (43, 3, 1, 0, 10) := by decide +kernel
theorem c34_10 : vlk 34 10 = some (4, 1, 0, 0, 11) := by decide +kernel
theorem c34_11 : vlk 34 11 = some (63, 0, 0, 0, 12) := by decide +kernel
theorem c55_0 : vlk 55 0 = some (4, 1, 0, 0, 1) := by decide +kernel
theorem c55_1 : vlk 55 1 = some (1, 0, 0, 1, 2) := by decide +kernel
theorem c55_2 : vlk 55 2 = some (78, 11, 0, 0, 5) := by decide +kernel
theorem c55_5 : vlk 55 5 = some (4, 1, 0, 0, 6) := by decide +kernel
theorem c55_6 : vlk 55 6 = some (1, 0, 0, 127, 8) := by decide +kernel
theorem c55_8 : vlk 55 8 = some (81, 14, 0, 0, 11) := by decide +kernel
theorem c55_11 : vlk 55 11 = some (1, 0, 0, (-2), 13) := by decide +kernel
theorem c55_13 : vlk 55 13 = some (63, 0, 0, 0, 14) := by decide +kernel
theorem c55_14 : vlk 55 14 = some (6, 0, 0, 0, 15) := by decide +kernel
theorem c55_15 : vlk 55 15 = some (42, 5, 3, 0, 18) := by decide +kernel
theorem c55_18 : vlk 55 18 = some (4, 1, 0, 0, 19) := by decide +kernel
theorem c55_22 : vlk 55 22 = some (63, 0, 0, 0, 23) := by decide +kernel
theorem c56_0 : vlk 56 0 = some (6, 0, 0, 0, 1) := by decide +kernel
theorem c56_1 : vlk 56 1 = some (42, 5, 3, 0, 4) := by decide +kernel
theorem c56_4 : vlk 56 4 = some (58, 34, 0, 0, 7) := by decide +kernel
theorem c56_7 : vlk 56 7 = some (63, 0, 0, 0, 8) := by decide +kernel
theorem c57_0 : vlk 57 0 = some (4, 1, 0, 0, 1) := by decide +kernel
theorem c57_1 : vlk 57 1 = some (59, 87, 0, 0, 4) := by decide +kernel
theorem c57_4 : vlk 57 4 = some (71, 9, 0, 0, 7) := by decide +kernel
theorem c57_7 : vlk 57 7 = some (1, 0, 0, (-1), 8) := by decide +kernel
theorem c57_8 : vlk 57 8 = some (63, 0, 0, 0, 9) := by decide +kernel
theorem c57_9 : vlk 57 9 = some (6, 0, 0, 0, 10) := by decide +kernel
theorem c57_10 : vlk 57 10 = some (42, 5, 3, 0, 13) := by decide +kernel
theorem c57_13 : vlk 57 13 = some (6, 0, 0, 0, 14) := by decide +kernel
theorem c57_14 : vlk 57 14 = some (42, 5, 0, 0, 17) := by decide +kernel
theorem c57_17 : vlk 57 17 = some (58, 35, 0, 0, 20) := by decide +kernel
theorem c57_20 : vlk 57 20 = some (9, 2, 0, 0, 21) := by decide +kernel
theorem c57_21 : vlk 57 21 = some (6, 0, 0, 0, 22) := by decide +kernel
theorem c57_22 : vlk 57 22 = some (42, 5, 3, 0, 25) := by decide +kernel
theorem c57_25 : vlk 57 25 = some (42, 3, 2, 0, 28) := by decide +kernel
theorem c57_28 : vlk 57 28 = some (7, 3, 0, 0, 29) := by decide +kernel
theorem c57_29 : vlk 57 29 = some (6, 0, 0, 0, 30) := by decide +kernel
theorem c57_30 : vlk 57 30 = some (42, 5, 3, 0, 33) := by decide +kernel
theorem c57_33 : vlk 57 33 = some (58, 34, 0, 0, 36) := by decide +kernel
theorem c57_36 : vlk 57 36 = some (36, 0, 0, 0, 37) := by decide +kernel
theorem c57_37 : vlk 57 37 = some (6, 2, 0, 0, 38) := by decide +kernel
theorem c57_38 : vlk 57 38 = some (41, 46, 0, 0, 41) := by decide +kernel
theorem c57_41 : vlk 57 41 = some (1, 0, 0, (-100), 43) := by decide +kernel
theorem c57_43 : vlk 57 43 = some (4, 3, 0, 0, 44) := by decide +kernel
theorem c57_44 : vlk 57 44 = some (12, 0, 0, 0, 45) := by decide +kernel
theorem c57_45 : vlk 57 45 = some (63, 0, 0, 0, 46) := by decide +kernel
theorem c57_46 : vlk 57 46 = some (6, 0, 0, 0, 47) := by decide +kernel
theorem c57_47 : vlk 57 47 = some (42, 5, 0, 0, 50) := by decide +kernel
theorem c57_50 : vlk 57 50 = some (4, 1, 0, 0, 51) := by decide +kernel
theorem c57_51 : vlk 57 51 = some (48, 0, 0, 0, 52) := by decide +kernel
theorem c57_52 : vlk 57 52 = some (1, 0, 0, 1, 53) := by decide +kernel
theorem c57_53 : vlk 57 53 = some (6, 2, 0, 0, 54) := by decide +kernel
theorem c57_54 : vlk 57 54 = some (58, 28, 0, 0, 57) := by decide +kernel
theorem c57_57 : vlk 57 57 = some (6, 0, 0, 0, 58) := by decide +kernel
theorem c57_58 : vlk 57 58 = some (42, 5, 4, 0, 61) := by decide +kernel
theorem c57_61 : vlk 57 61 = some (4, 1, 0, 0, 62) := by decide +kernel
theorem c57_62 : vlk 57 62 = some (58, 25, 0, 0, 65) := by decide +kernel
theorem c57_65 : vlk 57 65 = some (6, 2, 0, 0, 66) := by decide +kernel
theorem c57_66 : vlk 57 66 = some (58, 10, 0, 0, 69) := by decide +kernel
theorem c57_69 : vlk 57 69 = some (63, 0, 0, 0, 70) := by decide +kernel
/-! what changes names and the tape -/
def vQ_feed (σ : vSg) (x : Int) : Int := if 1 ≤ x ∧ x ≤ 127 then (if σ.2.2.2.1.1 = 80 then -4 else ((σ.2.2.2.1.1 + 1 : Nat) : Int)) else -2
def vS_feed (σ : vSg) (x : Int) : vSg := if 1 ≤ x ∧ x ≤ 127 then (if σ.2.2.2.1.1 = 80 then σ else (σ.1, σ.2.1, σ.2.2.1, (σ.2.2.2.1.1 + 1, vup σ.2.2.2.1.2 σ.2.2.2.1.1 x), σ.2.2.2.2)) else σ
theorem k_feed {d b : Nat} {σ : vSg} {x : Int} {h : vHp} {Q : vQ} (hR : vRD h b σ) (hO : vOk σ) (x1 : -2147483648 ≤ x) (x2 : x ≤ 2147483647) (k : ∀ h', vRD h' b (vS_feed σ x) → vFr (fun q => b ≤ q ∧ q < b + 243) h h' → Q (some (.int (iI (vQ_feed σ x)))) h') : vCall (d + 2) 0 0 55 [.ref b, .int (iI x)] h Q := by
  have hR0 := hR
  obtain ⟨a1, ⟨p, p1, p2⟩, ⟨s, s1, s2⟩, ⟨w, w1, w2⟩, a5, a6, a7, a8, ⟨J, a9⟩, b1, b2, b3⟩ := hR
  have hn := hO.2.2.2.1.1
  unfold vQ_feed vS_feed at k
  have no : ¬ (1 ≤ x ∧ x ≤ 127) → vW (vCall (d + 1)) 55 Q 11 [.ref b, .int (iI x)] [] h 0 0 := fun q => by
    rw [if_neg q, if_neg q] at k
    refine r_ci c55_11 ?_
    refine r_iret (st := []) c55_13 ?_
    exact k h hR0 vFr_rf
  refine vin 2 [_, _] ml_55 rfl rfl ?_
  refine r_iload c55_0 rfl (r_ci c55_1 ?_)
  refine r_iclt c55_2 (by omega) (by omega) (by omega) (by omega) (fun c_2 => ?_) (fun c_2 => ?_)
  · exact no (by omega)
  · refine r_iload c55_5 rfl (r_ci c55_6 ?_)
    refine r_icle c55_8 (by omega) (by omega) (by omega) (by omega) (fun c_8 => ?_) (fun c_8 => ?_)
    · have hx : 1 ≤ x ∧ x ≤ 127 := by omega
      rw [if_pos hx, if_pos hx] at k
      obtain ⟨⟨pl, r0⟩, rz, rk⟩ := a7
      have r0' := r0
      unfold vRo at r0'
      have rz1 := rz.1
      unfold vRy at rz1
      refine r_aload c55_14 rfl (r_get c55_15 a1 rfl (r_iload c55_18 rfl ?_))
      refine r_iv1 (by decide +kernel : vlk 55 19 = some (58, 33, 0, 0, 22)) (by decide +kernel : vrc 33 = some (3, 1)) r0' rfl ?_
      refine vin 2 [_, _] ml_33 rfl rfl ?_
      refine r_aload c33_0 rfl (r_get c33_1 r0' rfl (r_ci c33_4 ?_))
      refine r_iclt c33_6 (by omega) (by omega) (by omega) (by omega) (fun c_6 => ?_) (fun c_6 => ?_)
      · refine r_aload c33_12 rfl (r_get c33_13 r0' rfl (r_aload c33_16 rfl (r_get c33_17 r0' rfl (r_iload c33_20 rfl ?_))))
        refine r_iast c33_21 rz1 (by omega) (by omega) (by omega) (fun h1 s1' => ?_)
        have f1 := vFr_st s1'
        have r1 := (f1.2.2 _ (by omega)).trans r0'
        refine r_aload c33_22 rfl (r_dup c33_23 rfl (r_get c33_24 r1 rfl (r_ci c33_27 (r_iadd c33_28 ?_))))
        refine r_put c33_29 r1 (vFr_lo f1 (by omega)) rfl ⟨rfl, rfl⟩ (fun h2 s2' => ?_)
        have f2 := vFr_tr (vFr_up f1 (Y := fun q => b + 3 ≤ q ∧ q < b + 3 + 41) (fun q e => by omega)) (vFr_up (vFr_st s2') (fun q e => by omega))
        have r2 := s2'.2.2.1
        dsimp only [vst] at r2
        rw [vsu] at r2
        rw [if_neg (by omega), if_neg (by omega)] at k
        refine r_aload c33_32 rfl (r_get c33_33 r2 rfl ?_)
        refine r_iret (st := []) c33_36 ?_
        dsimp only [vpush]
        refine r_iret (st := []) c55_22 ?_
        obtain ⟨z1, z2, z3, z4⟩ := rz
        refine k h2 (vRD_rea hR0 ⟨⟨pl, r2⟩, ⟨?_, ?_, ?_, ?_⟩, fun j hj => ?_⟩ f2) (vFr_up f2 (fun q e => by omega))
        · show hg h2 _ = _
          rw [s2'.2.2.2 _ (by omega), s1'.2.2.1, Int.toNat_natCast]
        · exact vAw2_fr z2 (vFr_tr (vFr_up f1 (Y := fun q => q = b + 3 + 1 ∨ q = b + 3) (fun q e => by omega)) (vFr_up (vFr_st s2') (fun q e => by omega))) (by omega)
        · exact vAw2_fr z3 (vFr_tr (vFr_up f1 (Y := fun q => q = b + 3 + 1 ∨ q = b + 3) (fun q e => by omega)) (vFr_up (vFr_st s2') (fun q e => by omega))) (by omega)
        · exact vAw2_fr z4 (vFr_tr (vFr_up f1 (Y := fun q => q = b + 3 + 1 ∨ q = b + 3) (fun q e => by omega)) (vFr_up (vFr_st s2') (fun q e => by omega))) (by omega)
        · obtain ⟨S, hS⟩ := rk j hj
          exact ⟨S, vDy_fr hS (vFr_tr (vFr_up f1 (Y := fun q => q = b + 3 + 1 ∨ q = b + 3) (fun q e => by omega)) (vFr_up (vFr_st s2') (fun q e => by omega))) (by omega) (by omega)⟩
      · rw [if_pos (by omega), if_pos (by omega)] at k
        refine r_ci c33_9 ?_
        refine r_iret (st := []) c33_11 ?_
        dsimp only [vpush]
        refine r_iret (st := []) c55_22 ?_
        exact k h hR0 vFr_rf
    · exact no (by omega)
theorem k_empty {d r n pl : Nat} {t : Nat → Int} {h : vHp} {Q : vQ} (ho : vRo h r n pl) (hz : vRz h r t) (hk : vRk h r) (hlo : h.1.1 ≤ r) (k : ∀ h', vRo h' r 0 pl → vRe h' r 0 t → vFr (fun q => q = r) h h' → Q (some (.int (iI (n : Int)))) h') : vCall (d + 1) 0 0 34 [.ref r] h Q := by
  have ho' := ho
  unfold vRo at ho'
  refine vin 2 [_, _] ml_34 rfl rfl ?_
  refine r_aload c34_0 rfl (r_get c34_1 ho' rfl (r_istore c34_4 rfl (r_aload c34_5 rfl (r_ci c34_6 ?_))))
  try dsimp only [vst]
  refine r_put c34_7 ho' hlo rfl ⟨rfl, rfl⟩ (fun h1 s1 => ?_)
  refine r_iload c34_10 rfl ?_
  refine r_iret (st := []) c34_11 ?_
  have f1 := vFr_st s1
  have r1 : vRo h1 r 0 pl := s1.2.2.1
  refine k h1 r1 ⟨⟨pl, r1⟩, vRz_fr hz f1 (fun q e1 e2 => by omega), fun j hj => ?_⟩ f1
  obtain ⟨S, hS⟩ := hk j hj
  exact ⟨S, vDy_fr hS f1 (by omega) (by omega)⟩
def vS_clear (σ : vSg) : vSg := (σ.1, σ.2.1, σ.2.2.1, (0, σ.2.2.2.1.2), σ.2.2.2.2)
theorem k_clear {d b : Nat} {σ : vSg} {h : vHp} {Q : vQ} (hR : vRD h b σ) (k : ∀ h', vRD h' b (vS_clear σ) → vFr (fun q => b ≤ q ∧ q < b + 243) h h' → Q (some (.int (iI ((σ.2.2.2.1.1 : Int))))) h') : vCall (d + 2) 0 0 56 [.ref b] h Q := by
  have hR0 := hR
  obtain ⟨a1, ⟨p, p1, p2⟩, ⟨s, s1, s2⟩, ⟨w, w1, w2⟩, a5, a6, a7, a8, ⟨J, a9⟩, b1, b2, b3⟩ := hR
  obtain ⟨⟨pl, r0⟩, rz, rk⟩ := a7
  have r0' := r0
  unfold vRo at r0'
  refine vin 1 [_] ml_56 rfl rfl ?_
  refine r_aload c56_0 rfl (r_get c56_1 a1 rfl ?_)
  refine r_iv0 c56_4 vr_34 r0' rfl (k_empty r0 rz rk (by omega) (fun h1 ho1 hR1 f1 => ?_))
  dsimp only [vpush]
  refine r_iret (st := []) c56_7 ?_
  exact k h1 (vRD_rea hR0 hR1 (vFr_up f1 (fun q e => by omega))) (vFr_up f1 (fun q e => by omega))
/-- the reader and what it reads from, as one -/
theorem vRD_px {h : vHp} {b : Nat} {σ : vSg} (hR : vRD h b σ) (hO : vOk σ) : ∃ pl, vPx h (b + 3) σ.2.2.2.1.1 σ.2.2.2.1.2 (b + 1) (vpa b) (fun i => vDd σ.1 i) pl := by
  obtain ⟨a1, a2, a3, a4, a5, a6, ⟨⟨pl, r0⟩, rz, rk⟩, a8, a9, b1, b2, b3⟩ := hR
  refine ⟨pl, r0, rz, rk, ⟨a2, fun i hi => ⟨⟨_, (a5 i hi).1, rfl⟩, (a5 i hi).2.2.2.2⟩⟩, b2, by omega, hO.2.2.2.1, ⟨by omega, fun i hi => by unfold vpa; omega⟩⟩
def vfg (l : List vSp × Int × Int) (x : Int) : List vSp × Int × Int := (l.1.filter (vnx x), l.2.1, l.2.2)
/-- what is remembered of a name is forgotten -/
theorem vRD_forget {h : vHp} {b : Nat} {σ : vSg} {x : Int} {d : Nat} {Q : vQ} (hR : vRD h b σ) (hb : ∀ s, s ∈ σ.2.2.1.1 → (0 ≤ s.1 ∧ s.1 ≤ 1000)) (x1 : -2147483648 ≤ x) (x2 : x ≤ 2147483647) (k : ∀ h', vRD h' b (σ.1, σ.2.1, vfg σ.2.2.1 x, σ.2.2.2) → vFr (fun q => b + 44 ≤ q ∧ q < b + 44 + 8) h h' → Q none h') : vCall (d + 1) 0 0 25 [.ref (b + 44), .int (iI x)] h Q := by
  have hR0 := hR
  obtain ⟨a1, ⟨p, p1, p2⟩, ⟨s, s1, s2⟩, ⟨w, w1, w2⟩, a5, a6, a7, a8, ⟨J, a9⟩, b1, b2, b3⟩ := hR
  exact k_forget a8 (by omega) (fun s hs => by have := hb s hs; omega) x1 x2 (fun h1 hM1 f1 => k h1 (vRD_mem hR0 hM1 f1) f1)
theorem vRD_mo {h : vHp} {b : Nat} {σ : vSg} (hR : vRD h b σ) : ∃ fs, hg h (b + 44) = some (.inr (1, fs)) := by
  obtain ⟨a1, a2, a3, a4, a5, a6, a7, ⟨hlen, L, ⟨m0, mm⟩, hL⟩, b1⟩ := hR
  exact ⟨_, m0⟩
def vQ_rule (σ : vSg) (x : Int) : Int := if 0 ≤ x ∧ x < 10 then (match (vrd σ.2.2.2.1.1 σ.2.2.2.1.2 (fun i => vDd σ.1 i)).2 with
  | none => -100 - ((vrd σ.2.2.2.1.1 σ.2.2.2.1.2 (fun i => vDd σ.1 i)).1 : Int)
  | some S => ((vcn S 0 720 : Nat) : Int)) else -1
def vS_rule (σ : vSg) (x : Int) : vSg := if 0 ≤ x ∧ x < 10 then (match (vrd σ.2.2.2.1.1 σ.2.2.2.1.2 (fun i => vDd σ.1 i)).2 with
  | none => vS_clear σ
  | some S => (vNup σ.1 x.toNat true S (σ.1.2.2.1 x.toNat) (σ.1.2.2.2 x.toNat), σ.2.1, vfg σ.2.2.1 x, (0, σ.2.2.2.1.2), σ.2.2.2.2)) else σ
theorem k_rule {d b : Nat} {σ : vSg} {x : Int} {h : vHp} {Q : vQ} (hR : vRD h b σ) (hO : vOk σ) (x1 : -2147483648 ≤ x) (x2 : x ≤ 2147483647) (k : ∀ h', vRD h' b (vS_rule σ x) → vFr (fun q => b ≤ q ∧ q < b + 243) h h' → Q (some (.int (iI (vQ_rule σ x)))) h') : vCall (d + 42) 0 0 57 [.ref b, .int (iI x)] h Q := by
  have hR0 := hR
  obtain ⟨a1, ⟨p, p1, p2⟩, ⟨s, s1, s2⟩, ⟨w, w1, w2⟩, a5, a6, a7, a8, ⟨J, a9⟩, b1, b2, b3⟩ := hR
  unfold vQ_rule vS_rule at k
  refine vin 4 [_, _, _, _] ml_57 rfl rfl ?_
  refine r_iload c57_0 rfl ?_
  refine r_is1 c57_1 vr_87 rfl (k_isName x1 x2 (fun e1 e2 => ?_) (fun e1 => ?_))
  · dsimp only [vpush]
    rw [if_pos ⟨e1, e2⟩, if_pos ⟨e1, e2⟩] at k
    refine r_ifne c57_4 (by omega) (by omega) (fun c_4 => ?_) (fun q => by exfalso; omega)
    obtain ⟨pl, hP⟩ := vRD_px hR0 hO
    have r0' := hP.1
    unfold vRo at r0'
    have vo := (vex_ok (n := σ.2.2.2.1.1) (t := σ.2.2.2.1.2) (D := fun i => vDd σ.1 i) 5 0 (by omega)).2.1
    have back : ∀ (h1 : vHp) (p1 : Nat), vPx h1 (b + 3) σ.2.2.2.1.1 σ.2.2.2.1.2 (b + 1) (vpa b) (fun i => vDd σ.1 i) p1 → vFr (fun q => b + 3 ≤ q ∧ q < b + 3 + 41) h h1 → vRD h1 b σ := fun h1 p1 hP1 f1 => vRD_rea hR0 ⟨⟨p1, hP1.1⟩, hP1.2.1, hP1.2.2.1⟩ f1
    refine r_aload c57_9 rfl (r_get c57_10 a1 rfl (r_aload c57_13 rfl (r_get c57_14 a1 rfl ?_)))
    refine r_iv1 c57_17 vr_35 r0' rfl (k_read hP (fun e h1 hP1 f1 => ?_) (fun S e h1 hP1 hS1 f1 => ?_))
    · dsimp only [vpush]
      rw [e] at k
      dsimp only at k
      have hR1 := back h1 _ hP1 f1
      have a1' := hR1.1
      have r1' := hP1.1
      unfold vRo at r1'
      refine r_astoreN c57_20 rfl (r_aload c57_21 rfl (r_get c57_22 a1' rfl (r_get c57_25 r1' rfl (r_istore c57_28 rfl (r_aload c57_29 rfl (r_get c57_30 a1' rfl ?_))))))
      try dsimp only [vst]
      refine r_iv0 c57_33 vr_34 r1' rfl (k_empty hP1.1 hP1.2.1 hP1.2.2.1 hP1.2.2.2.2.2.1 (fun h2 ho2 hR2 f2 => ?_))
      dsimp only [vpush]
      refine r_pop c57_36 rfl (r_aloadN c57_37 rfl ?_)
      refine r_ifnonN c57_38 ?_
      refine r_ci c57_41 (r_iload c57_43 rfl (r_isub c57_44 ?_))
      refine r_iret (st := []) c57_45 ?_
      exact k h2 (vRD_rea hR1 hR2 (vFr_up f2 (fun q e => by omega))) (vFr_tr (vFr_up f1 (fun q e => by omega)) (vFr_up f2 (fun q e => by omega)))
    · dsimp only [vpush]
      rw [e] at k
      dsimp only at k
      have hR1 := back h1 _ hP1 f1
      have a1' := hR1.1
      have r1' := hP1.1
      unfold vRo at r1'
      refine r_astore c57_20 rfl (r_aload c57_21 rfl (r_get c57_22 a1' rfl (r_get c57_25 r1' rfl (r_istore c57_28 rfl (r_aload c57_29 rfl (r_get c57_30 a1' rfl ?_))))))
      try dsimp only [vst]
      refine r_iv0 c57_33 vr_34 r1' rfl (k_empty hP1.1 hP1.2.1 hP1.2.2.1 hP1.2.2.2.2.2.1 (fun h2 ho2 hR2 f2 => ?_))
      dsimp only [vpush]
      have hR2 := vRD_rea hR1 hR2 (vFr_up f2 (fun q e => by omega))
      have hS2 := vDy_fr hS1 f2 (by omega) (by omega)
      have hR2' := hR2
      obtain ⟨c1, ⟨q, q1, q2⟩, -, -, c5, -, -, c8, -, -, -, c9⟩ := hR2'
      have hx := c5 x.toNat (by omega)
      refine r_pop c57_36 rfl (r_aload c57_37 rfl ?_)
      refine r_ifnonR c57_38 ?_
      refine r_aload c57_46 rfl (r_get c57_47 c1 rfl (r_iload c57_50 rfl (r_aald c57_51 q1 (by omega) (by omega) (by omega) (q2 _ (by omega)) (r_ci c57_52 (r_aload c57_53 rfl ?_)))))
      refine r_iv2 c57_54 vr_28 hx.1 rfl (k_planBecome (rn := true) hx hS2 (by unfold vpa; omega) (fun h3 hP3 f3 => ?_))
      dsimp only [vpush]
      have hR3 := vRD_plan hR2 (by omega) hP3 f3
      have hS3 := vDy_fr hS2 f3 (by unfold vpa; omega) (by unfold vpa; omega)
      have d1 := hR3.1
      obtain ⟨mo, hmo⟩ := vRD_mo hR3
      refine r_aload c57_57 rfl (r_get c57_58 d1 rfl (r_iload c57_61 rfl ?_))
      refine r_iv1 c57_62 vr_25 hmo rfl (vRD_forget hR3 (fun s hs => by have := hO.2.1 s hs; omega) x1 x2 (fun h4 hR4 f4 => ?_))
      dsimp only [vpush]
      have hS4 := vDy_fr hS3 f4 (by omega) (by omega)
      refine r_aload c57_65 rfl ?_
      refine r_iv0 c57_66 vr_10 hS4.1 rfl (k_size hS4 ?_)
      dsimp only [vpush]
      refine r_iret (st := []) c57_69 ?_
      exact k h4 hR4 (vFr_tr (vFr_tr (vFr_tr (vFr_up f1 (fun q e => by omega)) (vFr_up f2 (fun q e => by omega))) (vFr_up f3 (fun q e => by unfold vpa at e; omega))) (vFr_up f4 (fun q e => by omega)))
  · dsimp only [vpush]
    rw [if_neg (by omega), if_neg (by omega)] at k
    refine r_ifne c57_4 (by omega) (by omega) (fun q => by exfalso; omega) (fun c_4 => ?_)
    refine r_ci c57_7 ?_
    refine r_iret (st := []) c57_8 ?_
    exact k h hR0 vFr_rf

