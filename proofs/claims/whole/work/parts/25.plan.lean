theorem ml_28 : vml 28 = 3 := by decide +kernel
theorem ml_29 : vml 29 = 1 := by decide +kernel
theorem ml_30 : vml 30 = 2 := by decide +kernel
theorem ml_31 : vml 31 = 1 := by decide +kernel
theorem vr_4 : vrc 4 = some (0, 0) := by decide +kernel
theorem vr_5 : vrc 5 = some (0, 1) := by decide +kernel
theorem vr_6 : vrc 6 = some (0, 1) := by decide +kernel
theorem vr_7 : vrc 7 = some (0, 1) := by decide +kernel
theorem vr_28 : vrc 28 = some (2, 2) := by decide +kernel
theorem vr_31 : vrc 31 = some (2, 0) := by decide +kernel
theorem c28_0 : vlk 28 0 = some (6, 0, 0, 0, 1) := by decide +kernel
theorem c28_1 : vlk 28 1 = some (4, 1, 0, 0, 2) := by decide +kernel
theorem c28_2 : vlk 28 2 = some (43, 2, 0, 0, 5) := by decide +kernel
theorem c28_5 : vlk 28 5 = some (6, 0, 0, 0, 6) := by decide +kernel
theorem c28_6 : vlk 28 6 = some (42, 2, 1, 0, 9) := by decide +kernel
theorem c28_9 : vlk 28 9 = some (6, 2, 0, 0, 10) := by decide +kernel
theorem c28_10 : vlk 28 10 = some (58, 5, 0, 0, 13) := by decide +kernel
theorem c28_13 : vlk 28 13 = some (6, 0, 0, 0, 14) := by decide +kernel
theorem c28_14 : vlk 28 14 = some (58, 31, 0, 0, 17) := by decide +kernel
theorem c28_17 : vlk 28 17 = some (66, 0, 0, 0, 18) := by decide +kernel
theorem c29_0 : vlk 29 0 = some (6, 0, 0, 0, 1) := by decide +kernel
theorem c29_1 : vlk 29 1 = some (1, 0, 0, 0, 2) := by decide +kernel
theorem c29_2 : vlk 29 2 = some (43, 2, 0, 0, 5) := by decide +kernel
theorem c29_5 : vlk 29 5 = some (6, 0, 0, 0, 6) := by decide +kernel
theorem c29_6 : vlk 29 6 = some (42, 2, 1, 0, 9) := by decide +kernel
theorem c29_9 : vlk 29 9 = some (58, 4, 0, 0, 12) := by decide +kernel
theorem c29_12 : vlk 29 12 = some (6, 0, 0, 0, 13) := by decide +kernel
theorem c29_13 : vlk 29 13 = some (58, 31, 0, 0, 16) := by decide +kernel
theorem c29_16 : vlk 29 16 = some (66, 0, 0, 0, 17) := by decide +kernel
theorem c30_0 : vlk 30 0 = some (6, 0, 0, 0, 1) := by decide +kernel
theorem c30_1 : vlk 30 1 = some (42, 2, 2, 0, 4) := by decide +kernel
theorem c30_4 : vlk 30 4 = some (6, 1, 0, 0, 5) := by decide +kernel
theorem c30_5 : vlk 30 5 = some (42, 2, 2, 0, 8) := by decide +kernel
theorem c30_8 : vlk 30 8 = some (58, 5, 0, 0, 11) := by decide +kernel
theorem c30_11 : vlk 30 11 = some (6, 0, 0, 0, 12) := by decide +kernel
theorem c30_12 : vlk 30 12 = some (42, 2, 3, 0, 15) := by decide +kernel
theorem c30_15 : vlk 30 15 = some (6, 1, 0, 0, 16) := by decide +kernel
theorem c30_16 : vlk 30 16 = some (42, 2, 3, 0, 19) := by decide +kernel
theorem c30_19 : vlk 30 19 = some (58, 5, 0, 0, 22) := by decide +kernel
theorem c30_22 : vlk 30 22 = some (6, 0, 0, 0, 23) := by decide +kernel
theorem c30_23 : vlk 30 23 = some (6, 1, 0, 0, 24) := by decide +kernel
theorem c30_24 : vlk 30 24 = some (42, 2, 0, 0, 27) := by decide +kernel
theorem c30_27 : vlk 30 27 = some (6, 1, 0, 0, 28) := by decide +kernel
theorem c30_28 : vlk 30 28 = some (42, 2, 1, 0, 31) := by decide +kernel
theorem c30_31 : vlk 30 31 = some (58, 28, 0, 0, 34) := by decide +kernel
theorem c30_34 : vlk 30 34 = some (66, 0, 0, 0, 35) := by decide +kernel
theorem c31_0 : vlk 31 0 = some (6, 0, 0, 0, 1) := by decide +kernel
theorem c31_1 : vlk 31 1 = some (42, 2, 4, 0, 4) := by decide +kernel
theorem c31_4 : vlk 31 4 = some (6, 0, 0, 0, 5) := by decide +kernel
theorem c31_5 : vlk 31 5 = some (42, 2, 1, 0, 8) := by decide +kernel
theorem c31_8 : vlk 31 8 = some (58, 5, 0, 0, 11) := by decide +kernel
theorem c31_11 : vlk 31 11 = some (6, 0, 0, 0, 12) := by decide +kernel
theorem c31_12 : vlk 31 12 = some (42, 2, 4, 0, 15) := by decide +kernel
theorem c31_15 : vlk 31 15 = some (6, 0, 0, 0, 16) := by decide +kernel
theorem c31_16 : vlk 31 16 = some (42, 2, 3, 0, 19) := by decide +kernel
theorem c31_19 : vlk 31 19 = some (58, 6, 0, 0, 22) := by decide +kernel
theorem c31_22 : vlk 31 22 = some (6, 0, 0, 0, 23) := by decide +kernel
theorem c31_23 : vlk 31 23 = some (42, 2, 4, 0, 26) := by decide +kernel
theorem c31_26 : vlk 31 26 = some (6, 0, 0, 0, 27) := by decide +kernel
theorem c31_27 : vlk 31 27 = some (42, 2, 2, 0, 30) := by decide +kernel
theorem c31_30 : vlk 31 30 = some (58, 7, 0, 0, 33) := by decide +kernel
theorem c31_33 : vlk 31 33 = some (66, 0, 0, 0, 34) := by decide +kernel
/-! Plan: nine cells; its DAYS are what its rule and extra days make less the days out -/
def vBi (b : Bool) : Int := if b = true then 1 else 0
def vP0 (h : vHp) (p : Nat) (ru : Bool) (R O X D : Nat → Bool) : Prop := hg h p = some (.inr (2, [.int (iI (vBi ru)), .ref (p + 1), .ref (p + 3), .ref (p + 5), .ref (p + 7)])) ∧ vDy h (p + 1) R ∧ vDy h (p + 3) O ∧ vDy h (p + 5) X ∧ vDy h (p + 7) D
def vhs (R O X : Nat → Bool) (n : Nat) : Bool := (R n || X n) && !O n
def vPl (h : vHp) (p : Nat) (ru : Bool) (R O X : Nat → Bool) : Prop := vP0 h p ru R O X (vhs R O X)
theorem vP0_fr {Z : Nat → Prop} {h h1 : vHp} {p : Nat} {ru : Bool} {R O X D : Nat → Bool} (hP : vP0 h p ru R O X D) (f : vFr Z h h1) (n : ∀ q, p ≤ q → q < p + 9 → ¬ Z q) : vP0 h1 p ru R O X D :=
  ⟨by rw [f.2.2 _ (n _ (by omega) (by omega))]; exact hP.1, vDy_fr hP.2.1 f (n _ (by omega) (by omega)) (n _ (by omega) (by omega)), vDy_fr hP.2.2.1 f (n _ (by omega) (by omega)) (n _ (by omega) (by omega)), vDy_fr hP.2.2.2.1 f (n _ (by omega) (by omega)) (n _ (by omega) (by omega)), vDy_fr hP.2.2.2.2 f (n _ (by omega) (by omega)) (n _ (by omega) (by omega))⟩
theorem vfit_ru (b : Bool) : vfit 2 0 (.int (iI (vBi b))) := by cases b <;> exact ⟨rfl, rfl⟩
theorem k_refresh {d p : Nat} {ru : Bool} {R O X D : Nat → Bool} {h : vHp} {Q : vQ} (hP : vP0 h p ru R O X D) (hlo : h.1.1 ≤ p) (k : ∀ h', vPl h' p ru R O X → vFr (fun q => q = p + 8) h h' → Q none h') : vCall (d + 2) 0 0 31 [.ref p] h Q := by
  obtain ⟨h0, hR, hO, hX, hD⟩ := hP
  refine vin 1 [_] ml_31 rfl rfl ?_
  refine r_aload c31_0 rfl (r_get c31_1 h0 rfl (r_aload c31_4 rfl (r_get c31_5 h0 rfl ?_)))
  refine r_iv1 c31_8 vr_5 hD.1 rfl (k_become hD hR (by omega) (fun h1 hD1 f1 => ?_))
  dsimp only [vpush]
  have g0 : hg h1 p = _ := (f1.2.2 p (by omega)).trans h0
  refine r_aload c31_11 rfl (r_get c31_12 g0 rfl (r_aload c31_15 rfl (r_get c31_16 g0 rfl ?_)))
  refine r_iv1 c31_19 vr_6 hD1.1 rfl (k_addAll hD1 (vDy_fr hX f1 (by omega) (by omega)) (by omega) (vFr_lo f1 (by omega)) (fun h2 hD2 f2 => ?_))
  dsimp only [vpush]
  have g1 : hg h2 p = _ := (f2.2.2 p (by omega)).trans g0
  refine r_aload c31_22 rfl (r_get c31_23 g1 rfl (r_aload c31_26 rfl (r_get c31_27 g1 rfl ?_)))
  have f12 := vFr_tr f1 f2
  refine r_iv1 c31_30 vr_7 hD2.1 rfl (k_removeAll hD2 (vDy_fr hO f12 (by omega) (by omega)) (by omega) (vFr_lo f12 (by omega)) (fun h3 hD3 f3 => ?_))
  dsimp only [vpush]
  have f13 := vFr_tr f12 f3
  refine r_vret (st := []) c31_33 ?_
  exact k h3 ⟨by rw [f13.2.2 p (by omega)]; exact h0, vDy_fr hR f13 (by omega) (by omega), vDy_fr hO f13 (by omega) (by omega), vDy_fr hX f13 (by omega) (by omega), hD3⟩ f13
theorem k_planBecome {d p s : Nat} {ru rn : Bool} {R O X D S : Nat → Bool} {h : vHp} {Q : vQ} (hP : vP0 h p ru R O X D) (hS : vDy h s S) (hlo : h.1.1 ≤ p) (k : ∀ h', vPl h' p rn S O X → vFr (fun q => p ≤ q ∧ q < p + 9) h h' → Q none h') : vCall (d + 3) 0 0 28 [.ref p, .int (iI (vBi rn)), .ref s] h Q := by
  obtain ⟨h0, hR, hO, hX, hD⟩ := hP
  have n1 : s ≠ p := fun q => by
    have e := hS.1
    rw [q, h0] at e
    cases e
  have n2 : s + 1 ≠ p := fun q => by
    obtain ⟨f, hw, -⟩ := hS.2
    rw [q, h0] at hw
    cases hw
  refine vin 3 [_, _, _] ml_28 rfl rfl ?_
  refine r_aload c28_0 rfl (r_iload c28_1 rfl ?_)
  refine r_put c28_2 h0 hlo rfl (vfit_ru rn) (fun h1 s1 => ?_)
  have f1 := vFr_st s1
  have g1 := s1.2.2.1
  dsimp only [vst] at g1
  refine r_aload c28_5 rfl (r_get c28_6 g1 rfl (r_aload c28_9 rfl ?_))
  have hR1 := vDy_fr hR f1 (by omega) (by omega)
  refine r_iv1 c28_10 vr_5 hR1.1 rfl (k_become hR1 (vDy_fr hS f1 n1 n2) (vFr_lo f1 (by omega)) (fun h2 hR2 f2 => ?_))
  dsimp only [vpush]
  refine r_aload c28_13 rfl ?_
  have f12 := vFr_tr (vFr_up f1 (Y := fun q => q = p ∨ q = p + 2) (fun q e => Or.inl e)) (vFr_up f2 (fun q e => Or.inr e))
  have g2 : hg h2 p = _ := (f2.2.2 p (by omega)).trans g1
  refine r_iv0 c28_14 vr_31 g2 rfl (k_refresh ⟨g2, hR2, vDy_fr hO f12 (by omega) (by omega), vDy_fr hX f12 (by omega) (by omega), vDy_fr hD f12 (by omega) (by omega)⟩ (vFr_lo f12 hlo) (fun h3 hP3 f3 => ?_))
  dsimp only [vpush]
  refine r_vret (st := []) c28_17 ?_
  exact k h3 hP3 (vFr_tr (vFr_up f12 (fun q e => by omega)) (vFr_up f3 (fun q e => by omega)))
theorem k_unrule {d p : Nat} {ru : Bool} {R O X D : Nat → Bool} {h : vHp} {Q : vQ} (hP : vP0 h p ru R O X D) (hlo : h.1.1 ≤ p) (k : ∀ h', vPl h' p false (fun _ => false) O X → vFr (fun q => p ≤ q ∧ q < p + 9) h h' → Q none h') : vCall (d + 3) 0 0 29 [.ref p] h Q := by
  obtain ⟨h0, hR, hO, hX, hD⟩ := hP
  refine vin 1 [_] ml_29 rfl rfl ?_
  refine r_aload c29_0 rfl (r_ci c29_1 ?_)
  refine r_put c29_2 h0 hlo rfl (vfit_ru false) (fun h1 s1 => ?_)
  have f1 := vFr_st s1
  have g1 := s1.2.2.1
  dsimp only [vst] at g1
  refine r_aload c29_5 rfl (r_get c29_6 g1 rfl ?_)
  have hR1 := vDy_fr hR f1 (by omega) (by omega)
  refine r_iv0 c29_9 vr_4 hR1.1 rfl (k_wipe hR1 (vFr_lo f1 (by omega)) (fun h2 hR2 f2 => ?_))
  dsimp only [vpush]
  refine r_aload c29_12 rfl ?_
  have f12 := vFr_tr (vFr_up f1 (Y := fun q => q = p ∨ q = p + 2) (fun q e => Or.inl e)) (vFr_up f2 (fun q e => Or.inr e))
  have g2 : hg h2 p = _ := (f2.2.2 p (by omega)).trans g1
  refine r_iv0 c29_13 vr_31 g2 rfl (k_refresh (ru := false) ⟨g2, hR2, vDy_fr hO f12 (by omega) (by omega), vDy_fr hX f12 (by omega) (by omega), vDy_fr hD f12 (by omega) (by omega)⟩ (vFr_lo f12 hlo) (fun h3 hP3 f3 => ?_))
  dsimp only [vpush]
  refine r_vret (st := []) c29_16 ?_
  exact k h3 hP3 (vFr_tr (vFr_up f12 (fun q e => by omega)) (vFr_up f3 (fun q e => by omega)))
theorem k_planTake {d p s : Nat} {ru rs : Bool} {R O X RS OS XS D DS : Nat → Bool} {h : vHp} {Q : vQ} (hP : vP0 h p ru R O X D) (hS : vP0 h s rs RS OS XS DS) (hd : p + 9 ≤ s ∨ s + 9 ≤ p) (hlo : h.1.1 ≤ p) (k : ∀ h', vPl h' p rs RS OS XS → vFr (fun q => p ≤ q ∧ q < p + 9) h h' → Q none h') : vCall (d + 4) 0 0 30 [.ref p, .ref s] h Q := by
  obtain ⟨h0, hR, hO, hX, hD⟩ := hP
  refine vin 2 [_, _] ml_30 rfl rfl ?_
  refine r_aload c30_0 rfl (r_get c30_1 h0 rfl (r_aload c30_4 rfl (r_get c30_5 hS.1 rfl ?_)))
  refine r_iv1 c30_8 vr_5 hO.1 rfl (k_become hO hS.2.2.1 (by omega) (fun h1 hO1 f1 => ?_))
  dsimp only [vpush]
  have g1 : hg h1 p = _ := (f1.2.2 p (by omega)).trans h0
  have hS1 := vP0_fr hS f1 (fun q e1 e2 => by omega)
  have hX1 := vDy_fr hX f1 (by omega) (by omega)
  refine r_aload c30_11 rfl (r_get c30_12 g1 rfl (r_aload c30_15 rfl (r_get c30_16 hS1.1 rfl ?_)))
  refine r_iv1 c30_19 vr_5 hX1.1 rfl (k_become hX1 hS1.2.2.2.1 (vFr_lo f1 (by omega)) (fun h2 hX2 f2 => ?_))
  dsimp only [vpush]
  have f12 := vFr_tr (vFr_up f1 (Y := fun q => q = p + 4 ∨ q = p + 6) (fun q e => Or.inl e)) (vFr_up f2 (fun q e => Or.inr e))
  have g2 : hg h2 p = _ := (f2.2.2 p (by omega)).trans g1
  have hS2 := vP0_fr hS1 f2 (fun q e1 e2 => by omega)
  refine r_aload c30_22 rfl (r_aload c30_23 rfl (r_get c30_24 hS2.1 rfl (r_aload c30_27 rfl (r_get c30_28 hS2.1 rfl ?_))))
  refine r_iv2 c30_31 vr_28 g2 rfl (k_planBecome (rn := rs) ⟨g2, vDy_fr hR f12 (by omega) (by omega), vDy_fr hO1 f2 (by omega) (by omega), hX2, vDy_fr hD f12 (by omega) (by omega)⟩ hS2.2.1 (vFr_lo f12 hlo) (fun h3 hP3 f3 => ?_))
  dsimp only [vpush]
  refine r_vret (st := []) c30_34 ?_
  exact k h3 hP3 (vFr_tr (vFr_up f12 (fun q e => by omega)) f3)

