theorem ml_1 : vml 1 = 2 := by decide +kernel
theorem ml_2 : vml 2 = 2 := by decide +kernel
theorem ml_3 : vml 3 = 2 := by decide +kernel
theorem ml_4 : vml 4 = 2 := by decide +kernel
theorem ml_5 : vml 5 = 3 := by decide +kernel
theorem ml_6 : vml 6 = 3 := by decide +kernel
theorem ml_7 : vml 7 = 3 := by decide +kernel
theorem ml_8 : vml 8 = 3 := by decide +kernel
theorem ml_9 : vml 9 = 2 := by decide +kernel
theorem c1_0 : vlk 1 0 = some (4, 1, 0, 0, 1) := by decide +kernel
theorem c1_1 : vlk 1 1 = some (82, 88, 0, 0, 4) := by decide +kernel
theorem c1_4 : vlk 1 4 = some (70, 32, 0, 0, 7) := by decide +kernel
theorem c1_7 : vlk 1 7 = some (6, 0, 0, 0, 8) := by decide +kernel
theorem c1_8 : vlk 1 8 = some (42, 0, 0, 0, 11) := by decide +kernel
theorem c1_11 : vlk 1 11 = some (4, 1, 0, 0, 12) := by decide +kernel
theorem c1_12 : vlk 1 12 = some (1, 0, 0, 60, 14) := by decide +kernel
theorem c1_14 : vlk 1 14 = some (14, 0, 0, 0, 15) := by decide +kernel
theorem c1_15 : vlk 1 15 = some (46, 0, 0, 0, 16) := by decide +kernel
theorem c1_16 : vlk 1 16 = some (4, 1, 0, 0, 17) := by decide +kernel
theorem c1_17 : vlk 1 17 = some (1, 0, 0, 60, 19) := by decide +kernel
theorem c1_19 : vlk 1 19 = some (15, 0, 0, 0, 20) := by decide +kernel
theorem c1_20 : vlk 1 20 = some (29, 0, 0, 0, 21) := by decide +kernel
theorem c1_21 : vlk 1 21 = some (2, 0, 0, 1, 22) := by decide +kernel
theorem c1_22 : vlk 1 22 = some (25, 0, 0, 0, 23) := by decide +kernel
theorem c1_23 : vlk 1 23 = some (2, 0, 0, 0, 24) := by decide +kernel
theorem c1_24 : vlk 1 24 = some (31, 0, 0, 0, 25) := by decide +kernel
theorem c1_25 : vlk 1 25 = some (70, 32, 0, 0, 28) := by decide +kernel
theorem c1_28 : vlk 1 28 = some (1, 0, 0, 1, 29) := by decide +kernel
theorem c1_29 : vlk 1 29 = some (37, 33, 0, 0, 32) := by decide +kernel
theorem c1_32 : vlk 1 32 = some (1, 0, 0, 0, 33) := by decide +kernel
theorem c1_33 : vlk 1 33 = some (63, 1, 0, 0, 34) := by decide +kernel
theorem c2_0 : vlk 2 0 = some (4, 1, 0, 0, 1) := by decide +kernel
theorem c2_1 : vlk 2 1 = some (82, 88, 0, 0, 4) := by decide +kernel
theorem c2_4 : vlk 2 4 = some (70, 25, 0, 0, 7) := by decide +kernel
theorem c2_7 : vlk 2 7 = some (6, 0, 0, 0, 8) := by decide +kernel
theorem c2_8 : vlk 2 8 = some (42, 0, 0, 0, 11) := by decide +kernel
theorem c2_11 : vlk 2 11 = some (4, 1, 0, 0, 12) := by decide +kernel
theorem c2_12 : vlk 2 12 = some (1, 0, 0, 60, 14) := by decide +kernel
theorem c2_14 : vlk 2 14 = some (14, 0, 0, 0, 15) := by decide +kernel
theorem c2_15 : vlk 2 15 = some (35, 0, 0, 0, 16) := by decide +kernel
theorem c2_16 : vlk 2 16 = some (46, 0, 0, 0, 17) := by decide +kernel
theorem c2_17 : vlk 2 17 = some (2, 0, 0, 1, 18) := by decide +kernel
theorem c2_18 : vlk 2 18 = some (4, 1, 0, 0, 19) := by decide +kernel
theorem c2_19 : vlk 2 19 = some (1, 0, 0, 60, 21) := by decide +kernel
theorem c2_21 : vlk 2 21 = some (15, 0, 0, 0, 22) := by decide +kernel
theorem c2_22 : vlk 2 22 = some (28, 0, 0, 0, 23) := by decide +kernel
theorem c2_23 : vlk 2 23 = some (26, 0, 0, 0, 24) := by decide +kernel
theorem c2_24 : vlk 2 24 = some (50, 0, 0, 0, 25) := by decide +kernel
theorem c2_25 : vlk 2 25 = some (66, 0, 0, 0, 26) := by decide +kernel
theorem c3_0 : vlk 3 0 = some (4, 1, 0, 0, 1) := by decide +kernel
theorem c3_1 : vlk 3 1 = some (82, 88, 0, 0, 4) := by decide +kernel
theorem c3_4 : vlk 3 4 = some (70, 29, 0, 0, 7) := by decide +kernel
theorem c3_7 : vlk 3 7 = some (6, 0, 0, 0, 8) := by decide +kernel
theorem c3_8 : vlk 3 8 = some (42, 0, 0, 0, 11) := by decide +kernel
theorem c3_11 : vlk 3 11 = some (4, 1, 0, 0, 12) := by decide +kernel
theorem c3_12 : vlk 3 12 = some (1, 0, 0, 60, 14) := by decide +kernel
theorem c3_14 : vlk 3 14 = some (14, 0, 0, 0, 15) := by decide +kernel
theorem c3_15 : vlk 3 15 = some (35, 0, 0, 0, 16) := by decide +kernel
theorem c3_16 : vlk 3 16 = some (46, 0, 0, 0, 17) := by decide +kernel
theorem c3_17 : vlk 3 17 = some (2, 0, 0, 1, 18) := by decide +kernel
theorem c3_18 : vlk 3 18 = some (4, 1, 0, 0, 19) := by decide +kernel
theorem c3_19 : vlk 3 19 = some (1, 0, 0, 60, 21) := by decide +kernel
theorem c3_21 : vlk 3 21 = some (15, 0, 0, 0, 22) := by decide +kernel
theorem c3_22 : vlk 3 22 = some (28, 0, 0, 0, 23) := by decide +kernel
theorem c3_23 : vlk 3 23 = some (2, 0, 0, (-1), 26) := by decide +kernel
theorem c3_26 : vlk 3 26 = some (27, 0, 0, 0, 27) := by decide +kernel
theorem c3_27 : vlk 3 27 = some (25, 0, 0, 0, 28) := by decide +kernel
theorem c3_28 : vlk 3 28 = some (50, 0, 0, 0, 29) := by decide +kernel
theorem c3_29 : vlk 3 29 = some (66, 0, 0, 0, 30) := by decide +kernel
theorem c4_0 : vlk 4 0 = some (1, 0, 0, 0, 1) := by decide +kernel
theorem c4_1 : vlk 4 1 = some (7, 1, 0, 0, 2) := by decide +kernel
theorem c4_2 : vlk 4 2 = some (4, 1, 0, 0, 3) := by decide +kernel
theorem c4_3 : vlk 4 3 = some (1, 0, 0, 12, 5) := by decide +kernel
theorem c4_5 : vlk 4 5 = some (79, 21, 0, 0, 8) := by decide +kernel
theorem c4_8 : vlk 4 8 = some (6, 0, 0, 0, 9) := by decide +kernel
theorem c4_9 : vlk 4 9 = some (42, 0, 0, 0, 12) := by decide +kernel
theorem c4_12 : vlk 4 12 = some (4, 1, 0, 0, 13) := by decide +kernel
theorem c4_13 : vlk 4 13 = some (2, 0, 0, 0, 14) := by decide +kernel
theorem c4_14 : vlk 4 14 = some (50, 0, 0, 0, 15) := by decide +kernel
theorem c4_15 : vlk 4 15 = some (10, 1, 0, 1, 18) := by decide +kernel
theorem c4_18 : vlk 4 18 = some (37, 2, 0, 0, 21) := by decide +kernel
theorem c4_21 : vlk 4 21 = some (66, 0, 0, 0, 22) := by decide +kernel
theorem c5_0 : vlk 5 0 = some (1, 0, 0, 0, 1) := by decide +kernel
theorem c5_1 : vlk 5 1 = some (7, 2, 0, 0, 2) := by decide +kernel
theorem c5_2 : vlk 5 2 = some (4, 2, 0, 0, 3) := by decide +kernel
theorem c5_3 : vlk 5 3 = some (1, 0, 0, 12, 5) := by decide +kernel
theorem c5_5 : vlk 5 5 = some (79, 26, 0, 0, 8) := by decide +kernel
theorem c5_8 : vlk 5 8 = some (6, 0, 0, 0, 9) := by decide +kernel
theorem c5_9 : vlk 5 9 = some (42, 0, 0, 0, 12) := by decide +kernel
theorem c5_12 : vlk 5 12 = some (4, 2, 0, 0, 13) := by decide +kernel
theorem c5_13 : vlk 5 13 = some (6, 1, 0, 0, 14) := by decide +kernel
theorem c5_14 : vlk 5 14 = some (42, 0, 0, 0, 17) := by decide +kernel
theorem c5_17 : vlk 5 17 = some (4, 2, 0, 0, 18) := by decide +kernel
theorem c5_18 : vlk 5 18 = some (46, 0, 0, 0, 19) := by decide +kernel
theorem c5_19 : vlk 5 19 = some (50, 0, 0, 0, 20) := by decide +kernel
theorem c5_20 : vlk 5 20 = some (10, 2, 0, 1, 23) := by decide +kernel
theorem c5_23 : vlk 5 23 = some (37, 2, 0, 0, 26) := by decide +kernel
theorem c5_26 : vlk 5 26 = some (66, 0, 0, 0, 27) := by decide +kernel
theorem c6_0 : vlk 6 0 = some (1, 0, 0, 0, 1) := by decide +kernel
theorem c6_1 : vlk 6 1 = some (7, 2, 0, 0, 2) := by decide +kernel
theorem c6_2 : vlk 6 2 = some (4, 2, 0, 0, 3) := by decide +kernel
theorem c6_3 : vlk 6 3 = some (1, 0, 0, 12, 5) := by decide +kernel
theorem c6_5 : vlk 6 5 = some (79, 29, 0, 0, 8) := by decide +kernel
theorem c6_8 : vlk 6 8 = some (6, 0, 0, 0, 9) := by decide +kernel
theorem c6_9 : vlk 6 9 = some (42, 0, 0, 0, 12) := by decide +kernel
theorem c6_12 : vlk 6 12 = some (4, 2, 0, 0, 13) := by decide +kernel
theorem c6_13 : vlk 6 13 = some (35, 0, 0, 0, 14) := by decide +kernel
theorem c6_14 : vlk 6 14 = some (46, 0, 0, 0, 15) := by decide +kernel
theorem c6_15 : vlk 6 15 = some (6, 1, 0, 0, 16) := by decide +kernel
theorem c6_16 : vlk 6 16 = some (42, 0, 0, 0, 19) := by decide +kernel
theorem c6_19 : vlk 6 19 = some (4, 2, 0, 0, 20) := by decide +kernel
theorem c6_20 : vlk 6 20 = some (46, 0, 0, 0, 21) := by decide +kernel
theorem c6_21 : vlk 6 21 = some (26, 0, 0, 0, 22) := by decide +kernel
theorem c6_22 : vlk 6 22 = some (50, 0, 0, 0, 23) := by decide +kernel
theorem c6_23 : vlk 6 23 = some (10, 2, 0, 1, 26) := by decide +kernel
theorem c6_26 : vlk 6 26 = some (37, 2, 0, 0, 29) := by decide +kernel
theorem c6_29 : vlk 6 29 = some (66, 0, 0, 0, 30) := by decide +kernel
theorem c7_0 : vlk 7 0 = some (1, 0, 0, 0, 1) := by decide +kernel
theorem c7_1 : vlk 7 1 = some (7, 2, 0, 0, 2) := by decide +kernel
theorem c7_2 : vlk 7 2 = some (4, 2, 0, 0, 3) := by decide +kernel
theorem c7_3 : vlk 7 3 = some (1, 0, 0, 12, 5) := by decide +kernel
theorem c7_5 : vlk 7 5 = some (79, 33, 0, 0, 8) := by decide +kernel
theorem c7_8 : vlk 7 8 = some (6, 0, 0, 0, 9) := by decide +kernel
theorem c7_9 : vlk 7 9 = some (42, 0, 0, 0, 12) := by decide +kernel
theorem c7_12 : vlk 7 12 = some (4, 2, 0, 0, 13) := by decide +kernel
theorem c7_13 : vlk 7 13 = some (35, 0, 0, 0, 14) := by decide +kernel
theorem c7_14 : vlk 7 14 = some (46, 0, 0, 0, 15) := by decide +kernel
theorem c7_15 : vlk 7 15 = some (6, 1, 0, 0, 16) := by decide +kernel
theorem c7_16 : vlk 7 16 = some (42, 0, 0, 0, 19) := by decide +kernel
theorem c7_19 : vlk 7 19 = some (4, 2, 0, 0, 20) := by decide +kernel
theorem c7_20 : vlk 7 20 = some (46, 0, 0, 0, 21) := by decide +kernel
theorem c7_21 : vlk 7 21 = some (2, 0, 0, (-1), 24) := by decide +kernel
theorem c7_24 : vlk 7 24 = some (27, 0, 0, 0, 25) := by decide +kernel
theorem c7_25 : vlk 7 25 = some (25, 0, 0, 0, 26) := by decide +kernel
theorem c7_26 : vlk 7 26 = some (50, 0, 0, 0, 27) := by decide +kernel
theorem c7_27 : vlk 7 27 = some (10, 2, 0, 1, 30) := by decide +kernel
theorem c7_30 : vlk 7 30 = some (37, 2, 0, 0, 33) := by decide +kernel
theorem c7_33 : vlk 7 33 = some (66, 0, 0, 0, 34) := by decide +kernel
theorem c8_0 : vlk 8 0 = some (1, 0, 0, 0, 1) := by decide +kernel
theorem c8_1 : vlk 8 1 = some (7, 2, 0, 0, 2) := by decide +kernel
theorem c8_2 : vlk 8 2 = some (4, 2, 0, 0, 3) := by decide +kernel
theorem c8_3 : vlk 8 3 = some (1, 0, 0, 12, 5) := by decide +kernel
theorem c8_5 : vlk 8 5 = some (79, 29, 0, 0, 8) := by decide +kernel
theorem c8_8 : vlk 8 8 = some (6, 0, 0, 0, 9) := by decide +kernel
theorem c8_9 : vlk 8 9 = some (42, 0, 0, 0, 12) := by decide +kernel
theorem c8_12 : vlk 8 12 = some (4, 2, 0, 0, 13) := by decide +kernel
theorem c8_13 : vlk 8 13 = some (35, 0, 0, 0, 14) := by decide +kernel
theorem c8_14 : vlk 8 14 = some (46, 0, 0, 0, 15) := by decide +kernel
theorem c8_15 : vlk 8 15 = some (6, 1, 0, 0, 16) := by decide +kernel
theorem c8_16 : vlk 8 16 = some (42, 0, 0, 0, 19) := by decide +kernel
theorem c8_19 : vlk 8 19 = some (4, 2, 0, 0, 20) := by decide +kernel
theorem c8_20 : vlk 8 20 = some (46, 0, 0, 0, 21) := by decide +kernel
theorem c8_21 : vlk 8 21 = some (25, 0, 0, 0, 22) := by decide +kernel
theorem c8_22 : vlk 8 22 = some (50, 0, 0, 0, 23) := by decide +kernel
theorem c8_23 : vlk 8 23 = some (10, 2, 0, 1, 26) := by decide +kernel
theorem c8_26 : vlk 8 26 = some (37, 2, 0, 0, 29) := by decide +kernel
theorem c8_29 : vlk 8 29 = some (66, 0, 0, 0, 30) := by decide +kernel
theorem c9_0 : vlk 9 0 = some (1, 0, 0, 0, 1) := by decide +kernel
theorem c9_1 : vlk 9 1 = some (7, 1, 0, 0, 2) := by decide +kernel
theorem c9_2 : vlk 9 2 = some (4, 1, 0, 0, 3) := by decide +kernel
theorem c9_3 : vlk 9 3 = some (1, 0, 0, 12, 5) := by decide +kernel
theorem c9_5 : vlk 9 5 = some (79, 26, 0, 0, 8) := by decide +kernel
theorem c9_8 : vlk 9 8 = some (6, 0, 0, 0, 9) := by decide +kernel
theorem c9_9 : vlk 9 9 = some (42, 0, 0, 0, 12) := by decide +kernel
theorem c9_12 : vlk 9 12 = some (4, 1, 0, 0, 13) := by decide +kernel
theorem c9_13 : vlk 9 13 = some (35, 0, 0, 0, 14) := by decide +kernel
theorem c9_14 : vlk 9 14 = some (46, 0, 0, 0, 15) := by decide +kernel
theorem c9_15 : vlk 9 15 = some (2, 0, 0, 1152921504606846975, 18) := by decide +kernel
theorem c9_18 : vlk 9 18 = some (27, 0, 0, 0, 19) := by decide +kernel
theorem c9_19 : vlk 9 19 = some (50, 0, 0, 0, 20) := by decide +kernel
theorem c9_20 : vlk 9 20 = some (10, 1, 0, 1, 23) := by decide +kernel
theorem c9_23 : vlk 9 23 = some (37, 2, 0, 0, 26) := by decide +kernel
theorem c9_26 : vlk 9 26 = some (66, 0, 0, 0, 27) := by decide +kernel

/-! Days: twelve words of sixty days, at the address behind the object's -/
def vDy (h : vHp) (a : Nat) (S : Nat → Bool) : Prop := hg h a = some (.inr (0, [.ref (a + 1)])) ∧ ∃ f, hg h (a + 1) = some (.inl (1, 12, .inl f)) ∧ ∀ i, i < 12 → vWs S i (f i)
/-- h' is h outside X -/
def vFr (X : Nat → Prop) (h h' : vHp) : Prop := h'.1 = h.1 ∧ h'.2.1 = h.2.1 ∧ ∀ q, ¬ X q → hg h' q = hg h q
theorem vFr_rf {X : Nat → Prop} {h : vHp} : vFr X h h := ⟨rfl, rfl, fun _ _ => rfl⟩
theorem vFr_tr {X : Nat → Prop} {h h1 h2 : vHp} (a : vFr X h h1) (b : vFr X h1 h2) : vFr X h h2 := ⟨b.1.trans a.1, b.2.1.trans a.2.1, fun q hq => (b.2.2 q hq).trans (a.2.2 q hq)⟩
theorem vFr_up {X Y : Nat → Prop} {h h1 : vHp} (a : vFr X h h1) (hXY : ∀ q, X q → Y q) : vFr Y h h1 := ⟨a.1, a.2.1, fun q hq => a.2.2 q (fun z => hq (hXY q z))⟩
theorem vFr_st {h h1 : vHp} {a : Nat} {e : vE} (s : vSt h h1 a e) : vFr (fun q => q = a) h h1 := ⟨s.1, s.2.1, s.2.2.2⟩
theorem vFr_lo {X : Nat → Prop} {h h1 : vHp} (a : vFr X h h1) {q : Nat} (hq : h.1.1 ≤ q) : h1.1.1 ≤ q := by rw [a.1]; exact hq
theorem vDy_fr {X : Nat → Prop} {h h1 : vHp} {a : Nat} {S : Nat → Bool} (hD : vDy h a S) (f : vFr X h h1) (n1 : ¬ X a) (n2 : ¬ X (a + 1)) : vDy h1 a S := by
  obtain ⟨g1, w, g2, g3⟩ := hD
  exact ⟨by rw [f.2.2 _ n1]; exact g1, w, by rw [f.2.2 _ n2]; exact g2, g3⟩
theorem vDy_cg {h : vHp} {a : Nat} {S T : Nat → Bool} (hD : vDy h a S) (e : ∀ d, d < 720 → S d = T d) : vDy h a T := by
  obtain ⟨g1, w, g2, g3⟩ := hD
  exact ⟨g1, w, g2, fun i hi => vWs_cong (g3 i hi) (fun j hj => e _ (by omega))⟩
theorem vdv60 (n : Nat) : ((n : Int) / 60).toNat = n / 60 := by omega
theorem vmd60 (n : Nat) : ((n : Int) % 60) = ((n % 60 : Nat) : Int) := by omega
theorem vsu (n : Nat) : ((n : Int) + 1) = ((n + 1 : Nat) : Int) := by omega
theorem k_holds {d : Nat} {a : Nat} {S : Nat → Bool} {z : Int} {h : vHp} {Q : vQ} (hD : vDy h a S) (h1 : -2147483648 ≤ z) (h2 : z ≤ 2147483647) (kT : 0 ≤ z → z < 720 → S z.toNat = true → Q (some (.int (iI 1))) h) (kF : ¬ (0 ≤ z ∧ z < 720 ∧ S z.toNat = true) → Q (some (.int (iI 0))) h) : vCall (d + 2) 0 0 1 [.ref a, .int (iI z)] h Q := by
  refine vin 2 [_, _] ml_1 rfl rfl ?_
  refine r_iload c1_0 rfl ?_
  refine r_isN1 c1_1 vr_88 rfl (k_isDay h1 h2 (fun a1 a2 => ?_) (fun a1 => ?_))
  · refine r_ifeq c1_4 (by omega) (by omega) (fun q => by exfalso; omega) (fun c_4 => ?_)
    obtain ⟨n, rfl⟩ := Int.eq_ofNat_of_zero_le a1
    obtain ⟨f, hw, hf⟩ := hD.2
    have hd := hD.1
    refine r_aload c1_7 rfl (r_get c1_8 hd rfl (r_iload c1_11 rfl (r_ci c1_12 (r_idiv c1_14 (by omega) (by omega) (by omega) (by omega) (r_lald c1_15 hw (by omega) (by omega) (r_iload c1_16 rfl (r_ci c1_17 (r_irem c1_19 (by omega) (by omega) (by omega) (by omega) (r_lshr c1_20 (r_cl c1_21 (r_land c1_22 (r_cl c1_23 ?_))))))))))))
    have e : vandL (vshrL (f ((n : Int) / 60).toNat) ((n : Int) % 60)) 1 = if S n = true then 1 else 0 := by
      rw [vdv60, vmd60, vWs_bit (hf _ (by omega)) (by omega), show 60 * (n / 60) + n % 60 = n by omega]
    rw [e]
    cases hb : S n
    · simp only [Bool.false_eq_true, if_false]
      refine r_lceq c1_24 c1_25 (by omega) (by omega) (by omega) (by omega) (fun c_24 => ?_) (fun q => by exfalso; omega)
      refine r_ci c1_32 ?_
      refine r_zret (st := []) c1_33 (by omega) ?_
      refine kF (fun q => ?_)
      have q3 := q.2.2
      rw [Int.toNat_natCast, hb] at q3
      cases q3
    · simp only [if_true]
      refine r_lceq c1_24 c1_25 (by omega) (by omega) (by omega) (by omega) (fun q => by exfalso; omega) (fun c_24 => ?_)
      refine r_ci c1_28 (r_goto c1_29 ?_)
      refine r_zret (st := []) c1_33 (by omega) ?_
      exact kT a1 a2 (by rw [Int.toNat_natCast]; exact hb)
  · refine r_ifeq c1_4 (by omega) (by omega) (fun c_4 => ?_) (fun q => by exfalso; omega)
    refine r_ci c1_32 ?_
    refine r_zret (st := []) c1_33 (by omega) ?_
    exact kF (by omega)
/-- a day of the calendar is asked -/
theorem k_holdsN {d : Nat} {a n : Nat} {S : Nat → Bool} {h : vHp} {Q : vQ} (hD : vDy h a S) (hn : n < 720) (kT : S n = true → Q (some (.int (iI 1))) h) (kF : S n = false → Q (some (.int (iI 0))) h) : vCall (d + 2) 0 0 1 [.ref a, .int (iI (n : Int))] h Q :=
  k_holds hD (by omega) (by omega) (fun _ _ q => kT (by simpa using q)) (fun q => kF (by
    cases hb : S n
    · rfl
    · exact absurd ⟨by omega, by omega, by simpa using hb⟩ q))
theorem k_add {d : Nat} {a : Nat} {S : Nat → Bool} {z : Int} {h : vHp} {Q : vQ} (hD : vDy h a S) (hlo : h.1.1 ≤ a) (h1 : -2147483648 ≤ z) (h2 : z ≤ 2147483647) (k : ∀ h', vDy h' a (fun n => S n || decide ((n : Int) = z)) → vFr (fun q => q = a + 1) h h' → Q none h') : vCall (d + 2) 0 0 2 [.ref a, .int (iI z)] h Q := by
  refine vin 2 [_, _] ml_2 rfl rfl ?_
  refine r_iload c2_0 rfl ?_
  refine r_isN1 c2_1 vr_88 rfl (k_isDay h1 h2 (fun a1 a2 => ?_) (fun a1 => ?_))
  · refine r_ifeq c2_4 (by omega) (by omega) (fun q => by exfalso; omega) (fun c_4 => ?_)
    obtain ⟨n, rfl⟩ := Int.eq_ofNat_of_zero_le a1
    obtain ⟨f, hw, hf⟩ := hD.2
    have hd := hD.1
    refine r_aload c2_7 rfl (r_get c2_8 hd rfl (r_iload c2_11 rfl (r_ci c2_12 (r_idiv c2_14 (by omega) (by omega) (by omega) (by omega) (r_dup2 c2_15 rfl rfl (r_lald c2_16 hw (by omega) (by omega) (r_cl c2_17 (r_iload c2_18 rfl (r_ci c2_19 (r_irem c2_21 (by omega) (by omega) (by omega) (by omega) (r_lshl c2_22 (r_lor c2_23 ?_))))))))))))
    refine r_last c2_24 hw (Nat.le_succ_of_le hlo) (by omega) (by omega) (fun h3 s3 => ?_)
    refine r_vret (st := []) c2_25 ?_
    refine k h3 ⟨by rw [s3.2.2.2 _ (by omega)]; exact hd, _, s3.2.2.1, fun i hi => ?_⟩ (vFr_st s3)
    rw [vdv60, vmd60]
    by_cases e : i = n / 60
    · subst e
      have w := vWs_set (hf _ hi) (s := n % 60) (by omega)
      have e9 : vup f (n / 60) (vorL (f (n / 60)) (vshlL 1 ((n % 60 : Nat) : Int))) (n / 60) = vorL (f (n / 60)) (vshlL 1 ((n % 60 : Nat) : Int)) := by simp [vup]
      rw [e9]
      refine vWs_cong w (fun j hj => ?_)
      unfold vup
      by_cases e2 : j = n % 60
      · rw [if_pos (by omega)]; simp; right; omega
      · rw [if_neg (by omega)]; simp; omega
    · have e9 : ∀ v, vup f (n / 60) v i = f i := fun v => by simp [vup, e]
      rw [e9]
      refine vWs_cong (hf _ hi) (fun j hj => ?_)
      simp; omega
  · refine r_ifeq c2_4 (by omega) (by omega) (fun c_4 => ?_) (fun q => by exfalso; omega)
    refine r_vret (st := []) c2_25 ?_
    exact k h (vDy_cg hD (fun n hn => by simp; omega)) vFr_rf
theorem k_remove {d : Nat} {a : Nat} {S : Nat → Bool} {z : Int} {h : vHp} {Q : vQ} (hD : vDy h a S) (hlo : h.1.1 ≤ a) (h1 : -2147483648 ≤ z) (h2 : z ≤ 2147483647) (k : ∀ h', vDy h' a (fun n => S n && !decide ((n : Int) = z)) → vFr (fun q => q = a + 1) h h' → Q none h') : vCall (d + 2) 0 0 3 [.ref a, .int (iI z)] h Q := by
  refine vin 2 [_, _] ml_3 rfl rfl ?_
  refine r_iload c3_0 rfl ?_
  refine r_isN1 c3_1 vr_88 rfl (k_isDay h1 h2 (fun a1 a2 => ?_) (fun a1 => ?_))
  · refine r_ifeq c3_4 (by omega) (by omega) (fun q => by exfalso; omega) (fun c_4 => ?_)
    obtain ⟨n, rfl⟩ := Int.eq_ofNat_of_zero_le a1
    obtain ⟨f, hw, hf⟩ := hD.2
    have hd := hD.1
    refine r_aload c3_7 rfl (r_get c3_8 hd rfl (r_iload c3_11 rfl (r_ci c3_12 (r_idiv c3_14 (by omega) (by omega) (by omega) (by omega) (r_dup2 c3_15 rfl rfl (r_lald c3_16 hw (by omega) (by omega) (r_cl c3_17 (r_iload c3_18 rfl (r_ci c3_19 (r_irem c3_21 (by omega) (by omega) (by omega) (by omega) (r_lshl c3_22 (r_cl c3_23 (r_lxor c3_26 (r_land c3_27 ?_))))))))))))))
    refine r_last c3_28 hw (Nat.le_succ_of_le hlo) (by omega) (by omega) (fun h3 s3 => ?_)
    refine r_vret (st := []) c3_29 ?_
    refine k h3 ⟨by rw [s3.2.2.2 _ (by omega)]; exact hd, _, s3.2.2.1, fun i hi => ?_⟩ (vFr_st s3)
    rw [vdv60, vmd60]
    by_cases e : i = n / 60
    · subst e
      have w := vWs_clr (hf _ hi) (s := n % 60) (by omega)
      have e9 : ∀ v, vup f (n / 60) v (n / 60) = v := fun v => by simp [vup]
      rw [e9]
      refine vWs_cong w (fun j hj => ?_)
      unfold vup
      by_cases e2 : j = n % 60
      · rw [if_pos (by omega)]; simp; intro _; omega
      · rw [if_neg (by omega)]; simp; intro _; omega
    · have e9 : ∀ v, vup f (n / 60) v i = f i := fun v => by simp [vup, e]
      rw [e9]
      refine vWs_cong (hf _ hi) (fun j hj => ?_)
      simp; intro _; omega
  · refine r_ifeq c3_4 (by omega) (by omega) (fun c_4 => ?_) (fun q => by exfalso; omega)
    refine r_vret (st := []) c3_29 ?_
    exact k h (vDy_cg hD (fun n hn => by simp; intro _; omega)) vFr_rf
theorem k_wipe {d : Nat} {a : Nat} {S : Nat → Bool} {h : vHp} {Q : vQ} (hD : vDy h a S) (hlo : h.1.1 ≤ a) (k : ∀ h', vDy h' a (fun _ => false) → vFr (fun q => q = a + 1) h h' → Q none h') : vCall (d + 1) 0 0 4 [.ref a] h Q := by
  have loop : ∀ n i : Nat, i + n = 12 → ∀ (h1 : vHp) (f : Nat → Int), hg h1 (a + 1) = some (.inl (1, 12, .inl f)) → (∀ j, j < i → vWs (fun _ => false) j (f j)) → vFr (fun q => q = a + 1) h h1 → vW (vCall d) 4 Q 2 [.ref a, .int (iI (i : Int))] [] h1 0 0 := by
    intro n
    induction n with
    | zero =>
      intro i hi h1 f hw hf fr
      refine r_iload c4_2 rfl (r_ci c4_3 ?_)
      refine r_icge c4_5 (by omega) (by omega) (by omega) (by omega) (fun c_5 => ?_) (fun q => by exfalso; omega)
      refine r_vret (st := []) c4_21 ?_
      exact k h1 ⟨by rw [fr.2.2 _ (by omega)]; exact hD.1, f, hw, fun j hj => hf j (by omega)⟩ fr
    | succ n ih =>
      intro i hi h1 f hw hf fr
      have hd : hg h1 a = some (.inr (0, [.ref (a + 1)])) := by rw [fr.2.2 _ (by omega)]; exact hD.1
      refine r_iload c4_2 rfl (r_ci c4_3 ?_)
      refine r_icge c4_5 (by omega) (by omega) (by omega) (by omega) (fun q => by exfalso; omega) (fun c_5 => ?_)
      refine r_aload c4_8 rfl (r_get c4_9 hd rfl (r_iload c4_12 rfl (r_cl c4_13 ?_)))
      refine r_last c4_14 hw (vFr_lo fr (Nat.le_succ_of_le hlo)) (by omega) (by omega) (fun h2 s2 => ?_)
      refine r_iinc c4_15 rfl rfl (r_goto c4_18 ?_)
      try dsimp only [vst]
      rw [vsu]
      refine ih (i + 1) (by omega) h2 _ s2.2.2.1 (fun j hj => ?_) (vFr_tr fr (vFr_st s2))
      unfold vup
      rw [Int.toNat_natCast]
      by_cases e : j = i
      · rw [if_pos e]; exact vWs_0 j
      · rw [if_neg e]; exact hf j (by omega)
  obtain ⟨f, hw, hf⟩ := hD.2
  refine vin 2 [_, _] ml_4 rfl rfl ?_
  refine r_ci c4_0 (r_istore c4_1 rfl ?_)
  try dsimp only [vst]
  exact loop 12 0 rfl h f hw (fun j hj => absurd hj (by omega)) vFr_rf
theorem k_invert {d : Nat} {a : Nat} {S : Nat → Bool} {h : vHp} {Q : vQ} (hD : vDy h a S) (hlo : h.1.1 ≤ a) (k : ∀ h', vDy h' a (fun n => !S n) → vFr (fun q => q = a + 1) h h' → Q none h') : vCall (d + 1) 0 0 9 [.ref a] h Q := by
  have loop : ∀ n i : Nat, i + n = 12 → ∀ (h1 : vHp) (f : Nat → Int), hg h1 (a + 1) = some (.inl (1, 12, .inl f)) → (∀ j, j < i → vWs (fun n => !S n) j (f j)) → (∀ j, i ≤ j → j < 12 → vWs S j (f j)) → vFr (fun q => q = a + 1) h h1 → vW (vCall d) 9 Q 2 [.ref a, .int (iI (i : Int))] [] h1 0 0 := by
    intro n
    induction n with
    | zero =>
      intro i hi h1 f hw hf hf2 fr
      refine r_iload c9_2 rfl (r_ci c9_3 ?_)
      refine r_icge c9_5 (by omega) (by omega) (by omega) (by omega) (fun c_5 => ?_) (fun q => by exfalso; omega)
      refine r_vret (st := []) c9_26 ?_
      exact k h1 ⟨by rw [fr.2.2 _ (by omega)]; exact hD.1, f, hw, fun j hj => hf j (by omega)⟩ fr
    | succ n ih =>
      intro i hi h1 f hw hf hf2 fr
      have hd : hg h1 a = some (.inr (0, [.ref (a + 1)])) := by rw [fr.2.2 _ (by omega)]; exact hD.1
      refine r_iload c9_2 rfl (r_ci c9_3 ?_)
      refine r_icge c9_5 (by omega) (by omega) (by omega) (by omega) (fun q => by exfalso; omega) (fun c_5 => ?_)
      refine r_aload c9_8 rfl (r_get c9_9 hd rfl (r_iload c9_12 rfl (r_dup2 c9_13 rfl rfl (r_lald c9_14 hw (by omega) (by omega) (r_cl c9_15 (r_lxor c9_18 ?_))))))
      refine r_last c9_19 hw (vFr_lo fr (Nat.le_succ_of_le hlo)) (by omega) (by omega) (fun h2 s2 => ?_)
      refine r_iinc c9_20 rfl rfl (r_goto c9_23 ?_)
      try dsimp only [vst]
      rw [vsu]
      refine ih (i + 1) (by omega) h2 _ s2.2.2.1 (fun j hj => ?_) (fun j hj hj2 => ?_) (vFr_tr fr (vFr_st s2))
      · unfold vup
        rw [Int.toNat_natCast]
        by_cases e : j = i
        · rw [if_pos e]; subst e; exact vWs_inv (hf2 j (by omega) (by omega))
        · rw [if_neg e]; exact hf j (by omega)
      · unfold vup
        rw [Int.toNat_natCast, if_neg (by omega)]
        exact hf2 j (by omega) hj2
  obtain ⟨f, hw, hf⟩ := hD.2
  refine vin 2 [_, _] ml_9 rfl rfl ?_
  refine r_ci c9_0 (r_istore c9_1 rfl ?_)
  try dsimp only [vst]
  exact loop 12 0 rfl h f hw (fun j hj => absurd hj (by omega)) (fun j _ hj => hf j hj) vFr_rf

theorem k_addAll {d : Nat} {a b : Nat} {S T : Nat → Bool} {h : vHp} {Q : vQ} (hD : vDy h a S) (hE : vDy h b T) (hab : a ≠ b) (hlo : h.1.1 ≤ a) (k : ∀ h', vDy h' a (fun n => S n || T n) → vFr (fun q => q = a + 1) h h' → Q none h') : vCall (d + 1) 0 0 6 [.ref a, .ref b] h Q := by
  obtain ⟨g, hv, hg0⟩ := hE.2
  have nb : b ≠ a + 1 := fun q => by
    obtain ⟨f, hw, -⟩ := hD.2
    rw [← q, hE.1] at hw
    cases hw
  have loop : ∀ n i : Nat, i + n = 12 → ∀ (h1 : vHp) (f : Nat → Int), hg h1 (a + 1) = some (.inl (1, 12, .inl f)) → (∀ j, j < i → vWs (fun n => S n || T n) j (f j)) → (∀ j, i ≤ j → j < 12 → vWs S j (f j)) → vFr (fun q => q = a + 1) h h1 → vW (vCall d) 6 Q 2 [.ref a, .ref b, .int (iI (i : Int))] [] h1 0 0 := by
    intro n
    induction n with
    | zero =>
      intro i hi h1 f hw hf hf2 fr
      refine r_iload c6_2 rfl (r_ci c6_3 ?_)
      refine r_icge c6_5 (by omega) (by omega) (by omega) (by omega) (fun c_5 => ?_) (fun q => by exfalso; omega)
      refine r_vret (st := []) c6_29 ?_
      exact k h1 ⟨by rw [fr.2.2 _ (by omega)]; exact hD.1, f, hw, fun j hj => hf j (by omega)⟩ fr
    | succ n ih =>
      intro i hi h1 f hw hf hf2 fr
      have hd : hg h1 a = some (.inr (0, [.ref (a + 1)])) := by rw [fr.2.2 _ (by omega)]; exact hD.1
      have he : hg h1 b = some (.inr (0, [.ref (b + 1)])) := by rw [fr.2.2 _ nb]; exact hE.1
      have hv1 : hg h1 (b + 1) = some (.inl (1, 12, .inl g)) := by rw [fr.2.2 _ (by omega)]; exact hv
      refine r_iload c6_2 rfl (r_ci c6_3 ?_)
      refine r_icge c6_5 (by omega) (by omega) (by omega) (by omega) (fun q => by exfalso; omega) (fun c_5 => ?_)
      refine r_aload c6_8 rfl (r_get c6_9 hd rfl (r_iload c6_12 rfl (r_dup2 c6_13 rfl rfl (r_lald c6_14 hw (by omega) (by omega) (r_aload c6_15 rfl (r_get c6_16 he rfl (r_iload c6_19 rfl (r_lald c6_20 hv1 (by omega) (by omega) (r_lor c6_21 ?_)))))))))
      refine r_last c6_22 hw (vFr_lo fr (Nat.le_succ_of_le hlo)) (by omega) (by omega) (fun h2 s2 => ?_)
      refine r_iinc c6_23 rfl rfl (r_goto c6_26 ?_)
      try dsimp only [vst]
      rw [vsu]
      refine ih (i + 1) (by omega) h2 _ s2.2.2.1 (fun j hj => ?_) (fun j hj hj2 => ?_) (vFr_tr fr (vFr_st s2))
      · unfold vup
        rw [Int.toNat_natCast]
        by_cases e : j = i
        · rw [if_pos e]; subst e; exact vWs_or (hf2 j (by omega) (by omega)) (hg0 j (by omega))
        · rw [if_neg e]; exact hf j (by omega)
      · unfold vup
        rw [Int.toNat_natCast, if_neg (by omega)]
        exact hf2 j (by omega) hj2
  obtain ⟨f, hw, hf⟩ := hD.2
  refine vin 3 [_, _, _] ml_6 rfl rfl ?_
  refine r_ci c6_0 (r_istore c6_1 rfl ?_)
  try dsimp only [vst]
  exact loop 12 0 rfl h f hw (fun j hj => absurd hj (by omega)) (fun j _ hj => hf j hj) vFr_rf

theorem k_removeAll {d : Nat} {a b : Nat} {S T : Nat → Bool} {h : vHp} {Q : vQ} (hD : vDy h a S) (hE : vDy h b T) (hab : a ≠ b) (hlo : h.1.1 ≤ a) (k : ∀ h', vDy h' a (fun n => S n && !T n) → vFr (fun q => q = a + 1) h h' → Q none h') : vCall (d + 1) 0 0 7 [.ref a, .ref b] h Q := by
  obtain ⟨g, hv, hg0⟩ := hE.2
  have nb : b ≠ a + 1 := fun q => by
    obtain ⟨f, hw, -⟩ := hD.2
    rw [← q, hE.1] at hw
    cases hw
  have loop : ∀ n i : Nat, i + n = 12 → ∀ (h1 : vHp) (f : Nat → Int), hg h1 (a + 1) = some (.inl (1, 12, .inl f)) → (∀ j, j < i → vWs (fun n => S n && !T n) j (f j)) → (∀ j, i ≤ j → j < 12 → vWs S j (f j)) → vFr (fun q => q = a + 1) h h1 → vW (vCall d) 7 Q 2 [.ref a, .ref b, .int (iI (i : Int))] [] h1 0 0 := by
    intro n
    induction n with
    | zero =>
      intro i hi h1 f hw hf hf2 fr
      refine r_iload c7_2 rfl (r_ci c7_3 ?_)
      refine r_icge c7_5 (by omega) (by omega) (by omega) (by omega) (fun c_5 => ?_) (fun q => by exfalso; omega)
      refine r_vret (st := []) c7_33 ?_
      exact k h1 ⟨by rw [fr.2.2 _ (by omega)]; exact hD.1, f, hw, fun j hj => hf j (by omega)⟩ fr
    | succ n ih =>
      intro i hi h1 f hw hf hf2 fr
      have hd : hg h1 a = some (.inr (0, [.ref (a + 1)])) := by rw [fr.2.2 _ (by omega)]; exact hD.1
      have he : hg h1 b = some (.inr (0, [.ref (b + 1)])) := by rw [fr.2.2 _ nb]; exact hE.1
      have hv1 : hg h1 (b + 1) = some (.inl (1, 12, .inl g)) := by rw [fr.2.2 _ (by omega)]; exact hv
      refine r_iload c7_2 rfl (r_ci c7_3 ?_)
      refine r_icge c7_5 (by omega) (by omega) (by omega) (by omega) (fun q => by exfalso; omega) (fun c_5 => ?_)
      refine r_aload c7_8 rfl (r_get c7_9 hd rfl (r_iload c7_12 rfl (r_dup2 c7_13 rfl rfl (r_lald c7_14 hw (by omega) (by omega) (r_aload c7_15 rfl (r_get c7_16 he rfl (r_iload c7_19 rfl (r_lald c7_20 hv1 (by omega) (by omega) (r_cl c7_21 (r_lxor c7_24 (r_land c7_25 ?_)))))))))))
      refine r_last c7_26 hw (vFr_lo fr (Nat.le_succ_of_le hlo)) (by omega) (by omega) (fun h2 s2 => ?_)
      refine r_iinc c7_27 rfl rfl (r_goto c7_30 ?_)
      try dsimp only [vst]
      rw [vsu]
      refine ih (i + 1) (by omega) h2 _ s2.2.2.1 (fun j hj => ?_) (fun j hj hj2 => ?_) (vFr_tr fr (vFr_st s2))
      · unfold vup
        rw [Int.toNat_natCast]
        by_cases e : j = i
        · rw [if_pos e]; subst e; exact vWs_andn (hf2 j (by omega) (by omega)) (hg0 j (by omega))
        · rw [if_neg e]; exact hf j (by omega)
      · unfold vup
        rw [Int.toNat_natCast, if_neg (by omega)]
        exact hf2 j (by omega) hj2
  obtain ⟨f, hw, hf⟩ := hD.2
  refine vin 3 [_, _, _] ml_7 rfl rfl ?_
  refine r_ci c7_0 (r_istore c7_1 rfl ?_)
  try dsimp only [vst]
  exact loop 12 0 rfl h f hw (fun j hj => absurd hj (by omega)) (fun j _ hj => hf j hj) vFr_rf

theorem k_keepAll {d : Nat} {a b : Nat} {S T : Nat → Bool} {h : vHp} {Q : vQ} (hD : vDy h a S) (hE : vDy h b T) (hab : a ≠ b) (hlo : h.1.1 ≤ a) (k : ∀ h', vDy h' a (fun n => S n && T n) → vFr (fun q => q = a + 1) h h' → Q none h') : vCall (d + 1) 0 0 8 [.ref a, .ref b] h Q := by
  obtain ⟨g, hv, hg0⟩ := hE.2
  have nb : b ≠ a + 1 := fun q => by
    obtain ⟨f, hw, -⟩ := hD.2
    rw [← q, hE.1] at hw
    cases hw
  have loop : ∀ n i : Nat, i + n = 12 → ∀ (h1 : vHp) (f : Nat → Int), hg h1 (a + 1) = some (.inl (1, 12, .inl f)) → (∀ j, j < i → vWs (fun n => S n && T n) j (f j)) → (∀ j, i ≤ j → j < 12 → vWs S j (f j)) → vFr (fun q => q = a + 1) h h1 → vW (vCall d) 8 Q 2 [.ref a, .ref b, .int (iI (i : Int))] [] h1 0 0 := by
    intro n
    induction n with
    | zero =>
      intro i hi h1 f hw hf hf2 fr
      refine r_iload c8_2 rfl (r_ci c8_3 ?_)
      refine r_icge c8_5 (by omega) (by omega) (by omega) (by omega) (fun c_5 => ?_) (fun q => by exfalso; omega)
      refine r_vret (st := []) c8_29 ?_
      exact k h1 ⟨by rw [fr.2.2 _ (by omega)]; exact hD.1, f, hw, fun j hj => hf j (by omega)⟩ fr
    | succ n ih =>
      intro i hi h1 f hw hf hf2 fr
      have hd : hg h1 a = some (.inr (0, [.ref (a + 1)])) := by rw [fr.2.2 _ (by omega)]; exact hD.1
      have he : hg h1 b = some (.inr (0, [.ref (b + 1)])) := by rw [fr.2.2 _ nb]; exact hE.1
      have hv1 : hg h1 (b + 1) = some (.inl (1, 12, .inl g)) := by rw [fr.2.2 _ (by omega)]; exact hv
      refine r_iload c8_2 rfl (r_ci c8_3 ?_)
      refine r_icge c8_5 (by omega) (by omega) (by omega) (by omega) (fun q => by exfalso; omega) (fun c_5 => ?_)
      refine r_aload c8_8 rfl (r_get c8_9 hd rfl (r_iload c8_12 rfl (r_dup2 c8_13 rfl rfl (r_lald c8_14 hw (by omega) (by omega) (r_aload c8_15 rfl (r_get c8_16 he rfl (r_iload c8_19 rfl (r_lald c8_20 hv1 (by omega) (by omega) (r_land c8_21 ?_)))))))))
      refine r_last c8_22 hw (vFr_lo fr (Nat.le_succ_of_le hlo)) (by omega) (by omega) (fun h2 s2 => ?_)
      refine r_iinc c8_23 rfl rfl (r_goto c8_26 ?_)
      try dsimp only [vst]
      rw [vsu]
      refine ih (i + 1) (by omega) h2 _ s2.2.2.1 (fun j hj => ?_) (fun j hj hj2 => ?_) (vFr_tr fr (vFr_st s2))
      · unfold vup
        rw [Int.toNat_natCast]
        by_cases e : j = i
        · rw [if_pos e]; subst e; exact vWs_and (hf2 j (by omega) (by omega)) (hg0 j (by omega))
        · rw [if_neg e]; exact hf j (by omega)
      · unfold vup
        rw [Int.toNat_natCast, if_neg (by omega)]
        exact hf2 j (by omega) hj2
  obtain ⟨f, hw, hf⟩ := hD.2
  refine vin 3 [_, _, _] ml_8 rfl rfl ?_
  refine r_ci c8_0 (r_istore c8_1 rfl ?_)
  try dsimp only [vst]
  exact loop 12 0 rfl h f hw (fun j hj => absurd hj (by omega)) (fun j _ hj => hf j hj) vFr_rf

/-- become: also of itself -/
theorem k_become {d : Nat} {a b : Nat} {S T : Nat → Bool} {h : vHp} {Q : vQ} (hD : vDy h a S) (hE : vDy h b T) (hlo : h.1.1 ≤ a) (k : ∀ h', vDy h' a T → vFr (fun q => q = a + 1) h h' → Q none h') : vCall (d + 1) 0 0 5 [.ref a, .ref b] h Q := by
  obtain ⟨g0, hv, hg0⟩ := hE.2
  have nb : b ≠ a + 1 := fun q => by
    obtain ⟨f, hw, -⟩ := hD.2
    rw [← q, hE.1] at hw
    cases hw
  have loop : ∀ n i : Nat, i + n = 12 → ∀ (h1 : vHp) (f g : Nat → Int), hg h1 (a + 1) = some (.inl (1, 12, .inl f)) → hg h1 (b + 1) = some (.inl (1, 12, .inl g)) → (∀ j, j < i → vWs T j (f j)) → (∀ j, i ≤ j → j < 12 → vWs T j (g j)) → vFr (fun q => q = a + 1) h h1 → vW (vCall d) 5 Q 2 [.ref a, .ref b, .int (iI (i : Int))] [] h1 0 0 := by
    intro n
    induction n with
    | zero =>
      intro i hi h1 f g hw hv hf hf2 fr
      refine r_iload c5_2 rfl (r_ci c5_3 ?_)
      refine r_icge c5_5 (by omega) (by omega) (by omega) (by omega) (fun c_5 => ?_) (fun q => by exfalso; omega)
      refine r_vret (st := []) c5_26 ?_
      exact k h1 ⟨by rw [fr.2.2 _ (by omega)]; exact hD.1, f, hw, fun j hj => hf j (by omega)⟩ fr
    | succ n ih =>
      intro i hi h1 f g hw hv hf hf2 fr
      have hd : hg h1 a = some (.inr (0, [.ref (a + 1)])) := by rw [fr.2.2 _ (by omega)]; exact hD.1
      have he : hg h1 b = some (.inr (0, [.ref (b + 1)])) := by rw [fr.2.2 _ nb]; exact hE.1
      refine r_iload c5_2 rfl (r_ci c5_3 ?_)
      refine r_icge c5_5 (by omega) (by omega) (by omega) (by omega) (fun q => by exfalso; omega) (fun c_5 => ?_)
      refine r_aload c5_8 rfl (r_get c5_9 hd rfl (r_iload c5_12 rfl (r_aload c5_13 rfl (r_get c5_14 he rfl (r_iload c5_17 rfl (r_lald c5_18 hv (by omega) (by omega) ?_))))))
      refine r_last c5_19 hw (vFr_lo fr (Nat.le_succ_of_le hlo)) (by omega) (by omega) (fun h2 s2 => ?_)
      refine r_iinc c5_20 rfl rfl (r_goto c5_23 ?_)
      try dsimp only [vst]
      rw [vsu]
      have hi2 := hf2 i (by omega) (by omega)
      have e1 : ∀ j, j < i + 1 → vWs T j (vup f ((i : Int)).toNat (g ((i : Int)).toNat) j) := fun j hj => by
        unfold vup
        rw [Int.toNat_natCast]
        by_cases e : j = i
        · rw [if_pos e]; subst e; exact hi2
        · rw [if_neg e]; exact hf j (by omega)
      by_cases hab : b = a
      · subst hab
        have efg : f = g := by
          have := hw.symm.trans hv
          simpa using this
        subst efg
        refine ih (i + 1) (by omega) h2 _ _ s2.2.2.1 s2.2.2.1 e1 (fun j hj hj2 => ?_) (vFr_tr fr (vFr_st s2))
        unfold vup
        rw [Int.toNat_natCast, if_neg (by omega)]
        exact hf2 j (by omega) hj2
      · exact ih (i + 1) (by omega) h2 _ g s2.2.2.1 (by rw [s2.2.2.2 _ (by omega)]; exact hv) e1 (fun j hj hj2 => hf2 j (by omega) hj2) (vFr_tr fr (vFr_st s2))
  obtain ⟨f, hw, hf⟩ := hD.2
  refine vin 3 [_, _, _] ml_5 rfl rfl ?_
  refine r_ci c5_0 (r_istore c5_1 rfl ?_)
  try dsimp only [vst]
  exact loop 12 0 rfl h f g0 hw hv (fun j hj => absurd hj (by omega)) (fun j _ hj => hg0 j hj) vFr_rf

