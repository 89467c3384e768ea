theorem ml_14 : vml 14 = 4 := by decide +kernel
theorem ml_15 : vml 15 = 4 := by decide +kernel
theorem ml_16 : vml 16 = 5 := by decide +kernel
theorem ml_17 : vml 17 = 5 := by decide +kernel
theorem vr_12 : vrc 12 = some (0, 3) := by decide +kernel
theorem vr_93 : vrc 93 = some (5, 2) := by decide +kernel
theorem c14_0 : vlk 14 0 = some (4, 2, 0, 0, 1) := by decide +kernel
theorem c14_1 : vlk 14 1 = some (7, 3, 0, 0, 2) := by decide +kernel
theorem c14_2 : vlk 14 2 = some (4, 3, 0, 0, 3) := by decide +kernel
theorem c14_3 : vlk 14 3 = some (1, 0, 0, 720, 6) := by decide +kernel
theorem c14_6 : vlk 14 6 = some (79, 25, 0, 0, 9) := by decide +kernel
theorem c14_9 : vlk 14 9 = some (4, 1, 0, 0, 10) := by decide +kernel
theorem c14_10 : vlk 14 10 = some (75, 25, 0, 0, 13) := by decide +kernel
theorem c14_13 : vlk 14 13 = some (6, 0, 0, 0, 14) := by decide +kernel
theorem c14_14 : vlk 14 14 = some (4, 3, 0, 0, 15) := by decide +kernel
theorem c14_15 : vlk 14 15 = some (58, 2, 0, 0, 18) := by decide +kernel
theorem c14_18 : vlk 14 18 = some (4, 3, 0, 0, 19) := by decide +kernel
theorem c14_19 : vlk 14 19 = some (4, 1, 0, 0, 20) := by decide +kernel
theorem c14_20 : vlk 14 20 = some (11, 0, 0, 0, 21) := by decide +kernel
theorem c14_21 : vlk 14 21 = some (7, 3, 0, 0, 22) := by decide +kernel
theorem c14_22 : vlk 14 22 = some (37, 2, 0, 0, 25) := by decide +kernel
theorem c14_25 : vlk 14 25 = some (66, 0, 0, 0, 26) := by decide +kernel
theorem c15_0 : vlk 15 0 = some (1, 0, 0, 0, 1) := by decide +kernel
theorem c15_1 : vlk 15 1 = some (7, 3, 0, 0, 2) := by decide +kernel
theorem c15_2 : vlk 15 2 = some (4, 3, 0, 0, 3) := by decide +kernel
theorem c15_3 : vlk 15 3 = some (1, 0, 0, 720, 6) := by decide +kernel
theorem c15_6 : vlk 15 6 = some (79, 30, 0, 0, 9) := by decide +kernel
theorem c15_9 : vlk 15 9 = some (6, 1, 0, 0, 10) := by decide +kernel
theorem c15_10 : vlk 15 10 = some (4, 3, 0, 0, 11) := by decide +kernel
theorem c15_11 : vlk 15 11 = some (58, 1, 0, 0, 14) := by decide +kernel
theorem c15_14 : vlk 15 14 = some (70, 24, 0, 0, 17) := by decide +kernel
theorem c15_17 : vlk 15 17 = some (6, 0, 0, 0, 18) := by decide +kernel
theorem c15_18 : vlk 15 18 = some (4, 3, 0, 0, 19) := by decide +kernel
theorem c15_19 : vlk 15 19 = some (4, 2, 0, 0, 20) := by decide +kernel
theorem c15_20 : vlk 15 20 = some (11, 0, 0, 0, 21) := by decide +kernel
theorem c15_21 : vlk 15 21 = some (58, 2, 0, 0, 24) := by decide +kernel
theorem c15_24 : vlk 15 24 = some (10, 3, 0, 1, 27) := by decide +kernel
theorem c15_27 : vlk 15 27 = some (37, 2, 0, 0, 30) := by decide +kernel
theorem c15_30 : vlk 15 30 = some (66, 0, 0, 0, 31) := by decide +kernel
theorem c16_0 : vlk 16 0 = some (4, 2, 0, 0, 1) := by decide +kernel
theorem c16_1 : vlk 16 1 = some (7, 3, 0, 0, 2) := by decide +kernel
theorem c16_2 : vlk 16 2 = some (1, 0, 0, 0, 3) := by decide +kernel
theorem c16_3 : vlk 16 3 = some (7, 4, 0, 0, 5) := by decide +kernel
theorem c16_5 : vlk 16 5 = some (4, 4, 0, 0, 7) := by decide +kernel
theorem c16_7 : vlk 16 7 = some (1, 0, 0, 720, 10) := by decide +kernel
theorem c16_10 : vlk 16 10 = some (79, 43, 0, 0, 13) := by decide +kernel
theorem c16_13 : vlk 16 13 = some (6, 1, 0, 0, 14) := by decide +kernel
theorem c16_14 : vlk 16 14 = some (4, 4, 0, 0, 16) := by decide +kernel
theorem c16_16 : vlk 16 16 = some (58, 1, 0, 0, 19) := by decide +kernel
theorem c16_19 : vlk 16 19 = some (70, 37, 0, 0, 22) := by decide +kernel
theorem c16_22 : vlk 16 22 = some (10, 3, 0, (-1), 25) := by decide +kernel
theorem c16_25 : vlk 16 25 = some (4, 3, 0, 0, 26) := by decide +kernel
theorem c16_26 : vlk 16 26 = some (71, 37, 0, 0, 29) := by decide +kernel
theorem c16_29 : vlk 16 29 = some (6, 0, 0, 0, 30) := by decide +kernel
theorem c16_30 : vlk 16 30 = some (4, 4, 0, 0, 32) := by decide +kernel
theorem c16_32 : vlk 16 32 = some (58, 2, 0, 0, 35) := by decide +kernel
theorem c16_35 : vlk 16 35 = some (4, 2, 0, 0, 36) := by decide +kernel
theorem c16_36 : vlk 16 36 = some (7, 3, 0, 0, 37) := by decide +kernel
theorem c16_37 : vlk 16 37 = some (10, 4, 0, 1, 40) := by decide +kernel
theorem c16_40 : vlk 16 40 = some (37, 5, 0, 0, 43) := by decide +kernel
theorem c16_43 : vlk 16 43 = some (66, 0, 0, 0, 44) := by decide +kernel
theorem c17_0 : vlk 17 0 = some (1, 0, 0, 0, 1) := by decide +kernel
theorem c17_1 : vlk 17 1 = some (7, 4, 0, 0, 3) := by decide +kernel
theorem c17_3 : vlk 17 3 = some (4, 4, 0, 0, 5) := by decide +kernel
theorem c17_5 : vlk 17 5 = some (1, 0, 0, 720, 8) := by decide +kernel
theorem c17_8 : vlk 17 8 = some (79, 41, 0, 0, 11) := by decide +kernel
theorem c17_11 : vlk 17 11 = some (4, 2, 0, 0, 12) := by decide +kernel
theorem c17_12 : vlk 17 12 = some (75, 41, 0, 0, 15) := by decide +kernel
theorem c17_15 : vlk 17 15 = some (6, 0, 0, 0, 16) := by decide +kernel
theorem c17_16 : vlk 17 16 = some (6, 1, 0, 0, 17) := by decide +kernel
theorem c17_17 : vlk 17 17 = some (4, 4, 0, 0, 19) := by decide +kernel
theorem c17_19 : vlk 17 19 = some (4, 4, 0, 0, 21) := by decide +kernel
theorem c17_21 : vlk 17 21 = some (4, 2, 0, 0, 22) := by decide +kernel
theorem c17_22 : vlk 17 22 = some (82, 93, 0, 0, 25) := by decide +kernel
theorem c17_25 : vlk 17 25 = some (4, 3, 0, 0, 26) := by decide +kernel
theorem c17_26 : vlk 17 26 = some (58, 12, 0, 0, 29) := by decide +kernel
theorem c17_29 : vlk 17 29 = some (58, 2, 0, 0, 32) := by decide +kernel
theorem c17_32 : vlk 17 32 = some (4, 4, 0, 0, 34) := by decide +kernel
theorem c17_34 : vlk 17 34 = some (4, 2, 0, 0, 35) := by decide +kernel
theorem c17_35 : vlk 17 35 = some (11, 0, 0, 0, 36) := by decide +kernel
theorem c17_36 : vlk 17 36 = some (7, 4, 0, 0, 38) := by decide +kernel
theorem c17_38 : vlk 17 38 = some (37, 3, 0, 0, 41) := by decide +kernel
theorem c17_41 : vlk 17 41 = some (66, 0, 0, 0, 42) := by decide +kernel
/-! Days: by steps, moved, every n-th -/
theorem vstp {p s j d : Nat} (hs : 0 < s) : (p ≤ d ∧ d < p + s * (j + 1) ∧ (d - p) % s = 0) ↔ ((p ≤ d ∧ d < p + s * j ∧ (d - p) % s = 0) ∨ d = p + s * j) := by
  rw [Nat.mul_succ]
  constructor
  · intro ⟨h1, h2, h3⟩
    by_cases h : d < p + s * j
    · exact Or.inl ⟨h1, h, h3⟩
    · obtain ⟨r, rfl⟩ : ∃ r, d = p + s * j + r := ⟨d - (p + s * j), by omega⟩
      rw [show p + s * j + r - p = s * j + r by omega, Nat.mul_add_mod, Nat.mod_eq_of_lt (by omega)] at h3
      exact Or.inr (by omega)
  · intro h
    rcases h with ⟨h1, h2, h3⟩ | h
    · exact ⟨h1, by omega, h3⟩
    · subst h
      exact ⟨by omega, by omega, by rw [show p + s * j - p = s * j by omega]; exact Nat.mul_mod_right s j⟩
theorem k_addEach {d a st fr : Nat} {S : Nat → Bool} {h : vHp} {Q : vQ} (hD : vDy h a S) (hlo : h.1.1 ≤ a) (hs1 : 0 < st) (hs2 : st ≤ 1000) (hs3 : fr ≤ 1000) (k : ∀ h', vDy h' a (fun n => S n || decide (fr ≤ n ∧ (n - fr) % st = 0)) → vFr (fun q => q = a + 1) h h' → Q none h') : vCall (d + 3) 0 0 14 [.ref a, .int (iI (st : Int)), .int (iI (fr : Int))] h Q := by
  have loop : ∀ n i : Nat, 720 ≤ fr + st * i + n → fr + st * i ≤ 2000 → ∀ h1 : vHp, vDy h1 a (fun n => S n || decide (fr ≤ n ∧ n < fr + st * i ∧ (n - fr) % st = 0)) → vFr (fun q => q = a + 1) h h1 → vW (vCall (d + 2)) 14 Q 2 [.ref a, .int (iI (st : Int)), .int (iI (fr : Int)), .int (iI ((fr + st * i : Nat) : Int))] [] h1 0 0 := by
    intro n
    induction n with
    | zero =>
      intro i hi hb h1 hD1 fr'
      refine r_iload c14_2 rfl (r_ci c14_3 ?_)
      refine r_icge c14_6 (by omega) (by omega) (by omega) (by omega) (fun c_6 => ?_) (fun q => by exfalso; omega)
      refine r_vret (st := []) c14_25 ?_
      exact k h1 (vDy_cg hD1 (fun m hm => by congr 1; exact decide_eq_decide.mpr (by omega))) fr'
    | succ n ih =>
      intro i hi hb h1 hD1 fr'
      refine r_iload c14_2 rfl (r_ci c14_3 ?_)
      refine r_icge c14_6 (by omega) (by omega) (by omega) (by omega) (fun c_6 => ?_) (fun c_6 => ?_)
      · refine r_vret (st := []) c14_25 ?_
        exact k h1 (vDy_cg hD1 (fun m hm => by congr 1; exact decide_eq_decide.mpr (by omega))) fr'
      · refine r_iload c14_9 rfl ?_
        refine r_ifle c14_10 (by omega) (by omega) (fun q => by exfalso; omega) (fun c_10 => ?_)
        refine r_aload c14_13 rfl (r_iload c14_14 rfl ?_)
        refine r_iv1 c14_15 vr_2 hD1.1 rfl (k_add hD1 (vFr_lo fr' hlo) (by omega) (by omega) (fun h2 hD2 fr2 => ?_))
        dsimp only [vpush]
        refine r_iload c14_18 rfl (r_iload c14_19 rfl (r_iadd c14_20 (r_istore c14_21 rfl (r_goto c14_22 ?_))))
        try dsimp only [vst]
        have e : ((fr + st * i : Nat) : Int) + (st : Int) = ((fr + st * (i + 1) : Nat) : Int) := by rw [Nat.mul_succ]; omega
        rw [e]
        refine ih (i + 1) (by rw [Nat.mul_succ]; omega) (by rw [Nat.mul_succ]; omega) h2 (vDy_cg hD2 (fun m hm => ?_)) (vFr_tr fr' fr2)
        rw [Bool.or_assoc]
        congr 1
        rw [← Bool.decide_or]
        exact decide_eq_decide.mpr (by rw [vstp hs1, Int.ofNat_inj])
  refine vin 4 [_, _, _, _] ml_14 rfl rfl ?_
  refine r_iload c14_0 rfl (r_istore c14_1 rfl ?_)
  try dsimp only [vst]
  exact loop 720 0 (by omega) (by omega) h (vDy_cg hD (fun m hm => by simp; omega)) vFr_rf
/-- what is moved by z -/
def vmv (T : Nat → Bool) (z : Int) (i n : Nat) : Bool := decide (0 ≤ (n : Int) - z ∧ (n : Int) - z < i) && T ((n : Int) - z).toNat
theorem vmv_su {T : Nat → Bool} {z : Int} {i n : Nat} : vmv T z (i + 1) n = (vmv T z i n || (T i && decide ((n : Int) = (i : Int) + z))) := by
  unfold vmv
  by_cases e : (n : Int) = (i : Int) + z
  · have e1 : (n : Int) - z = (i : Int) := by omega
    rw [e1, Int.toNat_natCast]
    have a1 : decide (0 ≤ (i : Int) ∧ (i : Int) < ((i + 1 : Nat) : Int)) = true := decide_eq_true (by omega)
    have a2 : decide (0 ≤ (i : Int) ∧ (i : Int) < (i : Int)) = false := decide_eq_false (by omega)
    rw [a1, a2, decide_eq_true e]
    simp
  · rw [decide_eq_false e, Bool.and_false, Bool.or_false]
    congr 1
    exact decide_eq_decide.mpr (by omega)
theorem k_addMoved {d a b : Nat} {S T : Nat → Bool} {z : Int} {h : vHp} {Q : vQ} (hD : vDy h a S) (hE : vDy h b T) (hab : a ≠ b) (hlo : h.1.1 ≤ a) (hz1 : -1000 ≤ z) (hz2 : z ≤ 1000) (k : ∀ h', vDy h' a (fun n => S n || vmv T z 720 n) → vFr (fun q => q = a + 1) h h' → Q none h') : vCall (d + 3) 0 0 15 [.ref a, .ref b, .int (iI z)] h Q := by
  have nb : b ≠ a + 1 := fun q => by
    obtain ⟨f, hw, -⟩ := hD.2
    rw [← q, hE.1] at hw
    cases hw
  have loop : ∀ n i : Nat, i + n = 720 → ∀ h1 : vHp, vDy h1 a (fun n => S n || vmv T z i n) → vFr (fun q => q = a + 1) h h1 → vW (vCall (d + 2)) 15 Q 2 [.ref a, .ref b, .int (iI z), .int (iI (i : Int))] [] h1 0 0 := by
    intro n
    induction n with
    | zero =>
      intro i hi h1 hD1 fr
      refine r_iload c15_2 rfl (r_ci c15_3 ?_)
      refine r_icge c15_6 (by omega) (by omega) (by omega) (by omega) (fun c_6 => ?_) (fun q => by exfalso; omega)
      refine r_vret (st := []) c15_30 ?_
      obtain rfl : i = 720 := by omega
      exact k h1 hD1 fr
    | succ n ih =>
      intro i hi h1 hD1 fr
      have hE1 : vDy h1 b T := vDy_fr hE fr nb (by omega)
      refine r_iload c15_2 rfl (r_ci c15_3 ?_)
      refine r_icge c15_6 (by omega) (by omega) (by omega) (by omega) (fun q => by exfalso; omega) (fun c_6 => ?_)
      refine r_aload c15_9 rfl (r_iload c15_10 rfl ?_)
      refine r_iv1 c15_11 vr_1 hE1.1 rfl (k_holdsN hE1 (by omega) (fun q => ?_) (fun q => ?_))
      · dsimp only [vpush]
        refine r_ifeq c15_14 (by omega) (by omega) (fun q => by exfalso; omega) (fun c_14 => ?_)
        refine r_aload c15_17 rfl (r_iload c15_18 rfl (r_iload c15_19 rfl (r_iadd c15_20 ?_)))
        refine r_iv1 c15_21 vr_2 hD1.1 rfl (k_add hD1 (vFr_lo fr hlo) (by omega) (by omega) (fun h2 hD2 fr2 => ?_))
        dsimp only [vpush]
        refine r_iinc c15_24 rfl rfl (r_goto c15_27 ?_)
        try dsimp only [vst]
        rw [vsu]
        refine ih (i + 1) (by omega) h2 (vDy_cg hD2 (fun m hm => ?_)) (vFr_tr fr fr2)
        rw [vmv_su, q, Bool.true_and, Bool.or_assoc]
      · dsimp only [vpush]
        refine r_ifeq c15_14 (by omega) (by omega) (fun c_14 => ?_) (fun q => by exfalso; omega)
        refine r_iinc c15_24 rfl rfl (r_goto c15_27 ?_)
        try dsimp only [vst]
        rw [vsu]
        refine ih (i + 1) (by omega) h1 (vDy_cg hD1 (fun m hm => ?_)) fr
        rw [vmv_su, q, Bool.false_and, Bool.or_false]
  refine vin 4 [_, _, _, _] ml_15 rfl rfl ?_
  refine r_ci c15_0 (r_istore c15_1 rfl ?_)
  try dsimp only [vst]
  exact loop 720 0 (by omega) h (vDy_cg hD (fun m hm => by
    have e : vmv T z 0 m = false := by
      unfold vmv
      rw [decide_eq_false (by omega)]; rfl
    rw [e, Bool.or_false])) vFr_rf
theorem vmod_su {c n : Nat} (hn : 0 < n) : (c + 1) % n = if c % n + 1 = n then 0 else c % n + 1 := by
  have e : c + 1 = n * (c / n) + (c % n + 1) := by rw [← Nat.add_assoc, Nat.div_add_mod]
  have hl := Nat.mod_lt c hn
  rw [e, Nat.mul_add_mod]
  have e2 : (n * (c / n) + (c % n + 1) - 1) % n = c % n := by rw [show n * (c / n) + (c % n + 1) - 1 = c by omega]
  split
  · rename_i q; rw [q]; exact Nat.mod_self n
  · exact Nat.mod_eq_of_lt (by omega)
/-- every n-th -/
def vnt (T : Nat → Bool) (n i m : Nat) : Bool := decide (m < i) && T m && decide (vcn T 0 (m + 1) % n = 0)
theorem vnt_su {T : Nat → Bool} {n i m : Nat} : vnt T n (i + 1) m = (vnt T n i m || (T i && decide (vcn T 0 (i + 1) % n = 0) && decide (m = i))) := by
  unfold vnt
  by_cases e : m = i
  · subst e
    rw [decide_eq_true (show m < m + 1 by omega), decide_eq_false (show ¬ m < m by omega), decide_eq_true rfl]
    simp
  · rw [decide_eq_false e, Bool.and_false, Bool.or_false]
    congr 2
    exact decide_eq_decide.mpr (by omega)
theorem k_addEachNth {d a b n : Nat} {S T : Nat → Bool} {h : vHp} {Q : vQ} (hD : vDy h a S) (hE : vDy h b T) (hab : a ≠ b) (hlo : h.1.1 ≤ a) (hn1 : 0 < n) (hn2 : n ≤ 1000) (k : ∀ h', vDy h' a (fun m => S m || vnt T n 720 m) → vFr (fun q => q = a + 1) h h' → Q none h') : vCall (d + 3) 0 0 16 [.ref a, .ref b, .int (iI (n : Int))] h Q := by
  have nb : b ≠ a + 1 := fun q => by
    obtain ⟨f, hw, -⟩ := hD.2
    rw [← q, hE.1] at hw
    cases hw
  have loop : ∀ u i : Nat, i + u = 720 → ∀ h1 : vHp, vDy h1 a (fun m => S m || vnt T n i m) → vFr (fun q => q = a + 1) h h1 → vW (vCall (d + 2)) 16 Q 5 [.ref a, .ref b, .int (iI (n : Int)), .int (iI ((n - vcn T 0 i % n : Nat) : Int)), .int (iI (i : Int))] [] h1 0 0 := by
    intro u
    induction u with
    | zero =>
      intro i hi h1 hD1 fr
      refine r_iload c16_5 rfl (r_ci c16_7 ?_)
      refine r_icge c16_10 (by omega) (by omega) (by omega) (by omega) (fun c_10 => ?_) (fun q => by exfalso; omega)
      refine r_vret (st := []) c16_43 ?_
      obtain rfl : i = 720 := by omega
      exact k h1 hD1 fr
    | succ u ih =>
      intro i hi h1 hD1 fr
      have hE1 : vDy h1 b T := vDy_fr hE fr nb (by omega)
      have hl := Nat.mod_lt (vcn T 0 i) hn1
      refine r_iload c16_5 rfl (r_ci c16_7 ?_)
      refine r_icge c16_10 (by omega) (by omega) (by omega) (by omega) (fun q => by exfalso; omega) (fun c_10 => ?_)
      refine r_aload c16_13 rfl (r_iload c16_14 rfl ?_)
      refine r_iv1 c16_16 vr_1 hE1.1 rfl (k_holdsN hE1 (by omega) (fun q => ?_) (fun q => ?_))
      · dsimp only [vpush]
        have ec : vcn T 0 (i + 1) = vcn T 0 i + 1 := by show vcn T 0 i + (if T (0 + i) = true then 1 else 0) = _; rw [Nat.zero_add, if_pos q]
        have em := vmod_su (c := vcn T 0 i) hn1
        rw [← ec] at em
        refine r_ifeq c16_19 (by omega) (by omega) (fun q => by exfalso; omega) (fun c_19 => ?_)
        refine r_iinc c16_22 rfl rfl (r_iload c16_25 rfl ?_)
        try dsimp only [vst]
        refine r_ifne c16_26 (by omega) (by omega) (fun c_26 => ?_) (fun c_26 => ?_)
        · rw [if_neg (by omega)] at em
          refine r_iinc c16_37 rfl rfl (r_goto c16_40 ?_)
          try dsimp only [vst]
          rw [vsu, show ((n - vcn T 0 i % n : Nat) : Int) + -1 = ((n - vcn T 0 (i + 1) % n : Nat) : Int) by omega]
          refine ih (i + 1) (by omega) h1 (vDy_cg hD1 (fun m hm => ?_)) fr
          rw [vnt_su, decide_eq_false (show ¬ vcn T 0 (i + 1) % n = 0 by omega), Bool.and_false, Bool.false_and, Bool.or_false]
        · rw [if_pos (by omega)] at em
          refine r_aload c16_29 rfl (r_iload c16_30 rfl ?_)
          refine r_iv1 c16_32 vr_2 hD1.1 rfl (k_add hD1 (vFr_lo fr hlo) (by omega) (by omega) (fun h2 hD2 fr2 => ?_))
          dsimp only [vpush]
          refine r_iload c16_35 rfl (r_istore c16_36 rfl (r_iinc c16_37 rfl rfl (r_goto c16_40 ?_)))
          try dsimp only [vst]
          rw [vsu]
          have en : (n : Int) = ((n - vcn T 0 (i + 1) % n : Nat) : Int) := by omega
          rw [show (Value.int (iI (n : Int)) :: [Value.int (iI (n : Int)), .int (iI ((i + 1 : Nat) : Int))]) = (Value.int (iI (n : Int)) :: [Value.int (iI ((n - vcn T 0 (i + 1) % n : Nat) : Int)), .int (iI ((i + 1 : Nat) : Int))]) by rw [← en]]
          refine ih (i + 1) (by omega) h2 (vDy_cg hD2 (fun m hm => ?_)) (vFr_tr fr fr2)
          rw [vnt_su, q, decide_eq_true em, Bool.true_and, Bool.true_and, Bool.or_assoc]
          congr 2
          exact decide_eq_decide.mpr (by omega)
      · dsimp only [vpush]
        have ec : vcn T 0 (i + 1) = vcn T 0 i := by show vcn T 0 i + (if T (0 + i) = true then 1 else 0) = _; rw [Nat.zero_add, if_neg (by rw [q]; decide), Nat.add_zero]
        refine r_ifeq c16_19 (by omega) (by omega) (fun c_19 => ?_) (fun q => by exfalso; omega)
        refine r_iinc c16_37 rfl rfl (r_goto c16_40 ?_)
        try dsimp only [vst]
        rw [vsu, ← ec]
        refine ih (i + 1) (by omega) h1 (vDy_cg hD1 (fun m hm => ?_)) fr
        rw [vnt_su, q, Bool.false_and, Bool.false_and, Bool.or_false]
  refine vin 5 [_, _, _, _, _] ml_16 rfl rfl ?_
  refine r_iload c16_0 rfl (r_istore c16_1 rfl (r_ci c16_2 (r_istore c16_3 rfl ?_)))
  try dsimp only [vst]
  have l := loop 720 0 (by omega) h (vDy_cg hD (fun m hm => by
    have e : vnt T n 0 m = false := by
      unfold vnt
      rw [decide_eq_false (by omega)]; rfl
    rw [e, Bool.or_false])) vFr_rf
  rw [show n - vcn T 0 0 % n = n by rw [show vcn T 0 0 = 0 by rfl, Nat.zero_mod]; omega] at l
  exact l

/-- the first day of the block of a day, the last one -/
theorem vfw_range {S : Nat → Bool} : ∀ {n d k : Nat}, vfw S n d k = -5 ∨ ((d : Int) ≤ vfw S n d k ∧ vfw S n d k < ((d + n : Nat) : Int))
  | 0, _, _ => Or.inl rfl
  | n + 1, d, k => by
    unfold vfw
    split
    · split
      · exact Or.inr (by omega)
      · rcases vfw_range (S := S) (n := n) (d := d + 1) (k := k - 1) with e | e
        · exact Or.inl e
        · exact Or.inr (by omega)
    · rcases vfw_range (S := S) (n := n) (d := d + 1) (k := k) with e | e
      · exact Or.inl e
      · exact Or.inr (by omega)
theorem vbw_range {S : Nat → Bool} {lo : Nat} : ∀ {n k : Nat}, vbw S lo n k = -5 ∨ ((lo : Int) ≤ vbw S lo n k ∧ vbw S lo n k < ((lo + n : Nat) : Int))
  | 0, _ => Or.inl rfl
  | n + 1, k => by
    unfold vbw
    split
    · split
      · exact Or.inr (by omega)
      · rcases vbw_range (S := S) (lo := lo) (n := n) (k := k - 1) with e | e
        · exact Or.inl e
        · exact Or.inr (by omega)
    · rcases vbw_range (S := S) (lo := lo) (n := n) (k := k) with e | e
      · exact Or.inl e
      · exact Or.inr (by omega)
theorem vpk_range (S : Nat → Bool) (lo hi : Nat) (k : Int) : vpk S lo hi k = -5 ∨ ((lo : Int) ≤ vpk S lo hi k ∧ vpk S lo hi k < ((hi + 1 : Nat) : Int) ∧ lo ≤ hi) := by
  unfold vpk
  split
  · rcases vfw_range (S := S) (n := hi + 1 - lo) (d := lo) (k := k.toNat) with e | e
    · exact Or.inl e
    · exact Or.inr (by omega)
  · rcases vbw_range (S := S) (lo := lo) (n := hi + 1 - lo) (k := (-k - 1).toNat) with e | e
    · exact Or.inl e
    · exact Or.inr (by omega)
/-- what stands for the k-th of the block of L days that begins with f -/
def vbk (T : Nat → Bool) (L f : Nat) (k : Int) : Int := vpk T f ((if 720 < f + L then 720 else f + L) - 1) k
def vob (T : Nat → Bool) (L : Nat) (k : Int) (u n : Nat) : Bool := decide (n < u) && decide (vbk T L (L * (n / L)) k = (n : Int))
theorem vob_su {T : Nat → Bool} {L j n : Nat} {k : Int} (hL : 0 < L) (hn : n < 720) (hu : L * j < 720) : vob T L k (L * (j + 1)) n = (vob T L k (L * j) n || decide ((n : Int) = vbk T L (L * j) k)) := by
  unfold vob
  have ej : L * (j + 1) = L * j + L := Nat.mul_succ L j
  by_cases e : n < L * j
  · rw [decide_eq_true e, decide_eq_true (show n < L * (j + 1) by omega)]
    have hr : ¬ (n : Int) = vbk T L (L * j) k := fun q => by
      unfold vbk at q
      rcases vpk_range T (L * j) ((if 720 < L * j + L then 720 else L * j + L) - 1) k with r | r <;> omega
    rw [decide_eq_false hr]; simp
  · rw [decide_eq_false e]
    by_cases e2 : n < L * (j + 1)
    · rw [decide_eq_true e2]
      have hq : n / L = j := Nat.div_eq_of_lt_le (by rw [Nat.mul_comm]; omega) (by rw [Nat.mul_comm]; exact e2)
      rw [hq, Bool.true_and, Bool.false_and, Bool.false_or]
      exact decide_eq_decide.mpr ⟨fun q => q.symm, fun q => q.symm⟩
    · rw [decide_eq_false e2]
      have hr : ¬ (n : Int) = vbk T L (L * j) k := fun q => by
        unfold vbk at q
        rcases vpk_range T (L * j) ((if 720 < L * j + L then 720 else L * j + L) - 1) k with r | r
        · omega
        · have hm : (if 720 < L * j + L then 720 else L * j + L) ≤ L * (j + 1) ∧ 1 ≤ (if 720 < L * j + L then 720 else L * j + L) := by split <;> omega
          omega
      rw [decide_eq_false hr]; simp
theorem k_addOfBlocks {d a b L : Nat} {S T : Nat → Bool} {k : Int} {h : vHp} {Q : vQ} (hD : vDy h a S) (hE : vDy h b T) (hab : a ≠ b) (hlo : h.1.1 ≤ a) (hL1 : 0 < L) (hL2 : L ≤ 360) (hk1 : -1000 ≤ k) (hk2 : k ≤ 1000) (kk : ∀ h', vDy h' a (fun m => S m || vob T L k 720 m) → vFr (fun q => q = a + 1) h h' → Q none h') : vCall (d + 4) 0 0 17 [.ref a, .ref b, .int (iI (L : Int)), .int (iI k)] h Q := by
  have nb : b ≠ a + 1 := fun q => by
    obtain ⟨f, hw, -⟩ := hD.2
    rw [← q, hE.1] at hw
    cases hw
  have fin : ∀ (i : Nat) (h1 : vHp), 720 ≤ L * i → vDy h1 a (fun m => S m || vob T L k (L * i) m) → vFr (fun q => q = a + 1) h h1 → Q none h1 := fun i h1 hi hD1 fr => kk h1 (vDy_cg hD1 (fun m hm => by unfold vob; rw [decide_eq_true (show m < L * i by omega), decide_eq_true hm])) fr
  have loop : ∀ u i : Nat, 720 ≤ L * i + u → L * i ≤ 2000 → ∀ h1 : vHp, vDy h1 a (fun m => S m || vob T L k (L * i) m) → vFr (fun q => q = a + 1) h h1 → vW (vCall (d + 3)) 17 Q 3 [.ref a, .ref b, .int (iI (L : Int)), .int (iI k), .int (iI ((L * i : Nat) : Int))] [] h1 0 0 := by
    intro u
    induction u with
    | zero =>
      intro i hi hb h1 hD1 fr
      refine r_iload c17_3 rfl (r_ci c17_5 ?_)
      refine r_icge c17_8 (by omega) (by omega) (by omega) (by omega) (fun c_8 => ?_) (fun q => by exfalso; omega)
      refine r_vret (st := []) c17_41 ?_
      exact fin i h1 (by omega) hD1 fr
    | succ u ih =>
      intro i hi hb h1 hD1 fr
      have hE1 : vDy h1 b T := vDy_fr hE fr nb (by omega)
      refine r_iload c17_3 rfl (r_ci c17_5 ?_)
      refine r_icge c17_8 (by omega) (by omega) (by omega) (by omega) (fun c_8 => ?_) (fun c_8 => ?_)
      · refine r_vret (st := []) c17_41 ?_
        exact fin i h1 (by omega) hD1 fr
      · refine r_iload c17_11 rfl ?_
        refine r_ifle c17_12 (by omega) (by omega) (fun q => by exfalso; omega) (fun c_12 => ?_)
        refine r_aload c17_15 rfl (r_aload c17_16 rfl (r_iload c17_17 rfl (r_iload c17_19 rfl (r_iload c17_21 rfl ?_))))
        refine r_isN2 c17_22 vr_93 rfl (k_lastOfBlock (by omega) (by omega) (by omega) (by omega) ?_)
        dsimp only [vpush]
        refine r_iload c17_25 rfl ?_
        have el : (if 720 < ((L * i : Nat) : Int) + (L : Int) then (720 : Int) else ((L * i : Nat) : Int) + (L : Int)) - 1 = (((if 720 < L * i + L then 720 else L * i + L) - 1 : Nat) : Int) := by split <;> split <;> omega
        rw [el]
        have hr := vpk_range T (L * i) ((if 720 < L * i + L then 720 else L * i + L) - 1) k
        have hm : (if 720 < L * i + L then 720 else L * i + L) ≤ 720 ∧ L * i < (if 720 < L * i + L then 720 else L * i + L) := by split <;> omega
        refine r_iv3 c17_26 vr_12 hE1.1 rfl (k_pick hE1 (by omega) (by omega) (by omega) (by omega) ?_)
        dsimp only [vpush]
        refine r_iv1 c17_29 vr_2 hD1.1 rfl (k_add hD1 (vFr_lo fr hlo) (by omega) (by omega) (fun h2 hD2 fr2 => ?_))
        dsimp only [vpush]
        refine r_iload c17_32 rfl (r_iload c17_34 rfl (r_iadd c17_35 (r_istore c17_36 rfl (r_goto c17_38 ?_))))
        try dsimp only [vst]
        have e : ((L * i : Nat) : Int) + (L : Int) = ((L * (i + 1) : Nat) : Int) := by rw [Nat.mul_succ]; omega
        rw [e]
        refine ih (i + 1) (by rw [Nat.mul_succ]; omega) (by rw [Nat.mul_succ]; omega) h2 (vDy_cg hD2 (fun m hm => ?_)) (vFr_tr fr fr2)
        rw [vob_su hL1 hm (by omega), Bool.or_assoc]
        rfl
  refine vin 5 [_, _, _, _, _] ml_17 rfl rfl ?_
  refine r_ci c17_0 (r_istore c17_1 rfl ?_)
  try dsimp only [vst]
  have l := loop 720 0 (by omega) (by omega) h (vDy_cg hD (fun m hm => by
    have e : vob T L k (L * 0) m = false := by
      unfold vob
      rw [decide_eq_false (by omega)]; rfl
    rw [e, Bool.or_false])) vFr_rf
  exact l

