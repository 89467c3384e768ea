theorem ml_36 : vml 36 = 1 := by decide +kernel
theorem ml_37 : vml 37 = 2 := by decide +kernel
theorem ml_49 : vml 49 = 6 := by decide +kernel
theorem vr_36 : vrc 36 = some (3, 0) := by decide +kernel
theorem c36_0 : vlk 36 0 = some (6, 0, 0, 0, 1) := by decide +kernel
theorem c36_1 : vlk 36 1 = some (42, 3, 2, 0, 4) := by decide +kernel
theorem c36_4 : vlk 36 4 = some (72, 39, 0, 0, 7) := by decide +kernel
theorem c36_7 : vlk 36 7 = some (6, 0, 0, 0, 8) := by decide +kernel
theorem c36_8 : vlk 36 8 = some (42, 3, 2, 0, 11) := by decide +kernel
theorem c36_11 : vlk 36 11 = some (6, 0, 0, 0, 12) := by decide +kernel
theorem c36_12 : vlk 36 12 = some (42, 3, 1, 0, 15) := by decide +kernel
theorem c36_15 : vlk 36 15 = some (79, 39, 0, 0, 18) := by decide +kernel
theorem c36_18 : vlk 36 18 = some (6, 0, 0, 0, 19) := by decide +kernel
theorem c36_19 : vlk 36 19 = some (42, 3, 2, 0, 22) := by decide +kernel
theorem c36_22 : vlk 36 22 = some (1, 0, 0, 80, 24) := by decide +kernel
theorem c36_24 : vlk 36 24 = some (79, 39, 0, 0, 27) := by decide +kernel
theorem c36_27 : vlk 36 27 = some (6, 0, 0, 0, 28) := by decide +kernel
theorem c36_28 : vlk 36 28 = some (42, 3, 0, 0, 31) := by decide +kernel
theorem c36_31 : vlk 36 31 = some (6, 0, 0, 0, 32) := by decide +kernel
theorem c36_32 : vlk 36 32 = some (42, 3, 2, 0, 35) := by decide +kernel
theorem c36_35 : vlk 36 35 = some (45, 0, 0, 0, 36) := by decide +kernel
theorem c36_36 : vlk 36 36 = some (37, 40, 0, 0, 39) := by decide +kernel
theorem c36_39 : vlk 36 39 = some (1, 0, 0, (-1), 40) := by decide +kernel
theorem c36_40 : vlk 36 40 = some (63, 0, 0, 0, 41) := by decide +kernel
theorem c37_0 : vlk 37 0 = some (6, 0, 0, 0, 1) := by decide +kernel
theorem c37_1 : vlk 37 1 = some (58, 36, 0, 0, 4) := by decide +kernel
theorem c37_4 : vlk 37 4 = some (4, 1, 0, 0, 5) := by decide +kernel
theorem c37_5 : vlk 37 5 = some (76, 10, 0, 0, 8) := by decide +kernel
theorem c37_8 : vlk 37 8 = some (1, 0, 0, 0, 9) := by decide +kernel
theorem c37_9 : vlk 37 9 = some (63, 1, 0, 0, 10) := by decide +kernel
theorem c37_10 : vlk 37 10 = some (6, 0, 0, 0, 11) := by decide +kernel
theorem c37_11 : vlk 37 11 = some (34, 0, 0, 0, 12) := by decide +kernel
theorem c37_12 : vlk 37 12 = some (42, 3, 2, 0, 15) := by decide +kernel
theorem c37_15 : vlk 37 15 = some (1, 0, 0, 1, 16) := by decide +kernel
theorem c37_16 : vlk 37 16 = some (11, 0, 0, 0, 17) := by decide +kernel
theorem c37_17 : vlk 37 17 = some (43, 3, 2, 0, 20) := by decide +kernel
theorem c37_20 : vlk 37 20 = some (1, 0, 0, 1, 21) := by decide +kernel
theorem c37_21 : vlk 37 21 = some (63, 1, 0, 0, 22) := by decide +kernel
theorem c49_0 : vlk 49 0 = some (6, 0, 0, 0, 1) := by decide +kernel
theorem c49_1 : vlk 49 1 = some (42, 3, 2, 0, 4) := by decide +kernel
theorem c49_4 : vlk 49 4 = some (7, 3, 0, 0, 5) := by decide +kernel
theorem c49_5 : vlk 49 5 = some (1, 0, 0, 0, 6) := by decide +kernel
theorem c49_6 : vlk 49 6 = some (7, 4, 0, 0, 8) := by decide +kernel
theorem c49_8 : vlk 49 8 = some (1, 0, 0, 0, 9) := by decide +kernel
theorem c49_9 : vlk 49 9 = some (7, 5, 0, 0, 11) := by decide +kernel
theorem c49_11 : vlk 49 11 = some (4, 5, 0, 0, 13) := by decide +kernel
theorem c49_13 : vlk 49 13 = some (1, 0, 0, 4, 14) := by decide +kernel
theorem c49_14 : vlk 49 14 = some (79, 66, 0, 0, 17) := by decide +kernel
theorem c49_17 : vlk 49 17 = some (6, 0, 0, 0, 18) := by decide +kernel
theorem c49_18 : vlk 49 18 = some (58, 36, 0, 0, 21) := by decide +kernel
theorem c49_21 : vlk 49 21 = some (1, 0, 0, 48, 23) := by decide +kernel
theorem c49_23 : vlk 49 23 = some (78, 66, 0, 0, 26) := by decide +kernel
theorem c49_26 : vlk 49 26 = some (6, 0, 0, 0, 27) := by decide +kernel
theorem c49_27 : vlk 49 27 = some (58, 36, 0, 0, 30) := by decide +kernel
theorem c49_30 : vlk 49 30 = some (1, 0, 0, 57, 32) := by decide +kernel
theorem c49_32 : vlk 49 32 = some (80, 66, 0, 0, 35) := by decide +kernel
theorem c49_35 : vlk 49 35 = some (4, 4, 0, 0, 37) := by decide +kernel
theorem c49_37 : vlk 49 37 = some (1, 0, 0, 10, 39) := by decide +kernel
theorem c49_39 : vlk 49 39 = some (13, 0, 0, 0, 40) := by decide +kernel
theorem c49_40 : vlk 49 40 = some (6, 0, 0, 0, 41) := by decide +kernel
theorem c49_41 : vlk 49 41 = some (58, 36, 0, 0, 44) := by decide +kernel
theorem c49_44 : vlk 49 44 = some (11, 0, 0, 0, 45) := by decide +kernel
theorem c49_45 : vlk 49 45 = some (1, 0, 0, 48, 47) := by decide +kernel
theorem c49_47 : vlk 49 47 = some (12, 0, 0, 0, 48) := by decide +kernel
theorem c49_48 : vlk 49 48 = some (7, 4, 0, 0, 50) := by decide +kernel
theorem c49_50 : vlk 49 50 = some (6, 0, 0, 0, 51) := by decide +kernel
theorem c49_51 : vlk 49 51 = some (34, 0, 0, 0, 52) := by decide +kernel
theorem c49_52 : vlk 49 52 = some (42, 3, 2, 0, 55) := by decide +kernel
theorem c49_55 : vlk 49 55 = some (1, 0, 0, 1, 56) := by decide +kernel
theorem c49_56 : vlk 49 56 = some (11, 0, 0, 0, 57) := by decide +kernel
theorem c49_57 : vlk 49 57 = some (43, 3, 2, 0, 60) := by decide +kernel
theorem c49_60 : vlk 49 60 = some (10, 5, 0, 1, 63) := by decide +kernel
theorem c49_63 : vlk 49 63 = some (37, 11, 0, 0, 66) := by decide +kernel
theorem c49_66 : vlk 49 66 = some (6, 0, 0, 0, 67) := by decide +kernel
theorem c49_67 : vlk 49 67 = some (42, 3, 2, 0, 70) := by decide +kernel
theorem c49_70 : vlk 49 70 = some (4, 3, 0, 0, 71) := by decide +kernel
theorem c49_71 : vlk 49 71 = some (77, 76, 0, 0, 74) := by decide +kernel
theorem c49_74 : vlk 49 74 = some (1, 0, 0, (-1), 75) := by decide +kernel
theorem c49_75 : vlk 49 75 = some (63, 0, 0, 0, 76) := by decide +kernel
theorem c49_76 : vlk 49 76 = some (4, 4, 0, 0, 78) := by decide +kernel
theorem c49_78 : vlk 49 78 = some (4, 1, 0, 0, 79) := by decide +kernel
theorem c49_79 : vlk 49 79 = some (78, 88, 0, 0, 82) := by decide +kernel
theorem c49_82 : vlk 49 82 = some (4, 4, 0, 0, 84) := by decide +kernel
theorem c49_84 : vlk 49 84 = some (4, 2, 0, 0, 85) := by decide +kernel
theorem c49_85 : vlk 49 85 = some (81, 95, 0, 0, 88) := by decide +kernel
theorem c49_88 : vlk 49 88 = some (6, 0, 0, 0, 89) := by decide +kernel
theorem c49_89 : vlk 49 89 = some (4, 3, 0, 0, 90) := by decide +kernel
theorem c49_90 : vlk 49 90 = some (43, 3, 2, 0, 93) := by decide +kernel
theorem c49_93 : vlk 49 93 = some (1, 0, 0, (-1), 94) := by decide +kernel
theorem c49_94 : vlk 49 94 = some (63, 0, 0, 0, 95) := by decide +kernel
theorem c49_95 : vlk 49 95 = some (4, 4, 0, 0, 97) := by decide +kernel
theorem c49_97 : vlk 49 97 = some (63, 0, 0, 0, 98) := by decide +kernel
/-! Reader: what stands here, taking it, numbers -/
def vRo (h : vHp) (r n pl : Nat) : Prop := hg h r = some (.inr (3, [.ref (r + 1), .int (iI (n : Int)), .int (iI (pl : Int)), .ref (r + 2), .ref (r + 3), .ref (r + 4)]))
def vRy (h : vHp) (r : Nat) (t : Nat → Int) : Prop := hg h (r + 1) = some (.inl (0, 80, .inl t))
def vTp (n : Nat) (t : Nat → Int) : Prop := n ≤ 80 ∧ ∀ i, i < n → 1 ≤ t i ∧ t i ≤ 127
/-- the letter at a place; -1 behind the text -/
def vch (n : Nat) (t : Nat → Int) (p : Nat) : Int := if p < n then t p else -1
theorem vch_rg {n : Nat} {t : Nat → Int} (h : vTp n t) (p : Nat) : -1 ≤ vch n t p ∧ vch n t p ≤ 127 ∧ vch n t p ≠ 0 := by
  unfold vch
  split
  · rename_i q; have := h.2 p q; omega
  · omega
theorem vch_lt {n : Nat} {t : Nat → Int} {p : Nat} (h : 0 ≤ vch n t p) : p < n := by
  unfold vch at h
  split at h <;> omega
theorem k_here {d r n pl : Nat} {t : Nat → Int} {h : vHp} {Q : vQ} (ho : vRo h r n pl) (ht : vRy h r t) (hT : vTp n t) (hp : pl ≤ 1000) (k : Q (some (.int (iI (vch n t pl)))) h) : vCall (d + 1) 0 0 36 [.ref r] h Q := by
  unfold vRo at ho
  unfold vRy at ht
  have hn := hT.1
  refine vin 1 [_] ml_36 rfl rfl ?_
  refine r_aload c36_0 rfl (r_get c36_1 ho rfl ?_)
  refine r_iflt c36_4 (by omega) (by omega) (fun q => by exfalso; omega) (fun c_4 => ?_)
  refine r_aload c36_7 rfl (r_get c36_8 ho rfl (r_aload c36_11 rfl (r_get c36_12 ho rfl ?_)))
  refine r_icge c36_15 (by omega) (by omega) (by omega) (by omega) (fun c_15 => ?_) (fun c_15 => ?_)
  · refine r_ci c36_39 ?_
    refine r_iret (st := []) c36_40 ?_
    unfold vch at k
    rw [if_neg (by omega)] at k
    exact k
  · refine r_aload c36_18 rfl (r_get c36_19 ho rfl (r_ci c36_22 ?_))
    refine r_icge c36_24 (by omega) (by omega) (by omega) (by omega) (fun q => by exfalso; omega) (fun c_24 => ?_)
    refine r_aload c36_27 rfl (r_get c36_28 ho rfl (r_aload c36_31 rfl (r_get c36_32 ho rfl (r_iald c36_35 ht (by omega) (by omega) (r_goto c36_36 ?_)))))
    refine r_iret (st := []) c36_40 ?_
    unfold vch at k
    rw [if_pos (by omega)] at k
    rw [Int.toNat_natCast]
    exact k
/-- the place moves on -/
theorem vRo_st {h h1 : vHp} {r n pl pl2 : Nat} (s : vSt h h1 r (.inr (3, vst [.ref (r + 1), .int (iI (n : Int)), .int (iI (pl : Int)), .ref (r + 2), .ref (r + 3), .ref (r + 4)] 2 (.int (iI (pl2 : Int)))))) : vRo h1 r n pl2 := s.2.2.1
theorem k_take {d r n pl : Nat} {z : Int} {t : Nat → Int} {h : vHp} {Q : vQ} (ho : vRo h r n pl) (ht : vRy h r t) (hT : vTp n t) (hp : pl ≤ 900) (hlo : h.1.1 ≤ r) (z1 : 1 ≤ z) (z2 : z ≤ 127) (kT : vch n t pl = z → ∀ h', vRo h' r n (pl + 1) → vFr (fun q => q = r) h h' → Q (some (.int (iI 1))) h') (kF : vch n t pl ≠ z → Q (some (.int (iI 0))) h) : vCall (d + 2) 0 0 37 [.ref r, .int (iI z)] h Q := by
  have hrg := vch_rg hT pl
  have ho2 := ho
  unfold vRo at ho2
  refine vin 2 [_, _] ml_37 rfl rfl ?_
  refine r_aload c37_0 rfl ?_
  refine r_iv0 c37_1 vr_36 ho2 rfl (k_here ho ht hT (by omega) ?_)
  dsimp only [vpush]
  refine r_iload c37_4 rfl ?_
  refine r_iceq c37_5 (by omega) (by omega) (by omega) (by omega) (fun c_5 => ?_) (fun c_5 => ?_)
  · refine r_aload c37_10 rfl (r_dup c37_11 rfl (r_get c37_12 ho2 rfl (r_ci c37_15 (r_iadd c37_16 ?_))))
    refine r_put c37_17 ho2 hlo rfl ⟨rfl, rfl⟩ (fun h1 s1 => ?_)
    rw [vsu] at s1
    refine r_ci c37_20 ?_
    refine r_zret (st := []) c37_21 (by omega) ?_
    exact kT c_5 h1 (vRo_st s1) (vFr_st s1)
  · refine r_ci c37_8 ?_
    refine r_zret (st := []) c37_9 (by omega) ?_
    exact kF c_5
/-- the figures: their value, the place behind them -/
def vnd (n : Nat) (t : Nat → Int) : Nat → Int → Nat → Int × Nat
  | 0, v, p => (v, p)
  | f + 1, v, p => if 48 ≤ vch n t p ∧ vch n t p ≤ 57 then vnd n t f (v * 10 + vch n t p - 48) (p + 1) else (v, p)
theorem vnd_rg {n : Nat} {t : Nat → Int} {p : Nat} : 0 ≤ (vnd n t 4 0 p).1 ∧ (vnd n t 4 0 p).1 ≤ 9999 ∧ p ≤ (vnd n t 4 0 p).2 ∧ (vnd n t 4 0 p).2 ≤ p + 4 := by
  simp only [vnd]
  split
  · split
    · split
      · split
        · dsimp only; omega
        · dsimp only; omega
      · dsimp only; omega
    · dsimp only; omega
  · dsimp only; omega
/-- a number within bounds: the place behind it and the number; -1 at a fault -/
def vnm (n : Nat) (t : Nat → Int) (lo hi : Int) (p : Nat) : Nat × Int := if (vnd n t 4 0 p).2 = p then (p, -1) else if (vnd n t 4 0 p).1 < lo ∨ hi < (vnd n t 4 0 p).1 then (p, -1) else ((vnd n t 4 0 p).2, (vnd n t 4 0 p).1)
theorem k_number {d r n pl : Nat} {lo hi : Int} {t : Nat → Int} {h : vHp} {Q : vQ} (ho : vRo h r n pl) (ht : vRy h r t) (hT : vTp n t) (hp : pl ≤ 800) (hlo : h.1.1 ≤ r) (l1 : -1000 ≤ lo) (l2 : lo ≤ 1000) (l3 : -1000 ≤ hi) (l4 : hi ≤ 1000) (k : ∀ h', vRo h' r n (vnm n t lo hi pl).1 → vFr (fun q => q = r) h h' → Q (some (.int (iI (vnm n t lo hi pl).2))) h') : vCall (d + 2) 0 0 49 [.ref r, .int (iI lo), .int (iI hi)] h Q := by
  have rg := vnd_rg (n := n) (t := t) (p := pl)
  have fin : ∀ (h1 : vHp) (x5 : Value), vRo h1 r n (vnd n t 4 0 pl).2 → vFr (fun q => q = r) h h1 → vW (vCall (d + 1)) 49 Q 66 [.ref r, .int (iI lo), .int (iI hi), .int (iI (pl : Int)), .int (iI (vnd n t 4 0 pl).1), x5] [] h1 0 0 := by
    intro h1 x5 ho1 fr
    have ho2 := ho1
    unfold vRo at ho2
    unfold vnm at k
    generalize hq : (vnd n t 4 0 pl).2 = p2 at *
    generalize hv : (vnd n t 4 0 pl).1 = v at *
    refine r_aload c49_66 rfl (r_get c49_67 ho2 rfl (r_iload c49_70 rfl ?_))
    refine r_icne c49_71 (by omega) (by omega) (by omega) (by omega) (fun c_71 => ?_) (fun c_71 => ?_)
    · rw [if_neg (by omega)] at k
      have back : (v < lo ∨ hi < v) → vW (vCall (d + 1)) 49 Q 88 [.ref r, .int (iI lo), .int (iI hi), .int (iI (pl : Int)), .int (iI v), x5] [] h1 0 0 := fun q => by
        rw [if_pos q] at k
        refine r_aload c49_88 rfl (r_iload c49_89 rfl ?_)
        refine r_put c49_90 ho2 (vFr_lo fr hlo) rfl ⟨rfl, rfl⟩ (fun h2 s2 => ?_)
        refine r_ci c49_93 ?_
        refine r_iret (st := []) c49_94 ?_
        exact k h2 (vRo_st s2) (vFr_tr fr (vFr_st s2))
      refine r_iload c49_76 rfl (r_iload c49_78 rfl ?_)
      refine r_iclt c49_79 (by omega) (by omega) (by omega) (by omega) (fun c_79 => ?_) (fun c_79 => ?_)
      · exact back (Or.inl c_79)
      · refine r_iload c49_82 rfl (r_iload c49_84 rfl ?_)
        refine r_icle c49_85 (by omega) (by omega) (by omega) (by omega) (fun c_85 => ?_) (fun c_85 => ?_)
        · rw [if_neg (by omega)] at k
          refine r_iload c49_95 rfl ?_
          refine r_iret (st := []) c49_97 ?_
          exact k h1 ho1 fr
        · exact back (Or.inr (by omega))
    · rw [if_pos (by omega)] at k
      have e : p2 = pl := by omega
      subst e
      refine r_ci c49_74 ?_
      refine r_iret (st := []) c49_75 ?_
      exact k h1 ho1 fr
  have loop : ∀ f i : Nat, i + f = 4 → ∀ (h1 : vHp) (v : Int) (p : Nat), vnd n t f v p = vnd n t 4 0 pl → p ≤ 800 + i → vRo h1 r n p → vFr (fun q => q = r) h h1 → vW (vCall (d + 1)) 49 Q 11 [.ref r, .int (iI lo), .int (iI hi), .int (iI (pl : Int)), .int (iI v), .int (iI (i : Int))] [] h1 0 0 := by
    intro f
    induction f with
    | zero =>
      intro i hi' h1 v p he hp1 ho1 fr
      refine r_iload c49_11 rfl (r_ci c49_13 ?_)
      refine r_icge c49_14 (by omega) (by omega) (by omega) (by omega) (fun c_14 => ?_) (fun q => by exfalso; omega)
      rw [show v = (vnd n t 4 0 pl).1 by rw [← he]; rfl]
      exact fin h1 _ (by rw [← he]; exact ho1) fr
    | succ f ih =>
      intro i hi' h1 v p he hp1 ho1 fr
      have ho2 := ho1
      unfold vRo at ho2
      have ht1 : vRy h1 r t := (fr.2.2 _ (by omega)).trans ht
      have hrg := vch_rg hT p
      have stop : ¬ (48 ≤ vch n t p ∧ vch n t p ≤ 57) → vW (vCall (d + 1)) 49 Q 66 [.ref r, .int (iI lo), .int (iI hi), .int (iI (pl : Int)), .int (iI v), .int (iI (i : Int))] [] h1 0 0 := fun q => by
        rw [show vnd n t (f + 1) v p = (if 48 ≤ vch n t p ∧ vch n t p ≤ 57 then vnd n t f (v * 10 + vch n t p - 48) (p + 1) else (v, p)) from rfl, if_neg q] at he
        rw [show v = (vnd n t 4 0 pl).1 by rw [← he]]
        exact fin h1 _ (by rw [← he]; exact ho1) fr
      refine r_iload c49_11 rfl (r_ci c49_13 ?_)
      refine r_icge c49_14 (by omega) (by omega) (by omega) (by omega) (fun q => by exfalso; omega) (fun c_14 => ?_)
      refine r_aload c49_17 rfl ?_
      refine r_iv0 c49_18 vr_36 ho2 rfl (k_here ho1 ht1 hT (by omega) ?_)
      dsimp only [vpush]
      refine r_ci c49_21 ?_
      refine r_iclt c49_23 (by omega) (by omega) (by omega) (by omega) (fun c_23 => ?_) (fun c_23 => ?_)
      · exact stop (by omega)
      · refine r_aload c49_26 rfl ?_
        refine r_iv0 c49_27 vr_36 ho2 rfl (k_here ho1 ht1 hT (by omega) ?_)
        dsimp only [vpush]
        refine r_ci c49_30 ?_
        refine r_icgt c49_32 (by omega) (by omega) (by omega) (by omega) (fun c_32 => ?_) (fun c_32 => ?_)
        · exact stop (by omega)
        · refine r_iload c49_35 rfl (r_ci c49_37 (r_imul c49_39 (r_aload c49_40 rfl ?_)))
          refine r_iv0 c49_41 vr_36 ho2 rfl (k_here ho1 ht1 hT (by omega) ?_)
          dsimp only [vpush]
          refine r_iadd c49_44 (r_ci c49_45 (r_isub c49_47 (r_istore c49_48 rfl (r_aload c49_50 rfl (r_dup c49_51 rfl (r_get c49_52 ho2 rfl (r_ci c49_55 (r_iadd c49_56 ?_))))))))
          try dsimp only [vst]
          refine r_put c49_57 ho2 (vFr_lo fr hlo) rfl ⟨rfl, rfl⟩ (fun h2 s2 => ?_)
          rw [vsu] at s2
          refine r_iinc c49_60 rfl rfl (r_goto c49_63 ?_)
          try dsimp only [vst]
          rw [vsu]
          rw [show vnd n t (f + 1) v p = (if 48 ≤ vch n t p ∧ vch n t p ≤ 57 then vnd n t f (v * 10 + vch n t p - 48) (p + 1) else (v, p)) from rfl, if_pos (by omega)] at he
          exact ih (i + 1) (by omega) h2 _ (p + 1) he (by omega) (vRo_st s2) (vFr_tr fr (vFr_st s2))
  have ho2 := ho
  unfold vRo at ho2
  refine vin 6 [_, _, _, _, _, _] ml_49 rfl rfl ?_
  refine r_aload c49_0 rfl (r_get c49_1 ho2 rfl (r_istore c49_4 rfl (r_ci c49_5 (r_istore c49_6 rfl (r_ci c49_8 (r_istore c49_9 rfl ?_))))))
  try dsimp only [vst]
  exact loop 4 0 rfl h 0 pl rfl (by omega) ho vFr_rf

