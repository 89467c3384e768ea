theorem ml_132 : vml 132 = 2 := by decide +kernel
theorem ml_133 : vml 133 = 4 := by decide +kernel
theorem ml_135 : vml 135 = 4 := by decide +kernel
theorem ml_136 : vml 136 = 5 := by decide +kernel
theorem ml_137 : vml 137 = 9 := by decide +kernel
theorem ml_138 : vml 138 = 3 := by decide +kernel
theorem vr_103 : vrc 103 = some (6, 1) := by decide +kernel
theorem vr_132 : vrc 132 = some (6, 2) := by decide +kernel
theorem vr_134 : vrc 134 = some (6, 2) := by decide +kernel
theorem vr_137 : vrc 137 = some (6, 4) := by decide +kernel
theorem vr_139 : vrc 139 = some (6, 3) := by decide +kernel
theorem c132_0 : vlk 132 0 = some (4, 0, 0, 0, 1) := by decide +kernel
theorem c132_1 : vlk 132 1 = some (59, 103, 0, 0, 4) := by decide +kernel
theorem c132_4 : vlk 132 4 = some (71, 11, 0, 0, 7) := by decide +kernel
theorem c132_7 : vlk 132 7 = some (1, 0, 0, (-1), 8) := by decide +kernel
theorem c132_8 : vlk 132 8 = some (37, 24, 0, 0, 11) := by decide +kernel
theorem c132_11 : vlk 132 11 = some (4, 1, 0, 0, 12) := by decide +kernel
theorem c132_12 : vlk 132 12 = some (59, 104, 0, 0, 15) := by decide +kernel
theorem c132_15 : vlk 132 15 = some (70, 22, 0, 0, 18) := by decide +kernel
theorem c132_18 : vlk 132 18 = some (1, 0, 0, 0, 19) := by decide +kernel
theorem c132_19 : vlk 132 19 = some (37, 24, 0, 0, 22) := by decide +kernel
theorem c132_22 : vlk 132 22 = some (1, 0, 0, (-2), 24) := by decide +kernel
theorem c132_24 : vlk 132 24 = some (63, 0, 0, 0, 25) := by decide +kernel
theorem c133_0 : vlk 133 0 = some (4, 1, 0, 0, 1) := by decide +kernel
theorem c133_1 : vlk 133 1 = some (4, 2, 0, 0, 2) := by decide +kernel
theorem c133_2 : vlk 133 2 = some (59, 132, 0, 0, 5) := by decide +kernel
theorem c133_5 : vlk 133 5 = some (7, 3, 0, 0, 6) := by decide +kernel
theorem c133_6 : vlk 133 6 = some (4, 3, 0, 0, 7) := by decide +kernel
theorem c133_7 : vlk 133 7 = some (70, 14, 0, 0, 10) := by decide +kernel
theorem c133_10 : vlk 133 10 = some (4, 3, 0, 0, 11) := by decide +kernel
theorem c133_11 : vlk 133 11 = some (37, 28, 0, 0, 14) := by decide +kernel
theorem c133_14 : vlk 133 14 = some (6, 0, 0, 0, 15) := by decide +kernel
theorem c133_15 : vlk 133 15 = some (4, 1, 0, 0, 16) := by decide +kernel
theorem c133_16 : vlk 133 16 = some (4, 2, 0, 0, 17) := by decide +kernel
theorem c133_17 : vlk 133 17 = some (58, 106, 0, 0, 20) := by decide +kernel
theorem c133_23 : vlk 133 23 = some (1, 0, 0, 1, 24) := by decide +kernel
theorem c133_24 : vlk 133 24 = some (37, 28, 0, 0, 27) := by decide +kernel
theorem c133_27 : vlk 133 27 = some (1, 0, 0, 0, 28) := by decide +kernel
theorem c133_28 : vlk 133 28 = some (63, 0, 0, 0, 29) := by decide +kernel
theorem c135_0 : vlk 135 0 = some (4, 1, 0, 0, 1) := by decide +kernel
theorem c135_1 : vlk 135 1 = some (4, 2, 0, 0, 2) := by decide +kernel
theorem c135_2 : vlk 135 2 = some (59, 132, 0, 0, 5) := by decide +kernel
theorem c135_5 : vlk 135 5 = some (7, 3, 0, 0, 6) := by decide +kernel
theorem c135_6 : vlk 135 6 = some (4, 3, 0, 0, 7) := by decide +kernel
theorem c135_7 : vlk 135 7 = some (70, 14, 0, 0, 10) := by decide +kernel
theorem c135_10 : vlk 135 10 = some (4, 3, 0, 0, 11) := by decide +kernel
theorem c135_11 : vlk 135 11 = some (37, 20, 0, 0, 14) := by decide +kernel
theorem c135_14 : vlk 135 14 = some (6, 0, 0, 0, 15) := by decide +kernel
theorem c135_15 : vlk 135 15 = some (4, 1, 0, 0, 16) := by decide +kernel
theorem c135_16 : vlk 135 16 = some (4, 2, 0, 0, 17) := by decide +kernel
theorem c135_17 : vlk 135 17 = some (58, 134, 0, 0, 20) := by decide +kernel
theorem c135_20 : vlk 135 20 = some (63, 0, 0, 0, 21) := by decide +kernel
theorem c136_0 : vlk 136 0 = some (4, 1, 0, 0, 1) := by decide +kernel
theorem c136_1 : vlk 136 1 = some (4, 2, 0, 0, 2) := by decide +kernel
theorem c136_2 : vlk 136 2 = some (59, 132, 0, 0, 5) := by decide +kernel
theorem c136_5 : vlk 136 5 = some (7, 3, 0, 0, 6) := by decide +kernel
theorem c136_6 : vlk 136 6 = some (4, 3, 0, 0, 7) := by decide +kernel
theorem c136_7 : vlk 136 7 = some (70, 12, 0, 0, 10) := by decide +kernel
theorem c136_10 : vlk 136 10 = some (4, 3, 0, 0, 11) := by decide +kernel
theorem c136_11 : vlk 136 11 = some (63, 0, 0, 0, 12) := by decide +kernel
theorem c136_12 : vlk 136 12 = some (4, 2, 0, 0, 13) := by decide +kernel
theorem c136_13 : vlk 136 13 = some (7, 4, 0, 0, 15) := by decide +kernel
theorem c136_15 : vlk 136 15 = some (4, 4, 0, 0, 17) := by decide +kernel
theorem c136_17 : vlk 136 17 = some (72, 39, 0, 0, 20) := by decide +kernel
theorem c136_20 : vlk 136 20 = some (6, 0, 0, 0, 21) := by decide +kernel
theorem c136_21 : vlk 136 21 = some (4, 1, 0, 0, 22) := by decide +kernel
theorem c136_22 : vlk 136 22 = some (4, 4, 0, 0, 24) := by decide +kernel
theorem c136_24 : vlk 136 24 = some (58, 106, 0, 0, 27) := by decide +kernel
theorem c136_30 : vlk 136 30 = some (4, 4, 0, 0, 32) := by decide +kernel
theorem c136_32 : vlk 136 32 = some (63, 0, 0, 0, 33) := by decide +kernel
theorem c136_33 : vlk 136 33 = some (10, 4, 0, (-1), 36) := by decide +kernel
theorem c136_36 : vlk 136 36 = some (37, 15, 0, 0, 39) := by decide +kernel
theorem c136_39 : vlk 136 39 = some (1, 0, 0, (-5), 41) := by decide +kernel
theorem c136_41 : vlk 136 41 = some (63, 0, 0, 0, 42) := by decide +kernel
theorem c137_0 : vlk 137 0 = some (6, 0, 0, 0, 1) := by decide +kernel
theorem c137_1 : vlk 137 1 = some (4, 1, 0, 0, 2) := by decide +kernel
theorem c137_2 : vlk 137 2 = some (4, 2, 0, 0, 3) := by decide +kernel
theorem c137_3 : vlk 137 3 = some (4, 3, 0, 0, 4) := by decide +kernel
theorem c137_4 : vlk 137 4 = some (58, 139, 0, 0, 7) := by decide +kernel
theorem c137_7 : vlk 137 7 = some (7, 5, 0, 0, 9) := by decide +kernel
theorem c137_9 : vlk 137 9 = some (4, 4, 0, 0, 11) := by decide +kernel
theorem c137_11 : vlk 137 11 = some (73, 24, 0, 0, 14) := by decide +kernel
theorem c137_14 : vlk 137 14 = some (4, 5, 0, 0, 16) := by decide +kernel
theorem c137_16 : vlk 137 16 = some (32, 0, 0, 0, 17) := by decide +kernel
theorem c137_17 : vlk 137 17 = some (4, 4, 0, 0, 19) := by decide +kernel
theorem c137_19 : vlk 137 19 = some (32, 0, 0, 0, 20) := by decide +kernel
theorem c137_20 : vlk 137 20 = some (22, 0, 0, 0, 21) := by decide +kernel
theorem c137_21 : vlk 137 21 = some (37, 27, 0, 0, 24) := by decide +kernel
theorem c137_24 : vlk 137 24 = some (4, 4, 0, 0, 26) := by decide +kernel
theorem c137_26 : vlk 137 26 = some (32, 0, 0, 0, 27) := by decide +kernel
theorem c137_27 : vlk 137 27 = some (8, 6, 0, 0, 29) := by decide +kernel
theorem c137_29 : vlk 137 29 = some (4, 2, 0, 0, 30) := by decide +kernel
theorem c137_30 : vlk 137 30 = some (7, 8, 0, 0, 32) := by decide +kernel
theorem c137_32 : vlk 137 32 = some (4, 8, 0, 0, 34) := by decide +kernel
theorem c137_34 : vlk 137 34 = some (4, 3, 0, 0, 35) := by decide +kernel
theorem c137_35 : vlk 137 35 = some (80, 70, 0, 0, 38) := by decide +kernel
theorem c137_38 : vlk 137 38 = some (6, 0, 0, 0, 39) := by decide +kernel
theorem c137_39 : vlk 137 39 = some (4, 1, 0, 0, 40) := by decide +kernel
theorem c137_40 : vlk 137 40 = some (4, 8, 0, 0, 42) := by decide +kernel
theorem c137_42 : vlk 137 42 = some (58, 106, 0, 0, 45) := by decide +kernel
theorem c137_48 : vlk 137 48 = some (5, 6, 0, 0, 50) := by decide +kernel
theorem c137_50 : vlk 137 50 = some (2, 0, 0, 0, 51) := by decide +kernel
theorem c137_51 : vlk 137 51 = some (31, 0, 0, 0, 52) := by decide +kernel
theorem c137_52 : vlk 137 52 = some (71, 58, 0, 0, 55) := by decide +kernel
theorem c137_55 : vlk 137 55 = some (4, 8, 0, 0, 57) := by decide +kernel
theorem c137_57 : vlk 137 57 = some (63, 0, 0, 0, 58) := by decide +kernel
theorem c137_58 : vlk 137 58 = some (5, 6, 0, 0, 60) := by decide +kernel
theorem c137_60 : vlk 137 60 = some (2, 0, 0, 1, 61) := by decide +kernel
theorem c137_61 : vlk 137 61 = some (23, 0, 0, 0, 62) := by decide +kernel
theorem c137_62 : vlk 137 62 = some (8, 6, 0, 0, 64) := by decide +kernel
theorem c137_64 : vlk 137 64 = some (10, 8, 0, 1, 67) := by decide +kernel
theorem c137_67 : vlk 137 67 = some (37, 32, 0, 0, 70) := by decide +kernel
theorem c137_70 : vlk 137 70 = some (1, 0, 0, (-5), 72) := by decide +kernel
theorem c137_72 : vlk 137 72 = some (63, 0, 0, 0, 73) := by decide +kernel
theorem c138_0 : vlk 138 0 = some (4, 1, 0, 0, 1) := by decide +kernel
theorem c138_1 : vlk 138 1 = some (59, 103, 0, 0, 4) := by decide +kernel
theorem c138_4 : vlk 138 4 = some (70, 20, 0, 0, 7) := by decide +kernel
theorem c138_7 : vlk 138 7 = some (6, 0, 0, 0, 8) := by decide +kernel
theorem c138_8 : vlk 138 8 = some (4, 1, 0, 0, 9) := by decide +kernel
theorem c138_9 : vlk 138 9 = some (1, 0, 0, 0, 10) := by decide +kernel
theorem c138_10 : vlk 138 10 = some (1, 0, 0, 719, 13) := by decide +kernel
theorem c138_13 : vlk 138 13 = some (4, 2, 0, 0, 14) := by decide +kernel
theorem c138_14 : vlk 138 14 = some (58, 137, 0, 0, 17) := by decide +kernel
theorem c138_17 : vlk 138 17 = some (37, 21, 0, 0, 20) := by decide +kernel
theorem c138_20 : vlk 138 20 = some (1, 0, 0, (-1), 21) := by decide +kernel
theorem c138_21 : vlk 138 21 = some (63, 0, 0, 0, 22) := by decide +kernel
/-! the reference as a whole: the same state, in its own rows -/
def vXs (σ : vSg) : vMX := (σ.2.1.1, σ.2.2.2.1.1, σ.2.2.2.1.2, σ.2.2.1.1.length, σ.2.2.1.2.1, σ.2.2.1.2.2, σ.1)
def vMt (h : vHp) (c : Nat) (N : vNmS) : Prop := vBr h (c + 5) 10 N.1 ∧ vBr h (c + 6) 7200 (vfl2 N.2.1) ∧ vBr h (c + 7) 7200 (vfl2 N.2.2.1) ∧ vBr h (c + 8) 7200 (vfl2 N.2.2.2)
def vSr (h : vHp) (c : Nat) (f : Nat → vSp) : Prop := hg h (c + 11) = some (.inl (0, 7, .inl fun i => (f i).1)) ∧ hg h (c + 12) = some (.inl (0, 7, .inl fun i => (f i).2.1)) ∧ hg h (c + 13) = some (.inl (0, 7, .inl fun i => (f i).2.2.1)) ∧ hg h (c + 14) = some (.inl (0, 7, .inl fun i => (f i).2.2.2))
def vMs (h : vHp) (c : Nat) (l : List vSp) : Prop := ∃ f, vSr h c f ∧ ∀ i s, l[i]? = some s → f i = s
def vLi (g : Nat → Int) (f : Nat → Int) (i : Nat) (o : Option (Nat × (Nat → Int))) : Prop := match o with
  | none => f i = -1
  | some (n, p) => f i = (n : Int) ∧ ∀ j, j < 30 → g (30 * i + j) = p j
def vMl (h : vHp) (c : Nat) (ls : vLst) : Prop := ∃ f g m, hg h (c + 15) = some (.inl (0, 4, .inl f)) ∧ hg h (c + 16) = some (.inl (0, 120, .inl g)) ∧ hg h (c + 17) = some (.inl (0, 30, .inl m)) ∧ ∀ i, i < 4 → vLi g f i (ls i)
def vMD (h : vHp) (c : Nat) (σ : vSg) : Prop := (∃ a w tp G, vRp h c (vXs σ) a w tp G) ∧ vBr h (c + 1) 10 σ.1.1 ∧ vMt h c σ.2.1.2 ∧ vMs h c σ.2.2.1.1 ∧ vMl h c σ.2.2.2.2
theorem vMD_n {h : vHp} {c : Nat} {σ : vSg} (hD : vMD h c σ) : vMn h c σ.1 := by
  obtain ⟨⟨a, w, tp, G, hM⟩, -⟩ := hD
  exact vRp_n hM
theorem vMn_o {h : vHp} {c : Nat} {N : vNmS} (hM : vMn h c N) : ∃ fs, hg h c = some (.inr (6, fs)) := by
  obtain ⟨fs, ar, ao, ax, ho, -⟩ := hM
  exact ⟨fs, ho⟩
theorem vBi_rg (b : Bool) : 0 ≤ vBi b ∧ vBi b ≤ 1 := by cases b <;> decide
theorem vBi_inj {a b : Bool} (h : vBi a = vBi b) : a = b := by
  revert h; cases a <;> cases b <;> decide
theorem vicne {u v : Bool} {m pc a nx d : Nat} {R : vQ} {lv st : List Value} {h : vHp} {bc bs : Nat} (hc : vlk m pc = some (77, a, 0, 0, nx)) (kN : u ≠ v → vW (vCall d) m R a lv st h bc bs) (kE : u = v → vW (vCall d) m R nx lv st h bc bs) : vW (vCall d) m R pc lv (.int (iI (vBi v)) :: .int (iI (vBi u)) :: st) h bc bs := by
  have h1 := vBi_rg u
  have h2 := vBi_rg v
  exact r_icne hc (by omega) (by omega) (by omega) (by omega) (fun q => kN (fun e => q (by rw [e]))) (fun q => kE (vBi_inj q))
theorem viceq {u v : Bool} {m pc a nx d : Nat} {R : vQ} {lv st : List Value} {h : vHp} {bc bs : Nat} (hc : vlk m pc = some (76, a, 0, 0, nx)) (kE : u = v → vW (vCall d) m R a lv st h bc bs) (kN : u ≠ v → vW (vCall d) m R nx lv st h bc bs) : vW (vCall d) m R pc lv (.int (iI (vBi v)) :: .int (iI (vBi u)) :: st) h bc bs := by
  have h1 := vBi_rg u
  have h2 := vBi_rg v
  exact r_iceq hc (by omega) (by omega) (by omega) (by omega) (fun q => kE (vBi_inj q)) (fun q => kN (fun e => q (by rw [e])))
theorem m_amiss {d : Nat} {x y : Int} {h : vHp} {Q : vQ} (x1 : -2147483648 ≤ x) (x2 : x ≤ 2147483647) (y1 : -2147483648 ≤ y) (y2 : y ≤ 2147483647) (kT : 0 ≤ x → x < 10 → 0 ≤ y → y < 720 → Q (some (.int (iI 0))) h) (kB : 0 ≤ x ∧ x < 10 → ¬ (0 ≤ y ∧ y < 720) → Q (some (.int (iI (-2)))) h) (kN : ¬ (0 ≤ x ∧ x < 10) → Q (some (.int (iI (-1)))) h) : vCall (d + 3) 0 0 132 [.int (iI x), .int (iI y)] h Q := by
  refine vin 2 [_, _] ml_132 rfl rfl ?_
  refine r_iload c132_0 rfl ?_
  refine r_is1 c132_1 vr_103 rfl (k_mName x1 x2 (fun e1 e2 => ?_) (fun e => ?_))
  · dsimp only [vpush]
    refine r_ifne c132_4 (by omega) (by omega) (fun c_4 => ?_) (fun q => by exfalso; omega)
    refine r_iload c132_11 rfl ?_
    refine r_is1 c132_12 vr_104 rfl (k_mDay y1 y2 (fun g1 g2 => ?_) (fun g => ?_))
    · dsimp only [vpush]
      refine r_ifeq c132_15 (by omega) (by omega) (fun q => by exfalso; omega) (fun c_15 => ?_)
      refine r_ci c132_18 (r_goto c132_19 ?_)
      refine r_iret (st := []) c132_24 ?_
      exact kT e1 e2 g1 g2
    · dsimp only [vpush]
      refine r_ifeq c132_15 (by omega) (by omega) (fun c_15 => ?_) (fun q => by exfalso; omega)
      refine r_ci c132_22 ?_
      refine r_iret (st := []) c132_24 ?_
      exact kB ⟨e1, e2⟩ g
  · dsimp only [vpush]
    refine r_ifne c132_4 (by omega) (by omega) (fun q => by exfalso; omega) (fun c_4 => ?_)
    refine r_ci c132_7 (r_goto c132_8 ?_)
    refine r_iret (st := []) c132_24 ?_
    exact kN e
theorem m_has {d c : Nat} {N : vNmS} {x y : Int} {h : vHp} {Q : vQ} (hM : vMn h c N) (x1 : -2147483648 ≤ x) (x2 : x ≤ 2147483647) (y1 : -2147483648 ≤ y) (y2 : y ≤ 2147483647) (k : Q (some (.int (iI (vQ_has N x y)))) h) : vCall (d + 4) 0 0 133 [.ref c, .int (iI x), .int (iI y)] h Q := by
  obtain ⟨fs, ho⟩ := vMn_o hM
  unfold vQ_has at k
  refine vin 4 [_, _, _, _] ml_133 rfl rfl ?_
  refine r_iload c133_0 rfl (r_iload c133_1 rfl ?_)
  refine r_is2 c133_2 vr_132 rfl (m_amiss x1 x2 y1 y2 (fun e1 e2 g1 g2 => ?_) (fun e g => ?_) (fun e => ?_))
  · dsimp only [vpush]
    rw [if_pos ⟨e1, e2⟩, if_pos ⟨g1, g2⟩] at k
    obtain ⟨i, rfl⟩ := Int.eq_ofNat_of_zero_le e1
    obtain ⟨j, rfl⟩ := Int.eq_ofNat_of_zero_le g1
    rw [Int.toNat_natCast, Int.toNat_natCast] at k
    refine r_istore c133_5 rfl (r_iload c133_6 rfl ?_)
    try dsimp only [vst]
    refine r_ifeq c133_7 (by omega) (by omega) (fun c_7 => ?_) (fun q => by exfalso; omega)
    refine r_aload c133_14 rfl (r_iload c133_15 rfl (r_iload c133_16 rfl ?_))
    refine r_iv2 c133_17 vr_106 ho rfl (k_mOf hM (by omega) (by omega) ?_)
    dsimp only [vpush]
    refine vife (by decide +kernel : vlk 133 20 = some (70, 27, 0, 0, 23)) (fun b => ?_) (fun b => ?_)
    · rw [b] at k
      refine r_ci c133_27 ?_
      refine r_iret (st := []) c133_28 ?_
      exact k
    · rw [b] at k
      refine r_ci c133_23 (r_goto c133_24 ?_)
      refine r_iret (st := []) c133_28 ?_
      exact k
  · dsimp only [vpush]
    rw [if_pos e, if_neg g] at k
    refine r_istore c133_5 rfl (r_iload c133_6 rfl ?_)
    try dsimp only [vst]
    refine r_ifeq c133_7 (by omega) (by omega) (fun q => by exfalso; omega) (fun c_7 => ?_)
    refine r_iload c133_10 rfl (r_goto c133_11 ?_)
    refine r_iret (st := []) c133_28 ?_
    exact k
  · dsimp only [vpush]
    rw [if_neg e] at k
    refine r_istore c133_5 rfl (r_iload c133_6 rfl ?_)
    try dsimp only [vst]
    refine r_ifeq c133_7 (by omega) (by omega) (fun q => by exfalso; omega) (fun c_7 => ?_)
    refine r_iload c133_10 rfl (r_goto c133_11 ?_)
    refine r_iret (st := []) c133_28 ?_
    exact k
theorem vpk_fw (S : vSt1) (e : Nat) : vpk S e 719 0 = vfw S (720 - e) e 0 := by
  unfold vpk
  rw [if_pos (by decide)]
  rfl
theorem m_next {d c : Nat} {N : vNmS} {x y : Int} {h : vHp} {Q : vQ} (hM : vMn h c N) (x1 : -2147483648 ≤ x) (x2 : x ≤ 2147483647) (y1 : -2147483648 ≤ y) (y2 : y ≤ 2147483647) (k : Q (some (.int (iI (vQ_next N x y)))) h) : vCall (d + 4) 0 0 135 [.ref c, .int (iI x), .int (iI y)] h Q := by
  obtain ⟨fs, ho⟩ := vMn_o hM
  unfold vQ_next at k
  refine vin 4 [_, _, _, _] ml_135 rfl rfl ?_
  refine r_iload c135_0 rfl (r_iload c135_1 rfl ?_)
  refine r_is2 c135_2 vr_132 rfl (m_amiss x1 x2 y1 y2 (fun e1 e2 g1 g2 => ?_) (fun e g => ?_) (fun e => ?_))
  · dsimp only [vpush]
    rw [if_pos ⟨e1, e2⟩, if_pos ⟨g1, g2⟩, vpk_fw] at k
    obtain ⟨i, rfl⟩ := Int.eq_ofNat_of_zero_le e1
    obtain ⟨j, rfl⟩ := Int.eq_ofNat_of_zero_le g1
    rw [Int.toNat_natCast, Int.toNat_natCast] at k
    refine r_istore c135_5 rfl (r_iload c135_6 rfl ?_)
    try dsimp only [vst]
    refine r_ifeq c135_7 (by omega) (by omega) (fun c_7 => ?_) (fun q => by exfalso; omega)
    refine r_aload c135_14 rfl (r_iload c135_15 rfl (r_iload c135_16 rfl ?_))
    refine r_iv2 c135_17 vr_134 ho rfl (k_nextOf hM (by omega) (by omega) ?_)
    dsimp only [vpush]
    refine r_iret (st := []) c135_20 ?_
    exact k
  · dsimp only [vpush]
    rw [if_pos e, if_neg g] at k
    refine r_istore c135_5 rfl (r_iload c135_6 rfl ?_)
    try dsimp only [vst]
    refine r_ifeq c135_7 (by omega) (by omega) (fun q => by exfalso; omega) (fun c_7 => ?_)
    refine r_iload c135_10 rfl (r_goto c135_11 ?_)
    refine r_iret (st := []) c135_20 ?_
    exact k
  · dsimp only [vpush]
    rw [if_neg e] at k
    refine r_istore c135_5 rfl (r_iload c135_6 rfl ?_)
    try dsimp only [vst]
    refine r_ifeq c135_7 (by omega) (by omega) (fun q => by exfalso; omega) (fun c_7 => ?_)
    refine r_iload c135_10 rfl (r_goto c135_11 ?_)
    refine r_iret (st := []) c135_20 ?_
    exact k
theorem m_ahead {d c : Nat} {N : vNmS} {x y : Int} {h : vHp} {Q : vQ} (hM : vMn h c N) (x1 : -2147483648 ≤ x) (x2 : x ≤ 2147483647) (y1 : -2147483648 ≤ y) (y2 : y ≤ 2147483647) (k : Q (some (.int (iI (vQ_ahead N x y)))) h) : vCall (d + 4) 0 0 136 [.ref c, .int (iI x), .int (iI y)] h Q := by
  obtain ⟨fs, ho⟩ := vMn_o hM
  unfold vQ_ahead at k
  refine vin 5 [_, _, _, _, _] ml_136 rfl rfl ?_
  refine r_iload c136_0 rfl (r_iload c136_1 rfl ?_)
  refine r_is2 c136_2 vr_132 rfl (m_amiss x1 x2 y1 y2 (fun e1 e2 g1 g2 => ?_) (fun e g => ?_) (fun e => ?_))
  · dsimp only [vpush]
    rw [if_pos ⟨e1, e2⟩, if_pos ⟨g1, g2⟩] at k
    obtain ⟨i, rfl⟩ := Int.eq_ofNat_of_zero_le e1
    obtain ⟨j, rfl⟩ := Int.eq_ofNat_of_zero_le g1
    rw [Int.toNat_natCast, Int.toNat_natCast] at k
    have ek : vpk (vDd N i) 0 j (-1) = vbw (vDd N i) 0 (j + 1) 0 := by
      unfold vpk
      rw [if_neg (by decide)]
      rfl
    rw [ek] at k
    have loop : ∀ u : Nat, u ≤ 720 → vbw (vDd N i) 0 u 0 = vbw (vDd N i) 0 (j + 1) 0 → vW (vCall (d + 3)) 136 Q 15 [.ref c, .int (iI (i : Int)), .int (iI (j : Int)), .int (iI 0), .int (iI ((u : Int) - 1))] [] h 0 0 := by
      intro u
      induction u with
      | zero =>
        intro hu he
        rw [← he] at k
        refine r_iload c136_15 rfl ?_
        refine r_iflt c136_17 (by omega) (by omega) (fun c_17 => ?_) (fun q => by exfalso; omega)
        refine r_ci c136_39 ?_
        refine r_iret (st := []) c136_41 ?_
        exact k
      | succ u ih =>
        intro hu he
        have he2 : (if vDd N i (0 + u) = true then ((0 + u : Nat) : Int) else vbw (vDd N i) 0 u 0) = vbw (vDd N i) 0 (j + 1) 0 := by
          rw [← he]; rfl
        rw [Nat.zero_add] at he2
        rw [show ((u + 1 : Nat) : Int) - 1 = (u : Int) by omega]
        refine r_iload c136_15 rfl ?_
        refine r_iflt c136_17 (by omega) (by omega) (fun q => by exfalso; omega) (fun c_17 => ?_)
        refine r_aload c136_20 rfl (r_iload c136_21 rfl (r_iload c136_22 rfl ?_))
        refine r_iv2 c136_24 vr_106 ho rfl (k_mOf hM (by omega) (by omega) ?_)
        dsimp only [vpush]
        refine vife (by decide +kernel : vlk 136 27 = some (70, 33, 0, 0, 30)) (fun b => ?_) (fun b => ?_)
        · rw [if_neg (by rw [b]; decide)] at he2
          refine r_iinc c136_33 rfl rfl (r_goto c136_36 ?_)
          try dsimp only [vst]
          exact ih (by omega) he2
        · rw [if_pos b] at he2
          rw [← he2] at k
          refine r_iload c136_30 rfl ?_
          refine r_iret (st := []) c136_32 ?_
          exact k
    refine r_istore c136_5 rfl (r_iload c136_6 rfl ?_)
    try dsimp only [vst]
    refine r_ifeq c136_7 (by omega) (by omega) (fun c_7 => ?_) (fun q => by exfalso; omega)
    refine r_iload c136_12 rfl (r_istore c136_13 rfl ?_)
    try dsimp only [vst]
    have g := loop (j + 1) (by omega) rfl
    rw [show ((j + 1 : Nat) : Int) - 1 = (j : Int) by omega] at g
    exact g
  · dsimp only [vpush]
    rw [if_pos e, if_neg g] at k
    refine r_istore c136_5 rfl (r_iload c136_6 rfl ?_)
    try dsimp only [vst]
    refine r_ifeq c136_7 (by omega) (by omega) (fun q => by exfalso; omega) (fun c_7 => ?_)
    refine r_iload c136_10 rfl ?_
    refine r_iret (st := []) c136_11 ?_
    exact k
  · dsimp only [vpush]
    rw [if_neg e] at k
    refine r_istore c136_5 rfl (r_iload c136_6 rfl ?_)
    try dsimp only [vst]
    refine r_ifeq c136_7 (by omega) (by omega) (fun q => by exfalso; omega) (fun c_7 => ?_)
    refine r_iload c136_10 rfl ?_
    refine r_iret (st := []) c136_11 ?_
    exact k
/-- from the end, told from the beginning -/
theorem vcn_sp {S : vSt1} {lo n m : Nat} (h1 : lo ≤ m) (h2 : m < lo + n) : vcn S lo n = vcn S lo (m - lo) + (if S m = true then 1 else 0) + vcn S (m + 1) (lo + n - 1 - m) := by
  rw [show n = (m - lo) + (1 + (lo + n - 1 - m)) by omega, vcn_add, vcn_su1, show lo + (m - lo) = m by omega, show lo + (m - lo + (1 + (lo + n - 1 - m))) - 1 - m = lo + n - 1 - m by omega]
  omega
theorem vbw_fw {S : vSt1} {lo n k : Nat} : vbw S lo n k = if k < vcn S lo n then vfw S n lo (vcn S lo n - 1 - k) else -5 := by
  have key : ∀ m : Nat, vbw S lo n k = (m : Int) → k < vcn S lo n ∧ vfw S n lo (vcn S lo n - 1 - k) = (m : Int) := by
    intro m hm
    obtain ⟨q1, q2, q3, q4⟩ := (vbw_iff n k m).1 hm
    have sp := vcn_sp (S := S) q1 q2
    rw [if_pos q3] at sp
    exact ⟨by omega, (vfw_iff n lo _ m).2 ⟨q1, q2, q3, by omega⟩⟩
  split
  · rename_i hk
    rcases vfw_range (S := S) (n := n) (d := lo) (k := vcn S lo n - 1 - k) with e | e
    · rcases vbw_range (S := S) (lo := lo) (n := n) (k := k) with g | g
      · rw [e, g]
      · obtain ⟨m, hm⟩ := Int.eq_ofNat_of_zero_le (show 0 ≤ vbw S lo n k by omega)
        exact hm.trans (key m hm).2.symm
    · obtain ⟨m, hm⟩ := Int.eq_ofNat_of_zero_le (show 0 ≤ vfw S n lo (vcn S lo n - 1 - k) by omega)
      obtain ⟨q1, q2, q3, q4⟩ := (vfw_iff n lo _ m).1 hm
      have sp := vcn_sp (S := S) q1 q2
      rw [if_pos q3] at sp
      rw [hm]
      exact (vbw_iff n k m).2 ⟨q1, q2, q3, by omega⟩
  · rename_i hk
    rcases vbw_range (S := S) (lo := lo) (n := n) (k := k) with g | g
    · exact g
    · obtain ⟨m, hm⟩ := Int.eq_ofNat_of_zero_le (show 0 ≤ vbw S lo n k by omega)
      exact absurd (key m hm).1 hk
def vit (S : vSt1) (n e : Nat) (g : Int) : Int := if 0 ≤ g then vfw S n e g.toNat else -5
theorem vit_su {S : vSt1} {n e : Nat} {g : Int} : vit S (n + 1) e g = (if S e = true then (if g = 0 then (e : Int) else vit S n (e + 1) (g - 1)) else vit S n (e + 1) g) := by
  unfold vit
  have ev : ∀ k, vfw S (n + 1) e k = (if S e = true then (if k = 0 then (e : Int) else vfw S n (e + 1) (k - 1)) else vfw S n (e + 1) k) := fun k => rfl
  rw [ev]
  by_cases hs : S e = true
  · rw [if_pos hs, if_pos hs]
    by_cases h0 : g = 0
    · rw [if_pos h0, if_pos (by omega), if_pos (by omega)]
    · rw [if_neg h0]
      by_cases hg : 0 ≤ g
      · rw [if_pos hg, if_neg (by omega), if_pos (by omega), show (g - 1).toNat = g.toNat - 1 by omega]
      · rw [if_neg hg, if_neg (by omega)]
  · rw [if_neg hs, if_neg hs]
theorem m_ith {d c i x y : Nat} {N : vNmS} {z : Int} {h : vHp} {Q : vQ} (hM : vMn h c N) (hi : i < 10) (hx : x ≤ y + 1) (hy : y < 720) (z1 : -2147483648 ≤ z) (z2 : z ≤ 2147483647) (k : Q (some (.int (iI (vpk (vDd N i) x y z)))) h) : vCall (d + 3) 0 0 137 [.ref c, .int (iI (i : Int)), .int (iI (x : Int)), .int (iI (y : Int)), .int (iI z)] h Q := by
  obtain ⟨fs, ho⟩ := vMn_o hM
  have cl := vcn_le (vDd N i) x (y + 1 - x)
  have main : ∀ g : Int, -2147483648 ≤ g → g ≤ 2147483647 → vit (vDd N i) (y + 1 - x) x g = vpk (vDd N i) x y z → ∀ x6 x7 x8 : Value, x6.category = 1 → vW (vCall (d + 2)) 137 Q 27 [.ref c, .int (iI (i : Int)), .int (iI (x : Int)), .int (iI (y : Int)), .int (iI z), .int (iI ((vcn (vDd N i) x (y + 1 - x) : Nat) : Int)), x6, x7, x8] [.long (lZ g)] h 0 0 := by
    intro g g1 g2 hg x6 x7 x8 hx6
    have loop : ∀ u j : Nat, j + u = y + 1 → ∀ g : Int, -2147484648 + u ≤ g → g ≤ 2147483647 → vit (vDd N i) u j g = vpk (vDd N i) x y z → vW (vCall (d + 2)) 137 Q 32 [.ref c, .int (iI (i : Int)), .int (iI (x : Int)), .int (iI (y : Int)), .int (iI z), .int (iI ((vcn (vDd N i) x (y + 1 - x) : Nat) : Int)), .long (lZ g), vHole, .int (iI (j : Int))] [] h 0 0 := by
      intro u
      induction u with
      | zero =>
        intro j hj g g1 g2 hv
        have e5 : vit (vDd N i) 0 j g = -5 := by unfold vit; split <;> rfl
        rw [e5] at hv
        rw [← hv] at k
        refine r_iload c137_32 rfl (r_iload c137_34 rfl ?_)
        refine r_icgt c137_35 (by omega) (by omega) (by omega) (by omega) (fun c_35 => ?_) (fun q => by exfalso; omega)
        refine r_ci c137_70 ?_
        refine r_iret (st := []) c137_72 ?_
        exact k
      | succ u ih =>
        intro j hj g g1 g2 hv
        rw [vit_su] at hv
        refine r_iload c137_32 rfl (r_iload c137_34 rfl ?_)
        refine r_icgt c137_35 (by omega) (by omega) (by omega) (by omega) (fun q => by exfalso; omega) (fun c_35 => ?_)
        refine r_aload c137_38 rfl (r_iload c137_39 rfl (r_iload c137_40 rfl ?_))
        refine r_iv2 c137_42 vr_106 ho rfl (k_mOf hM hi (by omega) ?_)
        dsimp only [vpush]
        refine vife (by decide +kernel : vlk 137 45 = some (70, 64, 0, 0, 48)) (fun b => ?_) (fun b => ?_)
        · rw [if_neg (by rw [b]; decide)] at hv
          refine r_iinc c137_64 rfl rfl (r_goto c137_67 ?_)
          try dsimp only [vst]
          rw [vsu]
          exact ih (j + 1) (by omega) g (by omega) g2 hv
        · rw [if_pos b] at hv
          refine r_lload c137_48 rfl (r_cl c137_50 ?_)
          refine r_lcne c137_51 c137_52 (by omega) (by omega) (by omega) (by omega) (fun c_51 => ?_) (fun c_51 => ?_)
          · rw [if_neg c_51] at hv
            refine r_lload c137_58 rfl (r_cl c137_60 (r_lsub c137_61 (r_lstore c137_62 rfl rfl (r_iinc c137_64 rfl rfl (r_goto c137_67 ?_)))))
            try dsimp only [vst]
            rw [vsu]
            exact ih (j + 1) (by omega) (g - 1) (by omega) (by omega) hv
          · rw [if_pos c_51] at hv
            rw [← hv] at k
            refine r_iload c137_55 rfl ?_
            refine r_iret (st := []) c137_57 ?_
            exact k
    refine r_lstore c137_27 rfl rfl (r_iload c137_29 rfl (r_istore c137_30 rfl ?_))
    try dsimp only [vst]
    exact loop (y + 1 - x) x (by omega) g (by omega) g2 hg
  refine vin 9 [_, _, _, _, _, _, _, _, _] ml_137 rfl rfl ?_
  refine r_aload c137_0 rfl (r_iload c137_1 rfl (r_iload c137_2 rfl (r_iload c137_3 rfl ?_)))
  refine r_iv3 c137_4 vr_139 ho rfl (k_counted hM hi hx hy ?_)
  dsimp only [vpush]
  refine r_istore c137_7 rfl (r_iload c137_9 rfl ?_)
  try dsimp only [vst]
  refine r_ifge c137_11 (by omega) (by omega) (fun c_11 => ?_) (fun c_11 => ?_)
  · refine r_iload c137_24 rfl (r_i2l c137_26 (by omega) (by omega) ?_)
    refine main z z1 z2 ?_ _ _ _ rfl
    unfold vit vpk
    rw [if_pos c_11, if_pos c_11]
  · refine r_iload c137_14 rfl (r_i2l c137_16 (by omega) (by omega) (r_iload c137_17 rfl (r_i2l c137_19 (by omega) (by omega) (r_ladd c137_20 (r_goto c137_21 ?_)))))
    refine main _ (by omega) (by omega) ?_ _ _ _ rfl
    unfold vit vpk
    rw [if_neg (show ¬ 0 ≤ z by omega), vbw_fw]
    by_cases q : (-z - 1).toNat < vcn (vDd N i) x (y + 1 - x)
    · rw [if_pos q, if_pos (by omega)]
      congr 1
      omega
    · rw [if_neg q, if_neg (by omega)]
theorem m_at {d c : Nat} {N : vNmS} {x y : Int} {h : vHp} {Q : vQ} (hM : vMn h c N) (x1 : -2147483648 ≤ x) (x2 : x ≤ 2147483647) (y1 : -2147483648 ≤ y) (y2 : y ≤ 2147483647) (k : Q (some (.int (iI (vQ_at N x y)))) h) : vCall (d + 4) 0 0 138 [.ref c, .int (iI x), .int (iI y)] h Q := by
  obtain ⟨fs, ho⟩ := vMn_o hM
  unfold vQ_at at k
  refine vin 3 [_, _, _] ml_138 rfl rfl ?_
  refine r_iload c138_0 rfl ?_
  refine r_is1 c138_1 vr_103 rfl (k_mName x1 x2 (fun e1 e2 => ?_) (fun e => ?_))
  · dsimp only [vpush]
    rw [if_pos ⟨e1, e2⟩] at k
    obtain ⟨i, rfl⟩ := Int.eq_ofNat_of_zero_le e1
    rw [Int.toNat_natCast] at k
    refine r_ifeq c138_4 (by omega) (by omega) (fun q => by exfalso; omega) (fun c_4 => ?_)
    refine r_aload c138_7 rfl (r_iload c138_8 rfl (r_ci c138_9 (r_ci c138_10 (r_iload c138_13 rfl ?_))))
    refine r_iv4 c138_14 vr_137 ho rfl (m_ith (x := 0) (y := 719) hM (by omega) (by omega) (by omega) y1 y2 ?_)
    dsimp only [vpush]
    refine r_goto c138_17 ?_
    refine r_iret (st := []) c138_21 ?_
    exact k
  · dsimp only [vpush]
    rw [if_neg e] at k
    refine r_ifeq c138_4 (by omega) (by omega) (fun c_4 => ?_) (fun q => by exfalso; omega)
    refine r_ci c138_20 ?_
    refine r_iret (st := []) c138_21 ?_
    exact k

