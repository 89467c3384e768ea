theorem ml_110 : vml 110 = 1 := by decide +kernel
theorem ml_111 : vml 111 = 2 := by decide +kernel
theorem ml_112 : vml 112 = 2 := by decide +kernel
theorem ml_114 : vml 114 = 3 := by decide +kernel
theorem vr_110 : vrc 110 = some (6, 0) := by decide +kernel
theorem vr_111 : vrc 111 = some (6, 1) := by decide +kernel
theorem c110_0 : vlk 110 0 = some (6, 0, 0, 0, 1) := by decide +kernel
theorem c110_1 : vlk 110 1 = some (42, 6, 11, 0, 4) := by decide +kernel
theorem c110_4 : vlk 110 4 = some (6, 0, 0, 0, 5) := by decide +kernel
theorem c110_5 : vlk 110 5 = some (42, 6, 10, 0, 8) := by decide +kernel
theorem c110_8 : vlk 110 8 = some (79, 23, 0, 0, 11) := by decide +kernel
theorem c110_11 : vlk 110 11 = some (6, 0, 0, 0, 12) := by decide +kernel
theorem c110_12 : vlk 110 12 = some (42, 6, 9, 0, 15) := by decide +kernel
theorem c110_15 : vlk 110 15 = some (6, 0, 0, 0, 16) := by decide +kernel
theorem c110_16 : vlk 110 16 = some (42, 6, 11, 0, 19) := by decide +kernel
theorem c110_19 : vlk 110 19 = some (45, 0, 0, 0, 20) := by decide +kernel
theorem c110_20 : vlk 110 20 = some (37, 24, 0, 0, 23) := by decide +kernel
theorem c110_23 : vlk 110 23 = some (1, 0, 0, 0, 24) := by decide +kernel
theorem c110_24 : vlk 110 24 = some (63, 0, 0, 0, 25) := by decide +kernel
theorem c111_0 : vlk 111 0 = some (6, 0, 0, 0, 1) := by decide +kernel
theorem c111_1 : vlk 111 1 = some (42, 6, 12, 0, 4) := by decide +kernel
theorem c111_7 : vlk 111 7 = some (6, 0, 0, 0, 8) := by decide +kernel
theorem c111_8 : vlk 111 8 = some (58, 110, 0, 0, 11) := by decide +kernel
theorem c111_11 : vlk 111 11 = some (4, 1, 0, 0, 12) := by decide +kernel
theorem c111_12 : vlk 111 12 = some (77, 19, 0, 0, 15) := by decide +kernel
theorem c111_15 : vlk 111 15 = some (1, 0, 0, 1, 16) := by decide +kernel
theorem c111_16 : vlk 111 16 = some (37, 20, 0, 0, 19) := by decide +kernel
theorem c111_19 : vlk 111 19 = some (1, 0, 0, 0, 20) := by decide +kernel
theorem c111_20 : vlk 111 20 = some (63, 1, 0, 0, 21) := by decide +kernel
theorem c112_0 : vlk 112 0 = some (6, 0, 0, 0, 1) := by decide +kernel
theorem c112_1 : vlk 112 1 = some (4, 1, 0, 0, 2) := by decide +kernel
theorem c112_2 : vlk 112 2 = some (58, 111, 0, 0, 5) := by decide +kernel
theorem c112_5 : vlk 112 5 = some (70, 21, 0, 0, 8) := by decide +kernel
theorem c112_8 : vlk 112 8 = some (6, 0, 0, 0, 9) := by decide +kernel
theorem c112_9 : vlk 112 9 = some (34, 0, 0, 0, 10) := by decide +kernel
theorem c112_10 : vlk 112 10 = some (42, 6, 11, 0, 13) := by decide +kernel
theorem c112_13 : vlk 112 13 = some (1, 0, 0, 1, 14) := by decide +kernel
theorem c112_14 : vlk 112 14 = some (11, 0, 0, 0, 15) := by decide +kernel
theorem c112_15 : vlk 112 15 = some (43, 6, 11, 0, 18) := by decide +kernel
theorem c112_18 : vlk 112 18 = some (37, 26, 0, 0, 21) := by decide +kernel
theorem c112_21 : vlk 112 21 = some (6, 0, 0, 0, 22) := by decide +kernel
theorem c112_22 : vlk 112 22 = some (1, 0, 0, 0, 23) := by decide +kernel
theorem c112_23 : vlk 112 23 = some (43, 6, 12, 0, 26) := by decide +kernel
theorem c112_26 : vlk 112 26 = some (66, 0, 0, 0, 27) := by decide +kernel
theorem c114_0 : vlk 114 0 = some (1, 0, 0, 720, 3) := by decide +kernel
theorem c114_3 : vlk 114 3 = some (6, 0, 0, 0, 4) := by decide +kernel
theorem c114_4 : vlk 114 4 = some (42, 6, 14, 0, 7) := by decide +kernel
theorem c114_7 : vlk 114 7 = some (13, 0, 0, 0, 8) := by decide +kernel
theorem c114_8 : vlk 114 8 = some (7, 1, 0, 0, 9) := by decide +kernel
theorem c114_9 : vlk 114 9 = some (6, 0, 0, 0, 10) := by decide +kernel
theorem c114_10 : vlk 114 10 = some (34, 0, 0, 0, 11) := by decide +kernel
theorem c114_11 : vlk 114 11 = some (42, 6, 14, 0, 14) := by decide +kernel
theorem c114_14 : vlk 114 14 = some (1, 0, 0, 1, 15) := by decide +kernel
theorem c114_15 : vlk 114 15 = some (11, 0, 0, 0, 16) := by decide +kernel
theorem c114_16 : vlk 114 16 = some (43, 6, 14, 0, 19) := by decide +kernel
theorem c114_19 : vlk 114 19 = some (1, 0, 0, 0, 20) := by decide +kernel
theorem c114_20 : vlk 114 20 = some (7, 2, 0, 0, 21) := by decide +kernel
theorem c114_21 : vlk 114 21 = some (4, 2, 0, 0, 22) := by decide +kernel
theorem c114_22 : vlk 114 22 = some (1, 0, 0, 720, 25) := by decide +kernel
theorem c114_25 : vlk 114 25 = some (79, 43, 0, 0, 28) := by decide +kernel
theorem c114_28 : vlk 114 28 = some (6, 0, 0, 0, 29) := by decide +kernel
theorem c114_29 : vlk 114 29 = some (42, 6, 13, 0, 32) := by decide +kernel
theorem c114_32 : vlk 114 32 = some (4, 1, 0, 0, 33) := by decide +kernel
theorem c114_33 : vlk 114 33 = some (4, 2, 0, 0, 34) := by decide +kernel
theorem c114_34 : vlk 114 34 = some (11, 0, 0, 0, 35) := by decide +kernel
theorem c114_35 : vlk 114 35 = some (1, 0, 0, 0, 36) := by decide +kernel
theorem c114_36 : vlk 114 36 = some (51, 0, 0, 0, 37) := by decide +kernel
theorem c114_37 : vlk 114 37 = some (10, 2, 0, 1, 40) := by decide +kernel
theorem c114_40 : vlk 114 40 = some (37, 21, 0, 0, 43) := by decide +kernel
theorem c114_43 : vlk 114 43 = some (4, 1, 0, 0, 44) := by decide +kernel
theorem c114_44 : vlk 114 44 = some (63, 0, 0, 0, 45) := by decide +kernel
/-! the reference's object: its cells from c on; the reading's part of it -/
def vMF (c : Nat) (kp : Bool) (n a : Nat) (w : Bool) (tp sp : Nat) (hi mi : Int) : List Value := [.ref (c + 1), .ref (c + 2), .ref (c + 3), .ref (c + 4), .ref (c + 5), .ref (c + 6), .ref (c + 7), .ref (c + 8), .int (iI (vBi kp)), .ref (c + 9), .int (iI (n : Int)), .int (iI (a : Int)), .int (iI (vBi w)), .ref (c + 10), .int (iI (tp : Int)), .int (iI (sp : Int)), .ref (c + 11), .ref (c + 12), .ref (c + 13), .ref (c + 14), .int (iI hi), .int (iI mi), .ref (c + 15), .ref (c + 16), .ref (c + 17)]
abbrev vMX : Type := Bool × Nat × (Nat → Int) × Nat × Int × Int × vNmS
def vRp (h : vHp) (c : Nat) (X : vMX) (a : Nat) (w : Bool) (tp : Nat) (G : Nat → Bool) : Prop :=
  hg h c = some (.inr (6, vMF c X.1 X.2.1 a w tp X.2.2.2.1 X.2.2.2.2.1 X.2.2.2.2.2.1)) ∧ vBr h (c + 10) 36000 G ∧ hg h (c + 9) = some (.inl (0, 80, .inl X.2.2.1)) ∧
  (vBr h (c + 2) 7200 (vfl2 X.2.2.2.2.2.2.2.1) ∧ vBr h (c + 3) 7200 (vfl2 X.2.2.2.2.2.2.2.2.1) ∧ vBr h (c + 4) 7200 (vfl2 X.2.2.2.2.2.2.2.2.2)) ∧ h.1.1 ≤ c ∧ vTp X.2.1 X.2.2.1
def vZp (c q : Nat) : Prop := q = c ∨ q = c + 10
theorem vBr_fr {Z : Nat → Prop} {h h1 : vHp} {a n : Nat} {g : Nat → Bool} (hB : vBr h a n g) (f : vFr Z h h1) (nz : ¬ Z a) : vBr h1 a n g := by
  obtain ⟨p, p1, p2⟩ := hB
  exact ⟨p, (f.2.2 _ nz).trans p1, p2⟩
theorem vBr_st {h h1 : vHp} {a n k : Nat} {g : Nat → Bool} {f : Nat → Int} {y : Int} {b : Bool} (e : ∀ k, k < n → f k = vBi (g k)) (s : vSt h h1 a (.inl (2, n, .inl (vup f k y)))) (hy : y = vBi b) : vBr h1 a n (vup g k b) := by
  refine ⟨_, s.2.2.1, fun j hj => ?_⟩
  unfold vup
  by_cases q : j = k
  · rw [if_pos q, if_pos q, hy]
  · rw [if_neg q, if_neg q]; exact e j hj
theorem vRp_obj {h h1 : vHp} {c a a2 tp tp2 : Nat} {X : vMX} {w w2 : Bool} {G : Nat → Bool} (hM : vRp h c X a w tp G) (s : vSt h h1 c (.inr (6, vMF c X.1 X.2.1 a2 w2 tp2 X.2.2.2.1 X.2.2.2.2.1 X.2.2.2.2.2.1))) : vRp h1 c X a2 w2 tp2 G := by
  obtain ⟨a1, a2, a3, ⟨a4, a5, a6⟩, a7, a8⟩ := hM
  have f := vFr_st s
  exact ⟨s.2.2.1, vBr_fr a2 f (by omega), (f.2.2 _ (by omega)).trans a3, ⟨vBr_fr a4 f (by omega), vBr_fr a5 f (by omega), vBr_fr a6 f (by omega)⟩, by rw [f.1]; exact a7, a8⟩
theorem vRp_set {h h1 : vHp} {c a tp k : Nat} {X : vMX} {w b : Bool} {G : Nat → Bool} {f : Nat → Int} {y : Int} (hM : vRp h c X a w tp G) (e : ∀ k, k < 36000 → f k = vBi (G k)) (s : vSt h h1 (c + 10) (.inl (2, 36000, .inl (vup f k y)))) (hy : y = vBi b) : vRp h1 c X a w tp (vup G k b) := by
  obtain ⟨a1, a2, a3, ⟨a4, a5, a6⟩, a7, a8⟩ := hM
  have f := vFr_st s
  exact ⟨(f.2.2 _ (by omega)).trans a1, vBr_st e s hy, (f.2.2 _ (by omega)).trans a3, ⟨vBr_fr a4 f (by omega), vBr_fr a5 f (by omega), vBr_fr a6 f (by omega)⟩, by rw [f.1]; exact a7, a8⟩
theorem vRp_n {h : vHp} {c a tp : Nat} {X : vMX} {w : Bool} {G : Nat → Bool} (hM : vRp h c X a w tp G) : vMn h c X.2.2.2.2.2.2 :=
  ⟨_, c + 2, c + 3, c + 4, hM.1, rfl, rfl, rfl, hM.2.2.2.1.1, hM.2.2.2.1.2.1, hM.2.2.2.1.2.2⟩
theorem vZp_o {c : Nat} {h h1 : vHp} {v : vE} (s : vSt h h1 c v) : vFr (vZp c) h h1 := vFr_up (vFr_st s) (fun q e => Or.inl e)
theorem vZp_s {c : Nat} {h h1 : vHp} {v : vE} (s : vSt h h1 (c + 10) v) : vFr (vZp c) h h1 := vFr_up (vFr_st s) (fun q e => Or.inr e)
/-- a row of marks is filled from b on: i of them are there -/
def vfil (G0 G1 : Nat → Bool) (b : Nat) (S : vSt1) (i : Nat) : Prop := (∀ j, j < i → G1 (b + j) = S j) ∧ ∀ k, (k < b ∨ b + i ≤ k) → G1 k = G0 k
theorem vfil_0 {G : Nat → Bool} {b : Nat} {S : vSt1} : vfil G G b S 0 := ⟨fun j hj => absurd hj (by omega), fun _ _ => rfl⟩
theorem vfil_su {G0 G1 : Nat → Bool} {b i : Nat} {S : vSt1} {x : Bool} (hf : vfil G0 G1 b S i) (hx : x = S i) : vfil G0 (vup G1 (b + i) x) b S (i + 1) := by
  refine ⟨fun j hj => ?_, fun k hk => ?_⟩
  · unfold vup
    by_cases e : j = i
    · rw [if_pos (by omega), hx, e]
    · rw [if_neg (by omega)]; exact hf.1 j (by omega)
  · unfold vup
    rw [if_neg (by omega)]; exact hf.2 k (by omega)
def vpre (G G1 : Nat → Bool) (b : Nat) : Prop := ∀ k, k < b → G1 k = G k
theorem vfil_pre {G0 G1 : Nat → Bool} {b i : Nat} {S : vSt1} (hf : vfil G0 G1 b S i) : vpre G0 G1 b := fun k hk => hf.2 k (Or.inl hk)
theorem vpre_tr {G G1 G2 : Nat → Bool} {b b2 : Nat} (h1 : vpre G G1 b) (h2 : vpre G1 G2 b2) (e : b ≤ b2) : vpre G G2 b := fun k hk => (h2 k (by omega)).trans (h1 k hk)
theorem vmwf (b : Bool) : vfit 6 12 (.int (iI (vBi b))) := by cases b <;> exact ⟨rfl, rfl⟩
def vpe0 (n : Nat) (t : Nat → Int) (p : Nat) : Int := if p < n then t p else 0
theorem vpe0_rg {n : Nat} {t : Nat → Int} (h : vTp n t) (p : Nat) : 0 ≤ vpe0 n t p ∧ vpe0 n t p ≤ 127 := by
  unfold vpe0
  split
  · rename_i q; have := h.2 p q; omega
  · omega
theorem vpe0_ch {n : Nat} {t : Nat → Int} (p : Nat) (z : Int) (hz : 1 ≤ z) : vpe0 n t p = z ↔ vch n t p = z := by
  unfold vpe0 vch
  split
  · exact Iff.rfl
  · omega
theorem k_peek {d c a tp : Nat} {X : vMX} {w : Bool} {G : Nat → Bool} {h : vHp} {Q : vQ} (hM : vRp h c X a w tp G) (ha : a ≤ X.2.1) (k : Q (some (.int (iI (vpe0 X.2.1 X.2.2.1 a)))) h) : vCall (d + 1) 0 0 110 [.ref c] h Q := by
  obtain ⟨ho, -, ht, -, -, hT⟩ := hM
  have hn := hT.1
  unfold vpe0 at k
  refine vin 1 [_] ml_110 rfl rfl ?_
  refine r_aload c110_0 rfl (r_get c110_1 ho rfl (r_aload c110_4 rfl (r_get c110_5 ho rfl ?_)))
  refine r_icge c110_8 (by omega) (by omega) (by omega) (by omega) (fun c_8 => ?_) (fun c_8 => ?_)
  · rw [if_neg (by omega)] at k
    refine r_ci c110_23 ?_
    refine r_iret (st := []) c110_24 ?_
    exact k
  · rw [if_pos (by omega)] at k
    refine r_aload c110_11 rfl (r_get c110_12 ho rfl (r_aload c110_15 rfl (r_get c110_16 ho rfl (r_iald c110_19 ht (by omega) (by omega) (r_goto c110_20 ?_)))))
    refine r_iret (st := []) c110_24 ?_
    rw [Int.toNat_natCast]
    exact k
theorem k_isAt {d c a tp : Nat} {X : vMX} {w : Bool} {G : Nat → Bool} {z : Int} {h : vHp} {Q : vQ} (hM : vRp h c X a w tp G) (ha : a ≤ X.2.1) (z1 : 1 ≤ z) (z2 : z ≤ 127) (kT : w = true → vch X.2.1 X.2.2.1 a = z → Q (some (.int (iI 1))) h) (kF : ¬ (w = true ∧ vch X.2.1 X.2.2.1 a = z) → Q (some (.int (iI 0))) h) : vCall (d + 2) 0 0 111 [.ref c, .int (iI z)] h Q := by
  have hM0 := hM
  obtain ⟨ho, -, ht, -, -, hT⟩ := hM
  have rg := vpe0_rg hT a
  have no : ¬ (w = true ∧ vch X.2.1 X.2.2.1 a = z) → vW (vCall (d + 1)) 111 Q 19 [.ref c, .int (iI z)] [] h 0 0 := fun q => by
    refine r_ci c111_19 ?_
    refine r_zret (st := []) c111_20 (by omega) ?_
    exact kF q
  refine vin 2 [_, _] ml_111 rfl rfl ?_
  refine r_aload c111_0 rfl (r_get c111_1 ho rfl ?_)
  refine vife (by decide +kernel : vlk 111 4 = some (70, 19, 0, 0, 7)) (fun b => ?_) (fun b => ?_)
  · exact no (fun q => by rw [b] at q; exact absurd q.1 (by decide))
  · refine r_aload c111_7 rfl ?_
    refine r_iv0 c111_8 vr_110 ho rfl (k_peek hM0 ha ?_)
    dsimp only [vpush]
    refine r_iload c111_11 rfl ?_
    refine r_icne c111_12 (by omega) (by omega) (by omega) (by omega) (fun c_12 => ?_) (fun c_12 => ?_)
    · exact no (fun q => c_12 ((vpe0_ch a z z1).2 q.2))
    · refine r_ci c111_15 (r_goto c111_16 ?_)
      refine r_zret (st := []) c111_20 (by omega) ?_
      exact kT b ((vpe0_ch a z z1).1 c_12)
theorem k_takes {d c a tp : Nat} {X : vMX} {w : Bool} {G : Nat → Bool} {z : Int} {h : vHp} {Q : vQ} (hM : vRp h c X a w tp G) (ha : a ≤ X.2.1) (z1 : 1 ≤ z) (z2 : z ≤ 127) (kT : w = true → vch X.2.1 X.2.2.1 a = z → ∀ h', vRp h' c X (a + 1) true tp G → vFr (vZp c) h h' → Q none h') (kF : ¬ (w = true ∧ vch X.2.1 X.2.2.1 a = z) → ∀ h', vRp h' c X a false tp G → vFr (vZp c) h h' → Q none h') : vCall (d + 3) 0 0 112 [.ref c, .int (iI z)] h Q := by
  have hM0 := hM
  obtain ⟨ho, -, ht, -, hlo, hT⟩ := hM
  refine vin 2 [_, _] ml_112 rfl rfl ?_
  refine r_aload c112_0 rfl (r_iload c112_1 rfl ?_)
  refine r_iv1 c112_2 vr_111 ho rfl (k_isAt hM0 ha z1 z2 (fun e1 e2 => ?_) (fun e => ?_))
  · dsimp only [vpush]
    refine r_ifeq c112_5 (by omega) (by omega) (fun q => by exfalso; omega) (fun c_5 => ?_)
    refine r_aload c112_8 rfl (r_dup c112_9 rfl (r_get c112_10 ho rfl (r_ci c112_13 (r_iadd c112_14 ?_))))
    refine r_put c112_15 ho hlo rfl ⟨rfl, rfl⟩ (fun h2 s2 => ?_)
    rw [vsu] at s2
    refine r_goto c112_18 ?_
    refine r_vret (st := []) c112_26 ?_
    subst e1
    exact kT rfl e2 h2 (vRp_obj hM0 s2) (vZp_o s2)
  · dsimp only [vpush]
    refine r_ifeq c112_5 (by omega) (by omega) (fun c_5 => ?_) (fun q => by exfalso; omega)
    refine r_aload c112_21 rfl (r_ci c112_22 ?_)
    refine r_put c112_23 ho hlo rfl (vmwf false) (fun h2 s2 => ?_)
    refine r_vret (st := []) c112_26 ?_
    exact kF e h2 (vRp_obj hM0 s2) (vZp_o s2)
theorem k_fresh {d c a tp : Nat} {X : vMX} {w : Bool} {G : Nat → Bool} {h : vHp} {Q : vQ} (hM : vRp h c X a w tp G) (ht : tp + 1 ≤ 50) (k : ∀ h' G', vRp h' c X a w (tp + 1) G' → vpre G G' (720 * tp) → vFr (vZp c) h h' → Q (some (.int (iI ((720 * tp : Nat) : Int)))) h') : vCall (d + 1) 0 0 114 [.ref c] h Q := by
  have ho := hM.1
  have loop : ∀ u i : Nat, i + u = 720 → ∀ (h1 : vHp) (G1 : Nat → Bool), vRp h1 c X a w (tp + 1) G1 → vfil G G1 (720 * tp) (fun _ => false) i → vFr (vZp c) h h1 → vW (vCall d) 114 Q 21 [.ref c, .int (iI ((720 * tp : Nat) : Int)), .int (iI (i : Int))] [] h1 0 0 := by
    intro u
    induction u with
    | zero =>
      intro i hi h1 G1 hM1 hf f1
      refine r_iload c114_21 rfl (r_ci c114_22 ?_)
      refine r_icge c114_25 (by omega) (by omega) (by omega) (by omega) (fun c_25 => ?_) (fun q => by exfalso; omega)
      refine r_iload c114_43 rfl ?_
      refine r_iret (st := []) c114_44 ?_
      exact k h1 G1 hM1 (vfil_pre hf) f1
    | succ u ih =>
      intro i hi h1 G1 hM1 hf f1
      obtain ⟨g, g1, g2⟩ := hM1.2.1
      refine r_iload c114_21 rfl (r_ci c114_22 ?_)
      refine r_icge c114_25 (by omega) (by omega) (by omega) (by omega) (fun q => by exfalso; omega) (fun c_25 => ?_)
      refine r_aload c114_28 rfl (r_get c114_29 hM1.1 rfl (r_iload c114_32 rfl (r_iload c114_33 rfl (r_iadd c114_34 (r_ci c114_35 ?_)))))
      refine r_bast c114_36 g1 (Nat.le_add_right_of_le hM1.2.2.2.2.1) (by omega) (by omega) (by omega) (fun h2 s2 => ?_)
      refine r_iinc c114_37 rfl rfl (r_goto c114_40 ?_)
      try dsimp only [vst]
      rw [vsu]
      rw [show (((720 * tp : Nat) : Int) + (i : Int)).toNat = 720 * tp + i by omega] at s2
      exact ih (i + 1) (by omega) h2 _ (vRp_set hM1 g2 s2 (b := false) rfl) (vfil_su hf rfl) (vFr_tr f1 (vZp_s s2))
  refine vin 3 [_, _, _] ml_114 rfl rfl ?_
  refine r_ci c114_0 (r_aload c114_3 rfl (r_get c114_4 ho rfl (r_imul c114_7 (r_istore c114_8 rfl (r_aload c114_9 rfl (r_dup c114_10 rfl (r_get c114_11 ho rfl (r_ci c114_14 (r_iadd c114_15 ?_)))))))))
  try dsimp only [vst]
  refine r_put c114_16 ho hM.2.2.2.2.1 rfl ⟨rfl, rfl⟩ (fun h2 s2 => ?_)
  rw [vsu] at s2
  refine r_ci c114_19 (r_istore c114_20 rfl ?_)
  try dsimp only [vst]
  rw [show (720 : Int) * (tp : Int) = ((720 * tp : Nat) : Int) by omega]
  exact loop 720 0 rfl h2 G (vRp_obj hM s2) vfil_0 (vZp_o s2)

