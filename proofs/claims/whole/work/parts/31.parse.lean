theorem ml_42 : vml 42 = 1 := by decide +kernel
theorem ml_50 : vml 50 = 1 := by decide +kernel
theorem ml_51 : vml 51 = 1 := by decide +kernel
theorem ml_91 : vml 91 = 1 := by decide +kernel
theorem c42_0 : vlk 42 0 = some (4, 0, 0, 0, 1) := by decide +kernel
theorem c42_1 : vlk 42 1 = some (67, 1, 1, 0, 68) := by decide +kernel
theorem c42_68 : vlk 42 68 = some (1, 0, 0, 1, 69) := by decide +kernel
theorem c42_69 : vlk 42 69 = some (63, 1, 0, 0, 70) := by decide +kernel
theorem c42_70 : vlk 42 70 = some (1, 0, 0, 0, 71) := by decide +kernel
theorem c42_71 : vlk 42 71 = some (63, 1, 0, 0, 72) := by decide +kernel
theorem c50_0 : vlk 50 0 = some (4, 0, 0, 0, 1) := by decide +kernel
theorem c50_1 : vlk 50 1 = some (67, 2, 0, 0, 104) := by decide +kernel
theorem c50_104 : vlk 50 104 = some (1, 0, 0, 6, 106) := by decide +kernel
theorem c50_106 : vlk 50 106 = some (63, 0, 0, 0, 107) := by decide +kernel
theorem c50_107 : vlk 50 107 = some (1, 0, 0, 30, 109) := by decide +kernel
theorem c50_109 : vlk 50 109 = some (63, 0, 0, 0, 110) := by decide +kernel
theorem c50_110 : vlk 50 110 = some (1, 0, 0, 12, 112) := by decide +kernel
theorem c50_112 : vlk 50 112 = some (63, 0, 0, 0, 113) := by decide +kernel
theorem c50_113 : vlk 50 113 = some (1, 0, 0, 1, 114) := by decide +kernel
theorem c50_114 : vlk 50 114 = some (63, 0, 0, 0, 115) := by decide +kernel
theorem c50_115 : vlk 50 115 = some (1, 0, 0, 99, 117) := by decide +kernel
theorem c50_117 : vlk 50 117 = some (63, 0, 0, 0, 118) := by decide +kernel
theorem c50_118 : vlk 50 118 = some (1, 0, 0, 719, 121) := by decide +kernel
theorem c50_121 : vlk 50 121 = some (63, 0, 0, 0, 122) := by decide +kernel
theorem c51_0 : vlk 51 0 = some (4, 0, 0, 0, 1) := by decide +kernel
theorem c51_1 : vlk 51 1 = some (67, 3, 1, 0, 36) := by decide +kernel
theorem c51_36 : vlk 51 36 = some (1, 0, 0, 0, 37) := by decide +kernel
theorem c51_37 : vlk 51 37 = some (63, 0, 0, 0, 38) := by decide +kernel
theorem c51_38 : vlk 51 38 = some (1, 0, 0, 1, 39) := by decide +kernel
theorem c51_39 : vlk 51 39 = some (63, 0, 0, 0, 40) := by decide +kernel
theorem c51_40 : vlk 51 40 = some (1, 0, 0, 2, 41) := by decide +kernel
theorem c51_41 : vlk 51 41 = some (63, 0, 0, 0, 42) := by decide +kernel
theorem c51_42 : vlk 51 42 = some (1, 0, 0, (-1), 43) := by decide +kernel
theorem c51_43 : vlk 51 43 = some (63, 0, 0, 0, 44) := by decide +kernel
theorem c91_0 : vlk 91 0 = some (4, 0, 0, 0, 1) := by decide +kernel
theorem c91_1 : vlk 91 1 = some (72, 16, 0, 0, 4) := by decide +kernel
theorem c91_4 : vlk 91 4 = some (4, 0, 0, 0, 5) := by decide +kernel
theorem c91_5 : vlk 91 5 = some (44, 0, 0, 0, 8) := by decide +kernel
theorem c91_8 : vlk 91 8 = some (53, 0, 0, 0, 9) := by decide +kernel
theorem c91_9 : vlk 91 9 = some (79, 16, 0, 0, 12) := by decide +kernel
theorem c91_12 : vlk 91 12 = some (1, 0, 0, 1, 13) := by decide +kernel
theorem c91_13 : vlk 91 13 = some (37, 17, 0, 0, 16) := by decide +kernel
theorem c91_16 : vlk 91 16 = some (1, 0, 0, 0, 17) := by decide +kernel
theorem c91_17 : vlk 91 17 = some (63, 1, 0, 0, 18) := by decide +kernel
/-! what a text tells: the reading, as a function -/
abbrev vSt1 : Type := Nat → Bool
abbrev vPr : Type := Nat × Option vSt1
/-- goes on where a set was read -/
def vth (r : vPr) (g : Nat → vSt1 → vPr) : vPr := match r.2 with
  | none => (r.1, none)
  | some S => g r.1 S
def vmo (c : Int) : Int := if c = 119 then 6 else if c = 100 then 30 else if c = 109 then 12 else if c = 121 then 1 else if c = 110 ∨ c = 108 ∨ c = 112 then 99 else 719
def vbo (c : Int) : Int := if c = 119 then 0 else if c = 109 then 1 else if c = 121 then 2 else -1
def vbL (b : Int) : Nat := if b = 0 then 7 else if b = 1 then 30 else 360
def vhb (c : Int) : Prop := c = 40 ∨ c = 98 ∨ c = 108 ∨ c = 110 ∨ c = 112 ∨ c = 115 ∨ c = 120
def vun (c : Int) (z d : Nat) : Bool := if c = 119 then decide (d % 7 = z) else if c = 100 then decide (d % 30 + 1 = z) else if c = 109 then decide (d / 30 % 12 + 1 = z) else decide (d / 360 = z)
def vpq (c : Int) (a b d : Nat) : Bool := if c = 101 then decide (b ≤ d ∧ (d - b) % a = 0) else decide (a ≤ d ∧ d ≤ b)
def vbs (c : Int) (L : Nat) (k : Int) (T : vSt1) (d : Nat) : Bool := vob T L (if c = 110 then k - 1 else -k) 720 d
def vcs (c : Int) (k : Int) (T : vSt1) (d : Nat) : Bool := if c = 115 then vmv T k 720 d else if c = 98 then vmv T (-k) 720 d else if c = 112 then vnt T k.toNat 720 d else T d && !decide ((d : Int) = vpk T 0 719 k)
/-- (E) -/
def vbr (n : Nat) (t : Nat → Int) (f : Nat → vPr) (p : Nat) : vPr := if vch n t p = 40 then vth (f (p + 1)) (fun q S => if vch n t q = 41 then (q + 1, some S) else (q, none)) else (p, none)
def vpu (n : Nat) (t : Nat → Int) (c : Int) (p : Nat) : vPr := if (vnm n t (if c = 119 ∨ c = 121 then 0 else 1) (vmo c) p).2 = -1 then ((vnm n t (if c = 119 ∨ c = 121 then 0 else 1) (vmo c) p).1, none) else ((vnm n t (if c = 119 ∨ c = 121 then 0 else 1) (vmo c) p).1, some (vun c (vnm n t (if c = 119 ∨ c = 121 then 0 else 1) (vmo c) p).2.toNat))
def vpp2 (n : Nat) (t : Nat → Int) (c : Int) (a : Int) (p : Nat) : vPr := if (vnm n t (if c = 101 then 0 else a) 719 p).2 = -1 then ((vnm n t (if c = 101 then 0 else a) 719 p).1, none) else ((vnm n t (if c = 101 then 0 else a) 719 p).1, some (vpq c a.toNat (vnm n t (if c = 101 then 0 else a) 719 p).2.toNat))
def vpp (n : Nat) (t : Nat → Int) (c : Int) (p : Nat) : vPr := if (vnm n t (if c = 101 then 1 else 0) 719 p).2 = -1 then ((vnm n t (if c = 101 then 1 else 0) 719 p).1, none) else if vch n t (vnm n t (if c = 101 then 1 else 0) 719 p).1 = 44 then vpp2 n t c (vnm n t (if c = 101 then 1 else 0) 719 p).2 ((vnm n t (if c = 101 then 1 else 0) 719 p).1 + 1) else ((vnm n t (if c = 101 then 1 else 0) 719 p).1, none)
def vpb (n : Nat) (t : Nat → Int) (f : Nat → vPr) (c : Int) (p : Nat) : vPr := if (vnm n t 1 99 p).2 = -1 then ((vnm n t 1 99 p).1, none) else if vbo (vch n t (vnm n t 1 99 p).1) < 0 then ((vnm n t 1 99 p).1, none) else vth (vbr n t f ((vnm n t 1 99 p).1 + 1)) (fun q T => (q, some (vbs c (vbL (vbo (vch n t (vnm n t 1 99 p).1))) (vnm n t 1 99 p).2 T)))
def vpc (n : Nat) (t : Nat → Int) (f : Nat → vPr) (c : Int) (p : Nat) : vPr := if (vnm n t (if c = 120 then 0 else 1) (vmo c) p).2 = -1 then ((vnm n t (if c = 120 then 0 else 1) (vmo c) p).1, none) else vth (vbr n t f (vnm n t (if c = 120 then 0 else 1) (vmo c) p).1) (fun q T => (q, some (vcs c (vnm n t (if c = 120 then 0 else 1) (vmo c) p).2 T)))
/-- a factor without ! -/
def vpn (n : Nat) (t : Nat → Int) (D : Nat → vSt1) (f : Option (Nat → vPr)) (p : Nat) : vPr := match f with
  | none => if vch n t p = 40 ∨ vch n t p = 98 ∨ vch n t p = 108 ∨ vch n t p = 110 ∨ vch n t p = 112 ∨ vch n t p = 115 ∨ vch n t p = 120 then (p, none) else if 65 ≤ vch n t p ∧ vch n t p ≤ 74 then (p + 1, some (D (vch n t p - 65).toNat)) else if vch n t p = 119 ∨ vch n t p = 100 ∨ vch n t p = 109 ∨ vch n t p = 121 then vpu n t (vch n t p) (p + 1) else if vch n t p = 101 ∨ vch n t p = 114 then vpp n t (vch n t p) (p + 1) else (p, none)
  | some f => if vch n t p = 40 then vbr n t f p else if 65 ≤ vch n t p ∧ vch n t p ≤ 74 then (p + 1, some (D (vch n t p - 65).toNat)) else if vch n t p = 119 ∨ vch n t p = 100 ∨ vch n t p = 109 ∨ vch n t p = 121 then vpu n t (vch n t p) (p + 1) else if vch n t p = 101 ∨ vch n t p = 114 then vpp n t (vch n t p) (p + 1) else if vch n t p = 110 ∨ vch n t p = 108 then vpb n t f (vch n t p) (p + 1) else if vch n t p = 115 ∨ vch n t p = 98 ∨ vch n t p = 112 ∨ vch n t p = 120 then vpc n t f (vch n t p) (p + 1) else (p, none)
def vpf (n : Nat) (t : Nat → Int) (D : Nat → vSt1) (f : Option (Nat → vPr)) (p : Nat) : vPr := if vch n t p = 33 then vth (vpn n t D f (p + 1)) (fun q S => (q, some (fun d => !S d))) else vpn n t D f p
def vpd (n : Nat) (t : Nat → Int) (F : Nat → vPr) : Nat → vSt1 → Nat → vPr
  | 0, _, p => (p, none)
  | u + 1, A, p => vth (F p) (fun q S => if vch n t q = 38 then vpd n t F u (fun d => A d && S d) (q + 1) else (q, some (fun d => A d && S d)))
def vpz (n : Nat) (t : Nat → Int) (F : Nat → vPr) : Nat → Bool → vSt1 → Nat → vPr
  | 0, _, _, p => (p, none)
  | u + 1, w, A, p => vth (F p) (fun q S => if vch n t q = 47 then vpz n t F u true (fun d => if w = true then A d && !S d else A d || S d) (q + 1) else if vch n t q = 124 then vpz n t F u false (fun d => if w = true then A d && !S d else A d || S d) (q + 1) else (q, some (fun d => if w = true then A d && !S d else A d || S d)))
/-- E within 5 - e brackets -/
def vex (n : Nat) (t : Nat → Int) (D : Nat → vSt1) : Nat → Nat → vPr
  | 0, p => vpz n t (vpd n t (vpf n t D none) 81 (fun _ => true)) 81 false (fun _ => false) p
  | e + 1, p => vpz n t (vpd n t (vpf n t D (some (vex n t D e))) 81 (fun _ => true)) 81 false (fun _ => false) p
theorem k_hasBracket {d : Nat} {c : Int} {h : vHp} {Q : vQ} (h1 : -1000 ≤ c) (h2 : c ≤ 1000) (kT : vhb c → Q (some (.int (iI 1))) h) (kF : ¬ vhb c → Q (some (.int (iI 0))) h) : vCall (d + 1) 0 0 42 [.int (iI c)] h Q := by
  refine vin 1 [_] ml_42 rfl rfl ?_
  refine r_iload c42_0 rfl ?_
  refine r_sw c42_1 rfl (by omega) (by omega) ?_
  by_cases q : vhb c
  · have e : vfd [(40, 68), (98, 68), (108, 68), (110, 68), (112, 68), (115, 68), (120, 68)] 70 c = 68 := by
      rcases q with rfl | rfl | rfl | rfl | rfl | rfl | rfl <;> rfl
    rw [e]
    refine r_ci c42_68 ?_
    refine r_zret (st := []) c42_69 (by omega) ?_
    exact kT q
  · have e : vfd [(40, 68), (98, 68), (108, 68), (110, 68), (112, 68), (115, 68), (120, 68)] 70 c = 70 := by
      unfold vhb at q
      simp only [vfd]
      rw [if_neg (by omega), if_neg (by omega), if_neg (by omega), if_neg (by omega), if_neg (by omega), if_neg (by omega), if_neg (by omega)]
    rw [e]
    refine r_ci c42_70 ?_
    refine r_zret (st := []) c42_71 (by omega) ?_
    exact kF q
theorem k_blockOf {d : Nat} {c : Int} {h : vHp} {Q : vQ} (h1 : -1000 ≤ c) (h2 : c ≤ 1000) (k : Q (some (.int (iI (vbo c)))) h) : vCall (d + 1) 0 0 51 [.int (iI c)] h Q := by
  refine vin 1 [_] ml_51 rfl rfl ?_
  refine r_iload c51_0 rfl ?_
  refine r_sw c51_1 rfl (by omega) (by omega) ?_
  unfold vbo at k
  by_cases e1 : c = 119
  · subst e1
    refine r_ci c51_36 ?_
    refine r_iret (st := []) c51_37 ?_
    exact k
  · by_cases e2 : c = 109
    · subst e2
      refine r_ci c51_38 ?_
      refine r_iret (st := []) c51_39 ?_
      exact k
    · by_cases e3 : c = 121
      · subst e3
        refine r_ci c51_40 ?_
        refine r_iret (st := []) c51_41 ?_
        exact k
      · have e : vfd [(109, 38), (119, 36), (121, 40)] 42 c = 42 := by
          simp only [vfd]
          rw [if_neg e2, if_neg e1, if_neg e3]
        rw [e]
        refine r_ci c51_42 ?_
        refine r_iret (st := []) c51_43 ?_
        rw [if_neg e1, if_neg e2, if_neg e3] at k
        exact k
theorem k_mostOf {d : Nat} {c : Int} {h : vHp} {Q : vQ} (h1 : -1000 ≤ c) (h2 : c ≤ 1000) (k : Q (some (.int (iI (vmo c)))) h) : vCall (d + 1) 0 0 50 [.int (iI c)] h Q := by
  refine vin 1 [_] ml_50 rfl rfl ?_
  refine r_iload c50_0 rfl ?_
  refine r_sw c50_1 rfl (by omega) (by omega) ?_
  unfold vmo at k
  by_cases e1 : c = 119
  · subst e1
    refine r_ci c50_104 ?_
    refine r_iret (st := []) c50_106 ?_
    exact k
  · by_cases e2 : c = 100
    · subst e2
      refine r_ci c50_107 ?_
      refine r_iret (st := []) c50_109 ?_
      exact k
    · by_cases e3 : c = 109
      · subst e3
        refine r_ci c50_110 ?_
        refine r_iret (st := []) c50_112 ?_
        exact k
      · by_cases e4 : c = 121
        · subst e4
          refine r_ci c50_113 ?_
          refine r_iret (st := []) c50_114 ?_
          exact k
        · by_cases e5 : c = 110 ∨ c = 108 ∨ c = 112
          · rw [if_neg e1, if_neg e2, if_neg e3, if_neg e4, if_pos e5] at k
            have e : vfd [(100, 107), (101, 118), (102, 118), (103, 118), (104, 118), (105, 118), (106, 118), (107, 118), (108, 115), (109, 110), (110, 115), (111, 118), (112, 115), (113, 118), (114, 118), (115, 118), (116, 118), (117, 118), (118, 118), (119, 104), (120, 118), (121, 113)] 118 c = 115 := by
              rcases e5 with rfl | rfl | rfl <;> rfl
            rw [e]
            refine r_ci c50_115 ?_
            refine r_iret (st := []) c50_117 ?_
            exact k
          · rw [if_neg e1, if_neg e2, if_neg e3, if_neg e4, if_neg e5] at k
            have e : vfd [(100, 107), (101, 118), (102, 118), (103, 118), (104, 118), (105, 118), (106, 118), (107, 118), (108, 115), (109, 110), (110, 115), (111, 118), (112, 115), (113, 118), (114, 118), (115, 118), (116, 118), (117, 118), (118, 118), (119, 104), (120, 118), (121, 113)] 118 c = 118 := by
              have a1 : ¬ c = 110 := fun q => e5 (Or.inl q)
              have a2 : ¬ c = 108 := fun q => e5 (Or.inr (Or.inl q))
              have a3 : ¬ c = 112 := fun q => e5 (Or.inr (Or.inr q))
              simp only [vfd, if_neg e1, if_neg e2, if_neg e3, if_neg e4, if_neg a1, if_neg a2, if_neg a3, ite_self]
            rw [e]
            refine r_ci c50_118 ?_
            refine r_iret (st := []) c50_121 ?_
            exact k
/-- the row of the blocks' lengths -/
def vBk (h : vHp) : Prop := (∃ f, hg h h.1.2 = some (.inl (0, 3, .inl f)) ∧ f 0 = 7 ∧ f 1 = 30 ∧ f 2 = 360) ∧ h.1.2 < h.1.1
theorem vBk_fr {X : Nat → Prop} {h h1 : vHp} (hB : vBk h) (f : vFr X h h1) (nx : ∀ q, X q → h.1.1 ≤ q) : vBk h1 := by
  obtain ⟨⟨g, g1, g2⟩, g3⟩ := hB
  unfold vBk
  rw [f.1]
  exact ⟨⟨g, (f.2.2 _ (fun q => by have := nx _ q; omega)).trans g1, g2⟩, g3⟩
theorem k_isBlock {d : Nat} {z : Int} {h : vHp} {Q : vQ} (hB : vBk h) (h1 : -2147483648 ≤ z) (h2 : z ≤ 2147483647) (kT : 0 ≤ z → z < 3 → Q (some (.int (iI 1))) h) (kF : (z < 0 ∨ 3 ≤ z) → Q (some (.int (iI 0))) h) : vCall (d + 1) 0 0 91 [.int (iI z)] h Q := by
  obtain ⟨⟨f, hf, -⟩, -⟩ := hB
  refine vin 1 [_] ml_91 rfl rfl ?_
  refine r_iload c91_0 rfl ?_
  refine r_iflt c91_1 (by omega) (by omega) (fun c_1 => ?_) (fun c_1 => ?_)
  · refine r_ci c91_16 ?_
    refine r_zret (st := []) c91_17 (by omega) ?_
    exact kF (Or.inl c_1)
  · refine r_iload c91_4 rfl (r_gets c91_5 (r_alen c91_8 hf ?_))
    refine r_icge c91_9 (by omega) (by omega) (by omega) (by omega) (fun c_9 => ?_) (fun c_9 => ?_)
    · refine r_ci c91_16 ?_
      refine r_zret (st := []) c91_17 (by omega) ?_
      exact kF (Or.inr (by omega))
    · refine r_ci c91_12 (r_goto c91_13 ?_)
      refine r_zret (st := []) c91_17 (by omega) ?_
      exact kT c_1 (by omega)

