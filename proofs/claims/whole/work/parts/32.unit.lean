theorem ml_43 : vml 43 = 5 := by decide +kernel
theorem vr_13 : vrc 13 = some (0, 2) := by decide +kernel
theorem vr_14 : vrc 14 = some (0, 2) := by decide +kernel
theorem vr_49 : vrc 49 = some (3, 2) := by decide +kernel
theorem vr_50 : vrc 50 = some (3, 1) := by decide +kernel
theorem c43_0 : vlk 43 0 = some (4, 1, 0, 0, 1) := by decide +kernel
theorem c43_1 : vlk 43 1 = some (1, 0, 0, 119, 3) := by decide +kernel
theorem c43_3 : vlk 43 3 = some (76, 12, 0, 0, 6) := by decide +kernel
theorem c43_6 : vlk 43 6 = some (4, 1, 0, 0, 7) := by decide +kernel
theorem c43_7 : vlk 43 7 = some (1, 0, 0, 121, 9) := by decide +kernel
theorem c43_9 : vlk 43 9 = some (77, 16, 0, 0, 12) := by decide +kernel
theorem c43_12 : vlk 43 12 = some (1, 0, 0, 0, 13) := by decide +kernel
theorem c43_13 : vlk 43 13 = some (37, 17, 0, 0, 16) := by decide +kernel
theorem c43_16 : vlk 43 16 = some (1, 0, 0, 1, 17) := by decide +kernel
theorem c43_17 : vlk 43 17 = some (7, 3, 0, 0, 18) := by decide +kernel
theorem c43_18 : vlk 43 18 = some (6, 0, 0, 0, 19) := by decide +kernel
theorem c43_19 : vlk 43 19 = some (4, 3, 0, 0, 20) := by decide +kernel
theorem c43_20 : vlk 43 20 = some (4, 1, 0, 0, 21) := by decide +kernel
theorem c43_21 : vlk 43 21 = some (59, 50, 0, 0, 24) := by decide +kernel
theorem c43_24 : vlk 43 24 = some (58, 49, 0, 0, 27) := by decide +kernel
theorem c43_27 : vlk 43 27 = some (7, 4, 0, 0, 29) := by decide +kernel
theorem c43_29 : vlk 43 29 = some (4, 4, 0, 0, 31) := by decide +kernel
theorem c43_31 : vlk 43 31 = some (1, 0, 0, (-1), 32) := by decide +kernel
theorem c43_32 : vlk 43 32 = some (77, 37, 0, 0, 35) := by decide +kernel
theorem c43_35 : vlk 43 35 = some (1, 0, 0, 0, 36) := by decide +kernel
theorem c43_36 : vlk 43 36 = some (63, 1, 0, 0, 37) := by decide +kernel
theorem c43_37 : vlk 43 37 = some (6, 2, 0, 0, 38) := by decide +kernel
theorem c43_38 : vlk 43 38 = some (58, 4, 0, 0, 41) := by decide +kernel
theorem c43_41 : vlk 43 41 = some (4, 1, 0, 0, 42) := by decide +kernel
theorem c43_42 : vlk 43 42 = some (1, 0, 0, 119, 44) := by decide +kernel
theorem c43_44 : vlk 43 44 = some (77, 58, 0, 0, 47) := by decide +kernel
theorem c43_47 : vlk 43 47 = some (6, 2, 0, 0, 48) := by decide +kernel
theorem c43_48 : vlk 43 48 = some (1, 0, 0, 7, 50) := by decide +kernel
theorem c43_50 : vlk 43 50 = some (4, 4, 0, 0, 52) := by decide +kernel
theorem c43_52 : vlk 43 52 = some (58, 14, 0, 0, 55) := by decide +kernel
theorem c43_55 : vlk 43 55 = some (37, 152, 0, 0, 58) := by decide +kernel
theorem c43_58 : vlk 43 58 = some (4, 1, 0, 0, 59) := by decide +kernel
theorem c43_59 : vlk 43 59 = some (1, 0, 0, 100, 61) := by decide +kernel
theorem c43_61 : vlk 43 61 = some (77, 77, 0, 0, 64) := by decide +kernel
theorem c43_64 : vlk 43 64 = some (6, 2, 0, 0, 65) := by decide +kernel
theorem c43_65 : vlk 43 65 = some (1, 0, 0, 30, 67) := by decide +kernel
theorem c43_67 : vlk 43 67 = some (4, 4, 0, 0, 69) := by decide +kernel
theorem c43_69 : vlk 43 69 = some (1, 0, 0, 1, 70) := by decide +kernel
theorem c43_70 : vlk 43 70 = some (12, 0, 0, 0, 71) := by decide +kernel
theorem c43_71 : vlk 43 71 = some (58, 14, 0, 0, 74) := by decide +kernel
theorem c43_74 : vlk 43 74 = some (37, 152, 0, 0, 77) := by decide +kernel
theorem c43_77 : vlk 43 77 = some (4, 1, 0, 0, 78) := by decide +kernel
theorem c43_78 : vlk 43 78 = some (1, 0, 0, 109, 80) := by decide +kernel
theorem c43_80 : vlk 43 80 = some (77, 132, 0, 0, 83) := by decide +kernel
theorem c43_83 : vlk 43 83 = some (6, 2, 0, 0, 84) := by decide +kernel
theorem c43_84 : vlk 43 84 = some (1, 0, 0, 30, 86) := by decide +kernel
theorem c43_86 : vlk 43 86 = some (4, 4, 0, 0, 88) := by decide +kernel
theorem c43_88 : vlk 43 88 = some (13, 0, 0, 0, 89) := by decide +kernel
theorem c43_89 : vlk 43 89 = some (1, 0, 0, 30, 91) := by decide +kernel
theorem c43_91 : vlk 43 91 = some (12, 0, 0, 0, 92) := by decide +kernel
theorem c43_92 : vlk 43 92 = some (1, 0, 0, 30, 94) := by decide +kernel
theorem c43_94 : vlk 43 94 = some (4, 4, 0, 0, 96) := by decide +kernel
theorem c43_96 : vlk 43 96 = some (13, 0, 0, 0, 97) := by decide +kernel
theorem c43_97 : vlk 43 97 = some (1, 0, 0, 1, 98) := by decide +kernel
theorem c43_98 : vlk 43 98 = some (12, 0, 0, 0, 99) := by decide +kernel
theorem c43_99 : vlk 43 99 = some (58, 13, 0, 0, 102) := by decide +kernel
theorem c43_102 : vlk 43 102 = some (6, 2, 0, 0, 103) := by decide +kernel
theorem c43_103 : vlk 43 103 = some (1, 0, 0, 360, 106) := by decide +kernel
theorem c43_106 : vlk 43 106 = some (1, 0, 0, 30, 108) := by decide +kernel
theorem c43_108 : vlk 43 108 = some (4, 4, 0, 0, 110) := by decide +kernel
theorem c43_110 : vlk 43 110 = some (13, 0, 0, 0, 111) := by decide +kernel
theorem c43_111 : vlk 43 111 = some (11, 0, 0, 0, 112) := by decide +kernel
theorem c43_112 : vlk 43 112 = some (1, 0, 0, 30, 114) := by decide +kernel
theorem c43_114 : vlk 43 114 = some (12, 0, 0, 0, 115) := by decide +kernel
theorem c43_115 : vlk 43 115 = some (1, 0, 0, 360, 118) := by decide +kernel
theorem c43_118 : vlk 43 118 = some (1, 0, 0, 30, 120) := by decide +kernel
theorem c43_120 : vlk 43 120 = some (4, 4, 0, 0, 122) := by decide +kernel
theorem c43_122 : vlk 43 122 = some (13, 0, 0, 0, 123) := by decide +kernel
theorem c43_123 : vlk 43 123 = some (11, 0, 0, 0, 124) := by decide +kernel
theorem c43_124 : vlk 43 124 = some (1, 0, 0, 1, 125) := by decide +kernel
theorem c43_125 : vlk 43 125 = some (12, 0, 0, 0, 126) := by decide +kernel
theorem c43_126 : vlk 43 126 = some (58, 13, 0, 0, 129) := by decide +kernel
theorem c43_129 : vlk 43 129 = some (37, 152, 0, 0, 132) := by decide +kernel
theorem c43_132 : vlk 43 132 = some (6, 2, 0, 0, 133) := by decide +kernel
theorem c43_133 : vlk 43 133 = some (1, 0, 0, 360, 136) := by decide +kernel
theorem c43_136 : vlk 43 136 = some (4, 4, 0, 0, 138) := by decide +kernel
theorem c43_138 : vlk 43 138 = some (13, 0, 0, 0, 139) := by decide +kernel
theorem c43_139 : vlk 43 139 = some (1, 0, 0, 360, 142) := by decide +kernel
theorem c43_142 : vlk 43 142 = some (4, 4, 0, 0, 144) := by decide +kernel
theorem c43_144 : vlk 43 144 = some (13, 0, 0, 0, 145) := by decide +kernel
theorem c43_145 : vlk 43 145 = some (1, 0, 0, 359, 148) := by decide +kernel
theorem c43_148 : vlk 43 148 = some (11, 0, 0, 0, 149) := by decide +kernel
theorem c43_149 : vlk 43 149 = some (58, 13, 0, 0, 152) := by decide +kernel
theorem c43_152 : vlk 43 152 = some (1, 0, 0, 1, 153) := by decide +kernel
theorem c43_153 : vlk 43 153 = some (63, 1, 0, 0, 154) := by decide +kernel
/-! Reader: what it is as a whole; units and pairs -/
def vRz (h : vHp) (r : Nat) (t : Nat → Int) : Prop := vRy h r t ∧ (∃ p, hg h (r + 2) = some (.inl (4, 6, .inr p)) ∧ ∀ i, i < 6 → p i = some (r + 5 + 2 * (3 * i))) ∧ (∃ p, hg h (r + 3) = some (.inl (4, 6, .inr p)) ∧ ∀ i, i < 6 → p i = some (r + 5 + 2 * (3 * i + 1))) ∧ ∃ p, hg h (r + 4) = some (.inl (4, 6, .inr p)) ∧ ∀ i, i < 6 → p i = some (r + 5 + 2 * (3 * i + 2))
def vRk (h : vHp) (r : Nat) : Prop := ∀ j, j < 18 → ∃ S, vDy h (r + 5 + 2 * j) S
def vPn (h : vHp) (pr : Nat) (pa : Nat → Nat) (D : Nat → vSt1) : Prop := (∃ p, hg h pr = some (.inl (3, 10, .inr p)) ∧ ∀ i, i < 10 → p i = some (pa i)) ∧ ∀ i, i < 10 → (∃ fs, hg h (pa i) = some (.inr (2, fs)) ∧ vgt fs 4 = some (.ref (pa i + 7))) ∧ vDy h (pa i + 7) (D i)
def vAw (r pr : Nat) (pa : Nat → Nat) : Prop := (pr < r ∨ r + 41 ≤ pr) ∧ ∀ i, i < 10 → pa i + 9 ≤ r ∨ r + 41 ≤ pa i
def vPx (h : vHp) (r n : Nat) (t : Nat → Int) (pr : Nat) (pa : Nat → Nat) (D : Nat → vSt1) (pl : Nat) : Prop := vRo h r n pl ∧ vRz h r t ∧ vRk h r ∧ vPn h pr pa D ∧ vBk h ∧ h.1.1 ≤ r ∧ vTp n t ∧ vAw r pr pa
theorem vRz_fr {X : Nat → Prop} {h h1 : vHp} {r : Nat} {t : Nat → Int} (hR : vRz h r t) (f : vFr X h h1) (nx : ∀ q, r < q → q < r + 5 → ¬ X q) : vRz h1 r t := by
  obtain ⟨a, ⟨p, p1, p2⟩, ⟨u, u1, u2⟩, v, v1, v2⟩ := hR
  exact ⟨(f.2.2 _ (nx _ (by omega) (by omega))).trans a, ⟨p, (f.2.2 _ (nx _ (by omega) (by omega))).trans p1, p2⟩, ⟨u, (f.2.2 _ (nx _ (by omega) (by omega))).trans u1, u2⟩, v, (f.2.2 _ (nx _ (by omega) (by omega))).trans v1, v2⟩
theorem vPn_fr {X : Nat → Prop} {h h1 : vHp} {r pr : Nat} {pa : Nat → Nat} {D : Nat → vSt1} (hP : vPn h pr pa D) (hA : vAw r pr pa) (f : vFr X h h1) (nx : ∀ q, X q → r ≤ q ∧ q < r + 41) : vPn h1 pr pa D := by
  obtain ⟨⟨p, p1, p2⟩, p3⟩ := hP
  refine ⟨⟨p, (f.2.2 _ (fun q => by have := nx _ q; have := hA.1; omega)).trans p1, p2⟩, fun i hi => ?_⟩
  obtain ⟨⟨fs, f1, f2⟩, f3⟩ := p3 i hi
  have ha := hA.2 i hi
  exact ⟨⟨fs, (f.2.2 _ (fun q => by have := nx _ q; omega)).trans f1, f2⟩, vDy_fr f3 f (fun q => by have := nx _ q; omega) (fun q => by have := nx _ q; omega)⟩
theorem vPx_pl {r n pl pr : Nat} {t : Nat → Int} {pa : Nat → Nat} {D : Nat → vSt1} {h h1 : vHp} {p2 : Nat} (hP : vPx h r n t pr pa D pl) (ho : vRo h1 r n p2) (f : vFr (fun q => q = r) h h1) : vPx h1 r n t pr pa D p2 := by
  obtain ⟨a1, a2, a3, a4, a5, a6, a7, a8⟩ := hP
  refine ⟨ho, vRz_fr a2 f (fun q e1 e2 => by omega), fun j hj => ?_, vPn_fr a4 a8 f (fun q e => by omega), vBk_fr a5 f (fun q e => by omega), by rw [f.1]; exact a6, a7, a8⟩
  obtain ⟨S, hS⟩ := a3 j hj
  exact ⟨S, vDy_fr hS f (by omega) (by omega)⟩
theorem vPx_dy {r n pl pr : Nat} {t : Nat → Int} {pa : Nat → Nat} {D : Nat → vSt1} {h h1 : vHp} {j : Nat} {S : vSt1} (hP : vPx h r n t pr pa D pl) (hj : j < 18) (hS : vDy h1 (r + 5 + 2 * j) S) (f : vFr (fun q => q = r + 5 + 2 * j + 1) h h1) : vPx h1 r n t pr pa D pl := by
  obtain ⟨a1, a2, a3, a4, a5, a6, a7, a8⟩ := hP
  refine ⟨(f.2.2 _ (by omega)).trans a1, vRz_fr a2 f (fun q e1 e2 => by omega), fun i hi => ?_, vPn_fr a4 a8 f (fun q e => by omega), vBk_fr a5 f (fun q e => by omega), by rw [f.1]; exact a6, a7, a8⟩
  by_cases e : i = j
  · subst e; exact ⟨S, hS⟩
  · obtain ⟨T, hT⟩ := a3 i hi
    exact ⟨T, vDy_fr hT f (by omega) (by omega)⟩
theorem vnd_n {n : Nat} {t : Nat → Int} : ∀ (f : Nat) (v : Int) (p : Nat), p ≤ n → (vnd n t f v p).2 ≤ n
  | 0, _, _, h => h
  | f + 1, v, p, h => by
    rw [show vnd n t (f + 1) v p = (if 48 ≤ vch n t p ∧ vch n t p ≤ 57 then vnd n t f (v * 10 + vch n t p - 48) (p + 1) else (v, p)) from rfl]
    split
    · rename_i q
      have := vch_lt (n := n) (t := t) (p := p) (by omega)
      exact vnd_n f _ _ this
    · exact h
theorem vnm_rg {n : Nat} {t : Nat → Int} {lo hi : Int} {p : Nat} (hp : p ≤ n) : ((vnm n t lo hi p).2 = -1 ∧ (vnm n t lo hi p).1 = p ∨ (lo ≤ (vnm n t lo hi p).2 ∧ (vnm n t lo hi p).2 ≤ hi ∧ 0 ≤ (vnm n t lo hi p).2 ∧ p < (vnm n t lo hi p).1)) ∧ p ≤ (vnm n t lo hi p).1 ∧ (vnm n t lo hi p).1 ≤ n := by
  have rg := vnd_rg (n := n) (t := t) (p := p)
  have rn := vnd_n (n := n) (t := t) 4 0 p hp
  unfold vnm
  split
  · exact ⟨Or.inl ⟨rfl, rfl⟩, Nat.le_refl p, hp⟩
  · split
    · exact ⟨Or.inl ⟨rfl, rfl⟩, Nat.le_refl p, hp⟩
    · exact ⟨Or.inr (by dsimp only; omega), by dsimp only; omega, rn⟩
theorem k_unit {r n pl pr : Nat} {t : Nat → Int} {pa : Nat → Nat} {D : Nat → vSt1} {d j : Nat} {c : Int} {h : vHp} {Q : vQ} (hP : vPx h r n t pr pa D pl) (hj : j < 18) (hpl : pl ≤ n) (hc : c = 119 ∨ c = 100 ∨ c = 109 ∨ c = 121) (kN : (vpu n t c pl).2 = none → ∀ h', vPx h' r n t pr pa D (vpu n t c pl).1 → vFr (fun q => q = r ∨ q = r + 5 + 2 * j + 1) h h' → Q (some (.int (iI 0))) h') (kS : ∀ S, (vpu n t c pl).2 = some S → ∀ h', vPx h' r n t pr pa D (vpu n t c pl).1 → vDy h' (r + 5 + 2 * j) S → vFr (fun q => q = r ∨ q = r + 5 + 2 * j + 1) h h' → Q (some (.int (iI 1))) h') : vCall (d + 4) 0 0 43 [.ref r, .int (iI c), .ref (r + 5 + 2 * j)] h Q := by
  have hP0 := hP
  obtain ⟨ho, hz, hk, hpn, hb, hlo, hT, hA⟩ := hP
  have ho2 := ho
  unfold vRo at ho2
  have hn := hT.1
  have hmo : vmo c = 6 ∨ vmo c = 30 ∨ vmo c = 12 ∨ vmo c = 1 := by rcases hc with rfl | rfl | rfl | rfl <;> decide
  have hlq : (if c = 119 ∨ c = 121 then (0 : Int) else 1) = 0 ∨ (if c = 119 ∨ c = 121 then (0 : Int) else 1) = 1 := by split <;> simp
  have main : ∀ x4 : Value, vW (vCall (d + 3)) 43 Q 18 [.ref r, .int (iI c), .ref (r + 5 + 2 * j), .int (iI (if c = 119 ∨ c = 121 then (0 : Int) else 1)), x4] [] h 0 0 := by
    intro x4
    refine r_aload c43_18 rfl (r_iload c43_19 rfl (r_iload c43_20 rfl ?_))
    refine r_is1 c43_21 vr_50 rfl (k_mostOf (by omega) (by omega) ?_)
    dsimp only [vpush]
    have rg := vnm_rg (n := n) (t := t) (lo := (if c = 119 ∨ c = 121 then (0 : Int) else 1)) (hi := vmo c) (p := pl) hpl
    unfold vpu at kN kS
    generalize hq : (if c = 119 ∨ c = 121 then (0 : Int) else 1) = q0 at *
    refine r_iv2 c43_24 vr_49 ho2 rfl (k_number ho hz.1 hT (by omega) hlo (by omega) (by omega) (by omega) (by omega) (fun h1 ho1 f1 => ?_))
    dsimp only [vpush]
    have hP1 := vPx_pl hP0 ho1 f1
    generalize hz : (vnm n t q0 (vmo c) pl).2 = z at *
    generalize hp' : (vnm n t q0 (vmo c) pl).1 = p1 at *
    refine r_istore c43_27 rfl (r_iload c43_29 rfl (r_ci c43_31 ?_))
    try dsimp only [vst]
    refine r_icne c43_32 (by omega) (by omega) (by omega) (by omega) (fun c_32 => ?_) (fun c_32 => ?_)
    · rw [if_neg c_32] at kS
      obtain ⟨m, rfl⟩ := Int.eq_ofNat_of_zero_le (show 0 ≤ z by omega)
      obtain ⟨S0, hS0⟩ := hP1.2.2.1 j hj
      refine r_aload c43_37 rfl ?_
      refine r_iv0 c43_38 vr_4 hS0.1 rfl (k_wipe hS0 (by have := hP1.2.2.2.2.2.1; omega) (fun h2 hS2 f2 => ?_))
      dsimp only [vpush]
      have hP2 := vPx_dy hP1 hj hS2 f2
      have f12 := vFr_tr (vFr_up f1 (Y := fun q => q = r ∨ q = r + 5 + 2 * j + 1) (fun q e => Or.inl e)) (vFr_up f2 (fun q e => Or.inr e))
      have hl2 : h2.1.1 ≤ r + 5 + 2 * j := by have := hP2.2.2.2.2.2.1; omega
      have fin : ∀ (h3 : vHp) (S : vSt1), vDy h3 (r + 5 + 2 * j) S → vFr (fun q => q = r + 5 + 2 * j + 1) h2 h3 → (∀ e, e < 720 → S e = vun c m e) → vW (vCall (d + 3)) 43 Q 152 [.ref r, .int (iI c), .ref (r + 5 + 2 * j), .int (iI q0), .int (iI (m : Int))] [] h3 0 0 := by
        intro h3 S hS3 f3 he
        refine r_ci c43_152 ?_
        refine r_zret (st := []) c43_153 (by omega) ?_
        exact kS _ rfl h3 (vPx_dy hP2 hj hS3 f3) (vDy_cg hS3 (fun e he2 => by rw [he e he2, Int.toNat_natCast])) (vFr_tr f12 (vFr_up f3 (fun q e => Or.inr e)))
      refine r_iload c43_41 rfl (r_ci c43_42 ?_)
      refine r_icne c43_44 (by omega) (by omega) (by omega) (by omega) (fun c_44 => ?_) (fun c_44 => ?_)
      · refine r_iload c43_58 rfl (r_ci c43_59 ?_)
        refine r_icne c43_61 (by omega) (by omega) (by omega) (by omega) (fun c_61 => ?_) (fun c_61 => ?_)
        · refine r_iload c43_77 rfl (r_ci c43_78 ?_)
          refine r_icne c43_80 (by omega) (by omega) (by omega) (by omega) (fun c_80 => ?_) (fun c_80 => ?_)
          · have ec : c = 121 := by omega
            have e6 : vmo c = 1 := by rw [ec]; rfl
            have e7 : (if c = 119 ∨ c = 121 then (0 : Int) else 1) = 0 := by rw [ec]; rfl
            rw [hq] at e7
            subst ec
            refine r_aload c43_132 rfl (r_ci c43_133 (r_iload c43_136 rfl (r_imul c43_138 (r_ci c43_139 (r_iload c43_142 rfl (r_imul c43_144 (r_ci c43_145 (r_iadd c43_148 ?_))))))))
            rw [show (360 : Int) * (m : Int) = ((360 * m : Nat) : Int) by omega]
            refine r_iv2 c43_149 vr_13 hS2.1 rfl (k_addSpan hS2 hl2 (by omega) (by omega) (by omega) (fun h3 hS3 f3 => ?_))
            dsimp only [vpush]
            refine fin h3 _ hS3 f3 (fun e he => ?_)
            unfold vun
            rw [if_neg (by decide), if_neg (by decide), if_neg (by decide), Bool.false_or]
            exact decide_eq_decide.mpr (by omega)
          · have ec : c = 109 := by omega
            have e6 : vmo c = 12 := by rw [ec]; rfl
            have e7 : (if c = 119 ∨ c = 121 then (0 : Int) else 1) = 1 := by rw [ec]; rfl
            rw [hq] at e7
            subst ec
            refine r_aload c43_83 rfl (r_ci c43_84 (r_iload c43_86 rfl (r_imul c43_88 (r_ci c43_89 (r_isub c43_91 (r_ci c43_92 (r_iload c43_94 rfl (r_imul c43_96 (r_ci c43_97 (r_isub c43_98 ?_))))))))))
            rw [show (30 : Int) * (m : Int) - 30 = ((30 * m - 30 : Nat) : Int) by omega]
            refine r_iv2 c43_99 vr_13 hS2.1 rfl (k_addSpan hS2 hl2 (by omega) (by omega) (by omega) (fun h3 hS3 f3 => ?_))
            dsimp only [vpush]
            refine r_aload c43_102 rfl (r_ci c43_103 (r_ci c43_106 (r_iload c43_108 rfl (r_imul c43_110 (r_iadd c43_111 (r_ci c43_112 (r_isub c43_114 (r_ci c43_115 (r_ci c43_118 (r_iload c43_120 rfl (r_imul c43_122 (r_iadd c43_123 (r_ci c43_124 (r_isub c43_125 ?_))))))))))))))
            rw [show (360 : Int) + 30 * (m : Int) - 30 = ((360 + 30 * m - 30 : Nat) : Int) by omega]
            refine r_iv2 c43_126 vr_13 hS3.1 rfl (k_addSpan hS3 (vFr_lo f3 hl2) (by omega) (by omega) (by omega) (fun h4 hS4 f4 => ?_))
            dsimp only [vpush]
            refine r_goto c43_129 ?_
            refine fin h4 _ hS4 (vFr_tr f3 f4) (fun e he => ?_)
            unfold vun
            rw [if_neg (by decide), if_neg (by decide), if_pos rfl, Bool.false_or, ← Bool.decide_or]
            exact decide_eq_decide.mpr (by omega)
        · have ec : c = 100 := by omega
          have e6 : vmo c = 30 := by rw [ec]; rfl
          have e7 : (if c = 119 ∨ c = 121 then (0 : Int) else 1) = 1 := by rw [ec]; rfl
          rw [hq] at e7
          subst ec
          refine r_aload c43_64 rfl (r_ci c43_65 (r_iload c43_67 rfl (r_ci c43_69 (r_isub c43_70 ?_))))
          rw [show (m : Int) - 1 = ((m - 1 : Nat) : Int) by omega]
          refine r_iv2 c43_71 vr_14 hS2.1 rfl (k_addEach (st := 30) hS2 hl2 (by omega) (by omega) (by omega) (fun h3 hS3 f3 => ?_))
          dsimp only [vpush]
          refine r_goto c43_74 ?_
          refine fin h3 _ hS3 f3 (fun e he => ?_)
          unfold vun
          rw [if_neg (by decide), if_pos rfl, Bool.false_or]
          exact decide_eq_decide.mpr (by omega)
      · have ec : c = 119 := by omega
        have e6 : vmo c = 6 := by rw [ec]; rfl
        have e7 : (if c = 119 ∨ c = 121 then (0 : Int) else 1) = 0 := by rw [ec]; rfl
        rw [hq] at e7
        subst ec
        refine r_aload c43_47 rfl (r_ci c43_48 (r_iload c43_50 rfl ?_))
        refine r_iv2 c43_52 vr_14 hS2.1 rfl (k_addEach (st := 7) hS2 hl2 (by omega) (by omega) (by omega) (fun h3 hS3 f3 => ?_))
        dsimp only [vpush]
        refine r_goto c43_55 ?_
        refine fin h3 _ hS3 f3 (fun e he => ?_)
        unfold vun
        rw [if_pos rfl, Bool.false_or]
        exact decide_eq_decide.mpr (by omega)
    · rw [if_pos c_32] at kN
      refine r_ci c43_35 ?_
      refine r_zret (st := []) c43_36 (by omega) ?_
      exact kN rfl h1 hP1 (vFr_up f1 (fun q e => Or.inl e))
  refine vin 5 [_, _, _, _, _] ml_43 rfl rfl ?_
  refine r_iload c43_0 rfl (r_ci c43_1 ?_)
  refine r_iceq c43_3 (by omega) (by omega) (by omega) (by omega) (fun c_3 => ?_) (fun c_3 => ?_)
  · refine r_ci c43_12 (r_goto c43_13 (r_istore c43_17 rfl ?_))
    try dsimp only [vst]
    rw [if_pos (Or.inl c_3)] at main
    exact main _
  · refine r_iload c43_6 rfl (r_ci c43_7 ?_)
    refine r_icne c43_9 (by omega) (by omega) (by omega) (by omega) (fun c_9 => ?_) (fun c_9 => ?_)
    · refine r_ci c43_16 (r_istore c43_17 rfl ?_)
      try dsimp only [vst]
      rw [if_neg (by omega)] at main
      exact main _
    · refine r_ci c43_12 (r_goto c43_13 (r_istore c43_17 rfl ?_))
      try dsimp only [vst]
      rw [if_pos (Or.inr c_9)] at main
      exact main _

