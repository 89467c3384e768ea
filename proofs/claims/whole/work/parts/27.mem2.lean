theorem ml_24 : vml 24 = 4 := by decide +kernel
theorem ml_26 : vml 26 = 1 := by decide +kernel
theorem c24_0 : vlk 24 0 = some (6, 0, 0, 0, 1) := by decide +kernel
theorem c24_1 : vlk 24 1 = some (42, 1, 0, 0, 4) := by decide +kernel
theorem c24_4 : vlk 24 4 = some (4, 1, 0, 0, 5) := by decide +kernel
theorem c24_5 : vlk 24 5 = some (48, 0, 0, 0, 6) := by decide +kernel
theorem c24_6 : vlk 24 6 = some (9, 2, 0, 0, 7) := by decide +kernel
theorem c24_7 : vlk 24 7 = some (4, 1, 0, 0, 8) := by decide +kernel
theorem c24_8 : vlk 24 8 = some (7, 3, 0, 0, 9) := by decide +kernel
theorem c24_9 : vlk 24 9 = some (4, 3, 0, 0, 10) := by decide +kernel
theorem c24_10 : vlk 24 10 = some (1, 0, 0, 1, 11) := by decide +kernel
theorem c24_11 : vlk 24 11 = some (11, 0, 0, 0, 12) := by decide +kernel
theorem c24_12 : vlk 24 12 = some (6, 0, 0, 0, 13) := by decide +kernel
theorem c24_13 : vlk 24 13 = some (42, 1, 1, 0, 16) := by decide +kernel
theorem c24_16 : vlk 24 16 = some (79, 39, 0, 0, 19) := by decide +kernel
theorem c24_19 : vlk 24 19 = some (6, 0, 0, 0, 20) := by decide +kernel
theorem c24_20 : vlk 24 20 = some (42, 1, 0, 0, 23) := by decide +kernel
theorem c24_23 : vlk 24 23 = some (4, 3, 0, 0, 24) := by decide +kernel
theorem c24_24 : vlk 24 24 = some (6, 0, 0, 0, 25) := by decide +kernel
theorem c24_25 : vlk 24 25 = some (42, 1, 0, 0, 28) := by decide +kernel
theorem c24_28 : vlk 24 28 = some (4, 3, 0, 0, 29) := by decide +kernel
theorem c24_29 : vlk 24 29 = some (1, 0, 0, 1, 30) := by decide +kernel
theorem c24_30 : vlk 24 30 = some (11, 0, 0, 0, 31) := by decide +kernel
theorem c24_31 : vlk 24 31 = some (48, 0, 0, 0, 32) := by decide +kernel
theorem c24_32 : vlk 24 32 = some (52, 0, 0, 0, 33) := by decide +kernel
theorem c24_33 : vlk 24 33 = some (10, 3, 0, 1, 36) := by decide +kernel
theorem c24_36 : vlk 24 36 = some (37, 9, 0, 0, 39) := by decide +kernel
theorem c24_39 : vlk 24 39 = some (6, 0, 0, 0, 40) := by decide +kernel
theorem c24_40 : vlk 24 40 = some (42, 1, 0, 0, 43) := by decide +kernel
theorem c24_43 : vlk 24 43 = some (6, 0, 0, 0, 44) := by decide +kernel
theorem c24_44 : vlk 24 44 = some (42, 1, 1, 0, 47) := by decide +kernel
theorem c24_47 : vlk 24 47 = some (1, 0, 0, 1, 48) := by decide +kernel
theorem c24_48 : vlk 24 48 = some (12, 0, 0, 0, 49) := by decide +kernel
theorem c24_49 : vlk 24 49 = some (6, 2, 0, 0, 50) := by decide +kernel
theorem c24_50 : vlk 24 50 = some (52, 0, 0, 0, 51) := by decide +kernel
theorem c24_51 : vlk 24 51 = some (66, 0, 0, 0, 52) := by decide +kernel
theorem c26_0 : vlk 26 0 = some (6, 0, 0, 0, 1) := by decide +kernel
theorem c26_1 : vlk 26 1 = some (1, 0, 0, 0, 2) := by decide +kernel
theorem c26_2 : vlk 26 2 = some (43, 1, 1, 0, 5) := by decide +kernel
theorem c26_5 : vlk 26 5 = some (66, 0, 0, 0, 6) := by decide +kernel
/-! Memory: the latest, forgetting; lists of spans -/
abbrev vSp : Type := Int × Int × Int × Int
def vRw (L : Nat → Nat → Int) (i : Nat) (s : vSp) : Prop := L i 0 = s.1 ∧ L i 1 = s.2.1 ∧ L i 2 = s.2.2.1 ∧ L i 3 = s.2.2.2
def vMm (h : vHp) (a : Nat) (l : List vSp) (hi mi : Int) : Prop := l.length ≤ 6 ∧ ∃ L, vMe h a l.length hi mi L ∧ ∀ i s, l[i]? = some s → vRw L i s
theorem vMm_fr {Z : Nat → Prop} {h h1 : vHp} {a : Nat} {l : List vSp} {hi mi : Int} (hM : vMm h a l hi mi) (f : vFr Z h h1) (nz : ∀ q, a ≤ q → q < a + 8 → ¬ Z q) : vMm h1 a l hi mi := by
  obtain ⟨h1, L, h2, h3⟩ := hM
  exact ⟨h1, L, vMe_fr h2 f nz, h3⟩
/-- the rows when the one at p has become the last of n -/
def vlt {α : Type} (L : Nat → α) (p n j : Nat) : α := if p ≤ j ∧ j + 1 < n then L (j + 1) else if j + 1 = n then L p else L j
theorem k_makeLatest {d a n p : Nat} {hi mi : Int} {L : Nat → Nat → Int} {h : vHp} {Q : vQ} (hM : vMe h a n hi mi L) (hlo : h.1.1 ≤ a) (hn : n ≤ 6) (hp6 : p < n) (k : ∀ h', vMe h' a n hi mi (vlt L p n) → vFr (fun q => q = a + 1) h h' → Q none h') : vCall (d + 1) 0 0 24 [.ref a, .int (iI (p : Int))] h Q := by
  obtain ⟨h0, pm, ⟨pp, hp, hp2⟩, hj, hr⟩ := hM
  unfold vMo at h0
  have loop : ∀ u i : Nat, i + u + 1 = n → p ≤ i → ∀ (h1 : vHp) (p1 : Nat → Option Nat), hg h1 (a + 1) = some (.inl (6, 6, .inr p1)) → (∀ j, j < 6 → p1 j = some (a + 2 + if p ≤ j ∧ j < i then pm (j + 1) else pm j)) → vFr (fun q => q = a + 1) h h1 → vW (vCall d) 24 Q 9 [.ref a, .int (iI (p : Int)), .ref (a + 2 + pm p), .int (iI (i : Int))] [] h1 0 0 := by
    intro u
    induction u with
    | zero =>
      intro i hi' hpi h1 p1 hp1 hq fr
      have g0 := (fr.2.2 a (by omega)).trans h0
      obtain ⟨f, hf1, hf2⟩ := hr p (by omega)
      refine r_iload c24_9 rfl (r_ci c24_10 (r_iadd c24_11 (r_aload c24_12 rfl (r_get c24_13 g0 rfl ?_))))
      refine r_icge c24_16 (by omega) (by omega) (by omega) (by omega) (fun c_16 => ?_) (fun q => by exfalso; omega)
      refine r_aload c24_39 rfl (r_get c24_40 g0 rfl (r_aload c24_43 rfl (r_get c24_44 g0 rfl (r_ci c24_47 (r_isub c24_48 (r_aload c24_49 rfl ?_))))))
      refine r_aastA c24_50 hp1  (vFr_lo fr (by omega)) (by omega) (by omega) ((fr.2.2 _ (by omega)).trans hf1) (vFr_lo fr (by omega)) (fun h2 s2 => ?_)
      refine r_vret (st := []) c24_51 ?_
      have fr2 := vFr_tr fr (vFr_st s2)
      refine k h2 ⟨(fr2.2.2 a (by omega)).trans h0, vlt pm p n, ⟨_, s2.2.2.1, fun j hj2 => ?_⟩, ⟨fun j hj2 => ?_, fun j l hj2 hl2 e => ?_⟩, fun j hj2 => ?_⟩ fr2
      · unfold vup vlt
        by_cases e : j + 1 = n
        · rw [if_pos (by omega), if_neg (by omega), if_pos e]
        · rw [if_neg (by omega), hq j hj2]
          by_cases e2 : p ≤ j ∧ j + 1 < n
          · rw [if_pos (by omega), if_pos e2]
          · rw [if_neg (by omega), if_neg e2, if_neg e]
      · unfold vlt
        split
        · exact hj.1 _ (by omega)
        · split
          · exact hj.1 _ (by omega)
          · exact hj.1 _ (by omega)
      · have in1 := hj.2
        unfold vlt at e
        have key : ∀ x y, x < 6 → y < 6 → pm x = pm y → x = y := in1
        split at e <;> split at e <;> first
          | (have := key _ _ (by omega) (by omega) e; omega)
          | (split at e <;> first
              | (have := key _ _ (by omega) (by omega) e; omega)
              | (split at e <;> (have := key _ _ (by omega) (by omega) e; omega)))
      · have g : ∃ t, t < 6 ∧ vlt pm p n j = pm t ∧ vlt L p n j = L t := by
          unfold vlt
          split
          · exact ⟨j + 1, by omega, rfl, rfl⟩
          · split
            · exact ⟨p, by omega, rfl, rfl⟩
            · exact ⟨j, hj2, rfl, rfl⟩
        obtain ⟨t, t1, t2, t3⟩ := g
        obtain ⟨f, f1, f2⟩ := hr t t1
        rw [t2, t3]
        exact ⟨f, (fr2.2.2 _ (by omega)).trans f1, f2⟩
    | succ u ih =>
      intro i hi' hpi h1 p1 hp1 hq fr
      have g0 := (fr.2.2 a (by omega)).trans h0
      obtain ⟨f, hf1, hf2⟩ := hr (i + 1) (by omega)
      have e1 : p1 (i + 1) = some (a + 2 + pm (i + 1)) := by rw [hq _ (by omega), if_neg (by omega)]
      refine r_iload c24_9 rfl (r_ci c24_10 (r_iadd c24_11 (r_aload c24_12 rfl (r_get c24_13 g0 rfl ?_))))
      refine r_icge c24_16 (by omega) (by omega) (by omega) (by omega) (fun q => by exfalso; omega) (fun c_16 => ?_)
      refine r_aload c24_19 rfl (r_get c24_20 g0 rfl (r_iload c24_23 rfl (r_aload c24_24 rfl (r_get c24_25 g0 rfl (r_iload c24_28 rfl (r_ci c24_29 (r_iadd c24_30 (r_aald c24_31 hp1 (by omega) (by omega) (by omega) (by rw [show ((i : Int) + 1).toNat = i + 1 by omega]; exact e1) ?_))))))))
      refine r_aastA c24_32 hp1  (vFr_lo fr (by omega)) (by omega) (by omega) ((fr.2.2 _ (by omega)).trans hf1) (vFr_lo fr (by omega)) (fun h2 s2 => ?_)
      refine r_iinc c24_33 rfl rfl (r_goto c24_36 ?_)
      try dsimp only [vst]
      rw [vsu]
      refine ih (i + 1) (by omega) (by omega) h2 _ s2.2.2.1 (fun j hj2 => ?_) (vFr_tr fr (vFr_st s2))
      unfold vup
      rw [Int.toNat_natCast]
      by_cases e : j = i
      · rw [if_pos e, if_pos (by omega)]; subst e; rfl
      · rw [if_neg e, hq j hj2]
        by_cases e2 : p ≤ j ∧ j < i
        · rw [if_pos e2, if_pos (by omega)]
        · rw [if_neg e2, if_neg (by omega)]
  refine vin 4 [_, _, _, _] ml_24 rfl rfl ?_
  refine r_aload c24_0 rfl (r_get c24_1 h0 rfl (r_iload c24_4 rfl (r_aald c24_5 hp (by omega) (by omega) (by omega) (by rw [Int.toNat_natCast]; exact hp2 p (by omega)) (r_astore c24_6 rfl (r_iload c24_7 rfl (r_istore c24_8 rfl ?_))))))
  try dsimp only [vst]
  exact loop (n - p - 1) p (by omega) (by omega) h pp hp (fun j hj2 => by rw [if_neg (by omega)]; exact hp2 j hj2) vFr_rf
theorem k_forgetAll {d a : Nat} {hi mi : Int} {l : List vSp} {h : vHp} {Q : vQ} (hM : vMm h a l hi mi) (hlo : h.1.1 ≤ a) (k : ∀ h', vMm h' a [] hi mi → vFr (fun q => q = a) h h' → Q none h') : vCall (d + 1) 0 0 26 [.ref a] h Q := by
  obtain ⟨hn, L, ⟨h0, pm, ⟨pp, hp, hp2⟩, hj, hr⟩, hL⟩ := hM
  unfold vMo at h0
  refine vin 1 [_] ml_26 rfl rfl ?_
  refine r_aload c26_0 rfl (r_ci c26_1 ?_)
  refine r_put c26_2 h0 hlo rfl ⟨rfl, rfl⟩ (fun h1 s1 => ?_)
  refine r_vret (st := []) c26_5 ?_
  have fr := vFr_st s1
  exact k h1 ⟨by simp, L, ⟨s1.2.2.1, pm, ⟨pp, (fr.2.2 _ (by omega)).trans hp, hp2⟩, hj, fun i hi => by
    obtain ⟨f, f1, f2⟩ := hr i hi
    exact ⟨f, (fr.2.2 _ (by omega)).trans f1, f2⟩⟩, fun i s e => by simp at e⟩ fr

