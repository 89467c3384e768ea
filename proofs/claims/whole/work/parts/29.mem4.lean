theorem ml_21 : vml 21 = 6 := by decide +kernel
theorem vr_22 : vrc 22 = some (1, 3) := by decide +kernel
theorem vr_23 : vrc 23 = some (1, 4) := by decide +kernel
theorem vr_24 : vrc 24 = some (1, 1) := by decide +kernel
theorem c21_0 : vlk 21 0 = some (6, 0, 0, 0, 1) := by decide +kernel
theorem c21_1 : vlk 21 1 = some (4, 1, 0, 0, 2) := by decide +kernel
theorem c21_2 : vlk 21 2 = some (4, 2, 0, 0, 3) := by decide +kernel
theorem c21_3 : vlk 21 3 = some (4, 3, 0, 0, 4) := by decide +kernel
theorem c21_4 : vlk 21 4 = some (58, 22, 0, 0, 7) := by decide +kernel
theorem c21_7 : vlk 21 7 = some (7, 5, 0, 0, 9) := by decide +kernel
theorem c21_9 : vlk 21 9 = some (4, 5, 0, 0, 11) := by decide +kernel
theorem c21_11 : vlk 21 11 = some (6, 0, 0, 0, 12) := by decide +kernel
theorem c21_12 : vlk 21 12 = some (42, 1, 1, 0, 15) := by decide +kernel
theorem c21_15 : vlk 21 15 = some (79, 31, 0, 0, 18) := by decide +kernel
theorem c21_18 : vlk 21 18 = some (6, 0, 0, 0, 19) := by decide +kernel
theorem c21_19 : vlk 21 19 = some (34, 0, 0, 0, 20) := by decide +kernel
theorem c21_20 : vlk 21 20 = some (42, 1, 2, 0, 23) := by decide +kernel
theorem c21_23 : vlk 21 23 = some (1, 0, 0, 1, 24) := by decide +kernel
theorem c21_24 : vlk 21 24 = some (11, 0, 0, 0, 25) := by decide +kernel
theorem c21_25 : vlk 21 25 = some (43, 1, 2, 0, 28) := by decide +kernel
theorem c21_28 : vlk 21 28 = some (37, 75, 0, 0, 31) := by decide +kernel
theorem c21_31 : vlk 21 31 = some (6, 0, 0, 0, 32) := by decide +kernel
theorem c21_32 : vlk 21 32 = some (34, 0, 0, 0, 33) := by decide +kernel
theorem c21_33 : vlk 21 33 = some (42, 1, 3, 0, 36) := by decide +kernel
theorem c21_36 : vlk 21 36 = some (1, 0, 0, 1, 37) := by decide +kernel
theorem c21_37 : vlk 21 37 = some (11, 0, 0, 0, 38) := by decide +kernel
theorem c21_38 : vlk 21 38 = some (43, 1, 3, 0, 41) := by decide +kernel
theorem c21_41 : vlk 21 41 = some (6, 0, 0, 0, 42) := by decide +kernel
theorem c21_42 : vlk 21 42 = some (42, 1, 1, 0, 45) := by decide +kernel
theorem c21_45 : vlk 21 45 = some (1, 0, 0, 6, 47) := by decide +kernel
theorem c21_47 : vlk 21 47 = some (79, 63, 0, 0, 50) := by decide +kernel
theorem c21_50 : vlk 21 50 = some (6, 0, 0, 0, 51) := by decide +kernel
theorem c21_51 : vlk 21 51 = some (34, 0, 0, 0, 52) := by decide +kernel
theorem c21_52 : vlk 21 52 = some (42, 1, 1, 0, 55) := by decide +kernel
theorem c21_55 : vlk 21 55 = some (1, 0, 0, 1, 56) := by decide +kernel
theorem c21_56 : vlk 21 56 = some (11, 0, 0, 0, 57) := by decide +kernel
theorem c21_57 : vlk 21 57 = some (43, 1, 1, 0, 60) := by decide +kernel
theorem c21_60 : vlk 21 60 = some (37, 66, 0, 0, 63) := by decide +kernel
theorem c21_63 : vlk 21 63 = some (1, 0, 0, 0, 64) := by decide +kernel
theorem c21_64 : vlk 21 64 = some (7, 5, 0, 0, 66) := by decide +kernel
theorem c21_66 : vlk 21 66 = some (6, 0, 0, 0, 67) := by decide +kernel
theorem c21_67 : vlk 21 67 = some (4, 5, 0, 0, 69) := by decide +kernel
theorem c21_69 : vlk 21 69 = some (4, 1, 0, 0, 70) := by decide +kernel
theorem c21_70 : vlk 21 70 = some (4, 2, 0, 0, 71) := by decide +kernel
theorem c21_71 : vlk 21 71 = some (4, 3, 0, 0, 72) := by decide +kernel
theorem c21_72 : vlk 21 72 = some (58, 23, 0, 0, 75) := by decide +kernel
theorem c21_75 : vlk 21 75 = some (6, 0, 0, 0, 76) := by decide +kernel
theorem c21_76 : vlk 21 76 = some (42, 1, 0, 0, 79) := by decide +kernel
theorem c21_79 : vlk 21 79 = some (4, 5, 0, 0, 81) := by decide +kernel
theorem c21_81 : vlk 21 81 = some (48, 0, 0, 0, 82) := by decide +kernel
theorem c21_82 : vlk 21 82 = some (1, 0, 0, 3, 83) := by decide +kernel
theorem c21_83 : vlk 21 83 = some (4, 4, 0, 0, 85) := by decide +kernel
theorem c21_85 : vlk 21 85 = some (49, 0, 0, 0, 86) := by decide +kernel
theorem c21_86 : vlk 21 86 = some (6, 0, 0, 0, 87) := by decide +kernel
theorem c21_87 : vlk 21 87 = some (4, 5, 0, 0, 89) := by decide +kernel
theorem c21_89 : vlk 21 89 = some (58, 24, 0, 0, 92) := by decide +kernel
theorem c21_92 : vlk 21 92 = some (66, 0, 0, 0, 93) := by decide +kernel
/-! Memory: asking -/
def vky (x y z : Int) (s : vSp) : Bool := decide (s.1 = x ∧ s.2.1 = y ∧ s.2.2.1 = z)
def vnk (x y z : Int) (s : vSp) : Bool := !vky x y z s
def vask (l : List vSp) (x y z w : Int) : List vSp := if ((l.filter (vnk x y z)) ++ [(x, y, z, w)]).length = 7 then ((l.filter (vnk x y z)) ++ [(x, y, z, w)]).drop 1 else (l.filter (vnk x y z)) ++ [(x, y, z, w)]
def vhit (l : List vSp) (x y z : Int) : Bool := decide ((l.filter (vnk x y z)).length < l.length)
/-- no two spans alike -/
def vdis (l : List vSp) : Prop := ∀ (i j : Nat) (s t : vSp), i < j → l[i]? = some s → l[j]? = some t → ¬ (s.1 = t.1 ∧ s.2.1 = t.2.1 ∧ s.2.2.1 = t.2.2.1)
theorem vfi_sp {L : Nat → Nat → Int} {x y z : Int} {l : List vSp} (hL : ∀ i s, l[i]? = some s → vRw L i s) : ∀ u i, i + u = l.length → i ≤ vfi L x y z u i ∧ vfi L x y z u i ≤ l.length ∧ (∀ s, l[vfi L x y z u i]? = some s → vky x y z s = true) ∧ ∀ j s, i ≤ j → j < vfi L x y z u i → l[j]? = some s → vky x y z s = false
  | 0, i, hi => by
    have e : vfi L x y z 0 i = i := rfl
    rw [e]
    refine ⟨Nat.le_refl i, by omega, fun s hs => ?_, fun j s h1 h2 _ => by omega⟩
    rw [List.getElem?_eq_none (by omega)] at hs
    cases hs
  | u + 1, i, hi => by
    rw [show vfi L x y z (u + 1) i = (if L i 0 = x ∧ L i 1 = y ∧ L i 2 = z then i else vfi L x y z u (i + 1)) from rfl]
    split
    · rename_i q
      refine ⟨Nat.le_refl i, by omega, fun s hs => ?_, fun j s h1 h2 _ => by omega⟩
      have r := hL i s hs
      exact decide_eq_true ⟨r.1.symm.trans q.1, r.2.1.symm.trans q.2.1, r.2.2.1.symm.trans q.2.2⟩
    · rename_i q
      obtain ⟨a1, a2, a3, a4⟩ := vfi_sp hL (x := x) (y := y) (z := z) u (i + 1) (by omega)
      refine ⟨by omega, a2, a3, fun j s h1 h2 hs => ?_⟩
      by_cases e : j = i
      · subst e
        have r := hL j s hs
        exact decide_eq_false (fun p => q ⟨r.1.trans p.1, r.2.1.trans p.2.1, r.2.2.1.trans p.2.2⟩)
      · exact a4 j s (by omega) h2 hs
theorem vfil_er {P : vSp → Bool} : ∀ (l : List vSp) (r : Nat), r < l.length → (∀ s, l[r]? = some s → P s = false) → (∀ j s, j ≠ r → l[j]? = some s → P s = true) → l.filter P = l.eraseIdx r
  | [], r, h, _, _ => by simp at h
  | t :: l, 0, _, h1, h2 => by
    rw [List.filter_cons_of_neg (by rw [h1 t rfl]; decide)]
    show l.filter P = l
    rw [List.filter_eq_self]
    intro s hs
    obtain ⟨j, hj⟩ := List.getElem?_of_mem hs
    exact h2 (j + 1) s (by omega) (by simpa using hj)
  | t :: l, r + 1, h, h1, h2 => by
    rw [List.filter_cons_of_pos (h2 0 t (by omega) rfl)]
    show t :: l.filter P = t :: l.eraseIdx r
    rw [vfil_er l r (by simpa using h) (fun s hs => h1 s (by simpa using hs)) (fun j s hj hs => h2 (j + 1) s (by omega) (by simpa using hs))]
theorem k_ask {d a : Nat} {hi mi x y z w : Int} {l : List vSp} {h : vHp} {Q : vQ} (hM : vMm h a l hi mi) (hlo : h.1.1 ≤ a) (hd : vdis l) (hb : ∀ s, s ∈ l → (-2147483648 ≤ s.1 ∧ s.1 ≤ 2147483647) ∧ (-2147483648 ≤ s.2.1 ∧ s.2.1 ≤ 2147483647) ∧ (-2147483648 ≤ s.2.2.1 ∧ s.2.2.1 ≤ 2147483647) ∧ (-2147483648 ≤ s.2.2.2 ∧ s.2.2.2 ≤ 2147483647)) (x1 : -2147483648 ≤ x) (x2 : x ≤ 2147483647) (y1 : -2147483648 ≤ y) (y2 : y ≤ 2147483647) (z1 : -2147483648 ≤ z) (z2 : z ≤ 2147483647) (k : ∀ h', vMm h' a (vask l x y z w) (hi + vBi (vhit l x y z)) (mi + vBi (!vhit l x y z)) → vFr (fun q => a ≤ q ∧ q < a + 8) h h' → Q none h') : vCall (d + 2) 0 0 21 [.ref a, .int (iI x), .int (iI y), .int (iI z), .int (iI w)] h Q := by
  obtain ⟨hn, L, hM, hL⟩ := hM
  have tail : ∀ (h1 : vHp) (n1 p : Nat) (hi1 mi1 : Int) (L1 : Nat → Nat → Int) (l1 : List vSp), vMe h1 a n1 hi1 mi1 L1 → l1.length + 1 = n1 → p < n1 → n1 ≤ 6 → L1 p 0 = x → L1 p 1 = y → L1 p 2 = z → (∀ j s, l1[j]? = some s → vRw L1 (if j < p then j else j + 1) s) → (∀ h', vMm h' a (l1 ++ [(x, y, z, w)]) hi1 mi1 → vFr (fun q => a ≤ q ∧ q < a + 8) h1 h' → Q none h') → h1.1.1 ≤ a → vW (vCall (d + 1)) 21 Q 75 [.ref a, .int (iI x), .int (iI y), .int (iI z), .int (iI w), .int (iI (p : Int))] [] h1 0 0 := by
    intro h1 n1 p hi1 mi1 L1 l1 hM1 hl1 hp1 hn1 ex ey ez hL1 k1 hlo1
    obtain ⟨h0, pm, ⟨pp, hp, hp2⟩, hj, hr⟩ := hM1
    unfold vMo at h0
    have hjp := hj.1 p (by omega)
    obtain ⟨f, hf1, hf2⟩ := hr p (by omega)
    refine r_aload c21_75 rfl (r_get c21_76 h0 rfl (r_iload c21_79 rfl (r_aald c21_81 hp (by omega) (by omega) (by omega) (by rw [Int.toNat_natCast]; exact hp2 p (by omega)) (r_ci c21_82 (r_iload c21_83 rfl ?_)))))
    refine r_iast c21_85 hf1 (by omega) (by omega) (by omega) (fun h2 s2 => ?_)
    have f2 := vFr_st s2
    have r2 := vMr_st hr hj (by omega) s2
    have h02 := (f2.2.2 a (by omega)).trans h0
    refine r_aload c21_86 rfl (r_iload c21_87 rfl ?_)
    refine r_iv1 c21_89 vr_24 h02 rfl (k_makeLatest ⟨h02, pm, ⟨pp, (f2.2.2 _ (by omega)).trans hp, hp2⟩, hj, r2⟩ (vFr_lo f2 hlo1) hn1 hp1 (fun h3 hM3 f3 => ?_))
    dsimp only [vpush]
    refine r_vret (st := []) c21_92 ?_
    have el : (l1 ++ [(x, y, z, w)]).length = n1 := by rw [List.length_append]; exact hl1
    refine k1 h3 ⟨by omega, _, by rw [el]; exact hM3, fun j s hs => ?_⟩ (vFr_tr (vFr_up f2 (fun q e => by omega)) (vFr_up f3 (fun q e => by omega)))
    rw [List.getElem?_append] at hs
    split at hs
    · rename_i hlt
      refine vRw_cg (hL1 j s hs) (fun c hc => ?_)
      unfold vlt
      by_cases e : j < p
      · rw [if_neg (by omega), if_neg (by omega), if_pos e]; exact if_neg (by omega)
      · rw [if_pos (by omega), if_neg e]; exact if_neg (by omega)
    · rename_i hge
      have ej : j = l1.length := by
        rcases Nat.lt_or_ge (j - l1.length) 1 with q | q
        · omega
        · rw [List.getElem?_eq_none (by simpa using q)] at hs
          cases hs
      rw [ej, Nat.sub_self] at hs
      have est : (x, y, z, w) = s := by simpa using hs
      subst est
      have ev : ∀ M : Nat → Nat → Int, vlt M p n1 j = M p := fun M => by unfold vlt; rw [if_neg (by omega), if_pos (by omega)]
      unfold vRw
      rw [ev]
      simp only [if_true]
      refine ⟨?_, ?_, ?_, ?_⟩
      · show (if 0 = (3 : Int).toNat then w else f 0) = x
        rw [if_neg (by decide), hf2 0 (by omega), ex]
      · show (if 1 = (3 : Int).toNat then w else f 1) = y
        rw [if_neg (by decide), hf2 1 (by omega), ey]
      · show (if 2 = (3 : Int).toNat then w else f 2) = z
        rw [if_neg (by decide), hf2 2 (by omega), ez]
      · show (if 3 = (3 : Int).toNat then w else f 3) = w
        rw [if_pos (by decide)]
  obtain ⟨v1, v2, v3, v4⟩ := vfi_sp hL (x := x) (y := y) (z := z) l.length 0 (by omega)
  have hM0 := hM
  obtain ⟨h0, pm, ⟨pp, hp, hp2⟩, hj, hr⟩ := hM
  unfold vMo at h0
  refine vin 6 [_, _, _, _, _, _] ml_21 rfl rfl ?_
  refine r_aload c21_0 rfl (r_iload c21_1 rfl (r_iload c21_2 rfl (r_iload c21_3 rfl ?_)))
  refine r_iv3 c21_4 vr_22 h0 rfl (k_find hM0 hn ?_ x1 x2 y1 y2 z1 z2 ?_)
  · intro i c hi hc
    obtain ⟨s, hs⟩ : ∃ s, l[i]? = some s := ⟨l[i], List.getElem?_eq_getElem hi⟩
    have r := hL i s hs
    have b := hb s (List.mem_of_getElem? hs)
    have cc : c = 0 ∨ c = 1 ∨ c = 2 ∨ c = 3 := by omega
    rcases cc with rfl | rfl | rfl | rfl
    · rw [r.1]; exact b.1
    · rw [r.2.1]; exact b.2.1
    · rw [r.2.2.1]; exact b.2.2.1
    · rw [r.2.2.2]; exact b.2.2.2
  · dsimp only [vpush]
    generalize hr0 : vfi L x y z l.length 0 = r at *
    refine r_istore c21_7 rfl (r_iload c21_9 rfl (r_aload c21_11 rfl (r_get c21_12 h0 rfl ?_)))
    try dsimp only [vst]
    refine r_icge c21_15 (by omega) (by omega) (by omega) (by omega) (fun c_15 => ?_) (fun c_15 => ?_)
    · have er : r = l.length := by omega
      have ef : l.filter (vnk x y z) = l := by
        rw [List.filter_eq_self]
        intro s hs
        obtain ⟨j, hj⟩ := List.getElem?_of_mem hs
        have jl : j < l.length := (List.getElem?_eq_some_iff.1 hj).1
        unfold vnk
        rw [v4 j s (by omega) (by omega) hj]; rfl
      have eh : vhit l x y z = false := by unfold vhit; rw [ef]; exact decide_eq_false (by omega)
      unfold vask at k
      rw [ef, eh] at k
      have es : (l ++ [(x, y, z, w)]).length = l.length + 1 := by rw [List.length_append]; rfl
      rw [es] at k
      refine r_aload c21_31 rfl (r_dup c21_32 rfl (r_get c21_33 h0 rfl (r_ci c21_36 (r_iadd c21_37 ?_))))
      refine r_put c21_38 h0 hlo rfl ⟨rfl, rfl⟩ (fun h1 s1 => ?_)
      have f1 := vFr_st s1
      have g1 := s1.2.2.1
      dsimp only [vst] at g1
      refine r_aload c21_41 rfl (r_get c21_42 g1 rfl (r_ci c21_45 ?_))
      refine r_icge c21_47 (by omega) (by omega) (by omega) (by omega) (fun c_47 => ?_) (fun c_47 => ?_)
      · have l6 : l.length = 6 := by omega
        refine r_ci c21_63 (r_istore c21_64 rfl (r_aload c21_66 rfl (r_iload c21_67 rfl (r_iload c21_69 rfl (r_iload c21_70 rfl (r_iload c21_71 rfl ?_))))))
        try dsimp only [vst]
        have hM1 : vMe h1 a l.length hi (mi + 1) L := ⟨g1, pm, ⟨pp, (f1.2.2 _ (by omega)).trans hp, hp2⟩, hj, fun j hj2 => by
          obtain ⟨f, q1, q2⟩ := hr j hj2
          exact ⟨f, (f1.2.2 _ (by omega)).trans q1, q2⟩⟩
        have hw := k_write (d := d) (p := 0) (x := x) (y := y) (z := z) (Q := fun v h' => vW (vCall (d + 1)) 21 Q 75 [.ref a, .int (iI x), .int (iI y), .int (iI z), .int (iI w), .int (iI 0)] (vpush v []) h' 0 0) hM1 (vFr_lo f1 hlo) (by omega) (fun h2 hM2 f2 => ?_)
        · refine r_iv4 c21_72 vr_23 g1 rfl (hw)
        · dsimp only [vpush]
          have f12 := vFr_tr (vFr_up f1 (Y := fun q => a ≤ q ∧ q < a + 8) (fun q e => by omega)) (vFr_up f2 (fun q e => by omega))
          refine tail h2 l.length 0 _ _ _ (l.drop 1) hM2 (by rw [List.length_drop]; omega) (by omega) (by omega) rfl rfl rfl (fun j s hs => ?_) (fun h3 hM3 f3 => ?_) (vFr_lo f12 hlo)
          · rw [List.getElem?_drop] at hs
            rw [if_neg (by omega)]
            refine vRw_cg (hL _ s hs) (fun c hc => ?_)
            rw [Nat.add_comm]
            exact if_neg (by omega)
          · rw [if_pos (by omega)] at k
            refine k h3 ?_ (vFr_tr f12 f3)
            rw [List.drop_append_of_le_length (by omega), show vBi false = 0 by rfl, Int.add_zero]
            exact hM3
      · refine r_aload c21_50 rfl (r_dup c21_51 rfl (r_get c21_52 g1 rfl (r_ci c21_55 (r_iadd c21_56 ?_))))
        refine r_put c21_57 g1 (vFr_lo f1 hlo) rfl ⟨rfl, rfl⟩ (fun h2 s2 => ?_)
        have f2 := vFr_tr f1 (vFr_st s2)
        have g2 := s2.2.2.1
        dsimp only [vst] at g2
        rw [vsu] at g2
        refine r_goto c21_60 (r_aload c21_66 rfl (r_iload c21_67 rfl (r_iload c21_69 rfl (r_iload c21_70 rfl (r_iload c21_71 rfl ?_)))))
        have hM1 : vMe h2 a (l.length + 1) hi (mi + 1) L := ⟨g2, pm, ⟨pp, (f2.2.2 _ (by omega)).trans hp, hp2⟩, hj, fun j hj2 => by
          obtain ⟨f, q1, q2⟩ := hr j hj2
          exact ⟨f, (f2.2.2 _ (by omega)).trans q1, q2⟩⟩
        rw [er]
        refine r_iv4 c21_72 vr_23 g2 rfl (k_write hM1 (vFr_lo f2 hlo) (by omega) (fun h3 hM3 f3 => ?_))
        dsimp only [vpush]
        have f13 := vFr_tr (vFr_up f2 (Y := fun q => a ≤ q ∧ q < a + 8) (fun q e => by omega)) (vFr_up f3 (fun q e => by omega))
        refine tail h3 (l.length + 1) l.length _ _ _ l hM3 rfl (by omega) (by omega) (by simp) (by simp) (by simp) (fun j s hs => ?_) (fun h4 hM4 f4 => ?_) (vFr_lo f13 hlo)
        · have jl : j < l.length := (List.getElem?_eq_some_iff.1 hs).1
          rw [if_pos jl]
          refine vRw_cg (hL _ s hs) (fun c hc => ?_)
          exact if_neg (by omega)
        · rw [if_neg (by omega)] at k
          refine k h4 ?_ (vFr_tr f13 f4)
          rw [show vBi false = 0 by rfl, Int.add_zero]
          exact hM4
    · have rl : r < l.length := by omega
      obtain ⟨s0, hs0⟩ : ∃ s, l[r]? = some s := ⟨l[r], List.getElem?_eq_getElem rl⟩
      have ky := v3 s0 hs0
      have ky2 : s0.1 = x ∧ s0.2.1 = y ∧ s0.2.2.1 = z := of_decide_eq_true ky
      have r0 := hL r s0 hs0
      have ef : l.filter (vnk x y z) = l.eraseIdx r := by
        refine vfil_er l r rl (fun s hs => ?_) (fun j s hj2 hs => ?_)
        · unfold vnk; rw [v3 s hs]; rfl
        · unfold vnk
          rcases Nat.lt_or_ge j r with q | q
          · rw [v4 j s (by omega) q hs]; rfl
          · have nd := hd r j s0 s (by omega) hs0 hs
            have : vky x y z s = false := decide_eq_false (fun p => nd ⟨ky2.1.trans p.1.symm, ky2.2.1.trans p.2.1.symm, ky2.2.2.trans p.2.2.symm⟩)
            rw [this]; rfl
      have ele : (l.eraseIdx r).length = l.length - 1 := List.length_eraseIdx_of_lt rl
      have eh : vhit l x y z = true := by unfold vhit; rw [ef]; exact decide_eq_true (by omega)
      unfold vask at k
      rw [ef, eh] at k
      have es : (l.eraseIdx r ++ [(x, y, z, w)]).length = l.length - 1 + 1 := by rw [List.length_append, ele]; rfl
      rw [es, if_neg (by omega)] at k
      refine r_aload c21_18 rfl (r_dup c21_19 rfl (r_get c21_20 h0 rfl (r_ci c21_23 (r_iadd c21_24 ?_))))
      refine r_put c21_25 h0 hlo rfl ⟨rfl, rfl⟩ (fun h1 s1 => ?_)
      have f1 := vFr_st s1
      have g1 := s1.2.2.1
      dsimp only [vst] at g1
      have hM1 : vMe h1 a l.length (hi + 1) mi L := ⟨g1, pm, ⟨pp, (f1.2.2 _ (by omega)).trans hp, hp2⟩, hj, fun j hj2 => by
        obtain ⟨f, q1, q2⟩ := hr j hj2
        exact ⟨f, (f1.2.2 _ (by omega)).trans q1, q2⟩⟩
      refine r_goto c21_28 ?_
      refine tail h1 l.length r _ _ _ (l.eraseIdx r) hM1 (by omega) rl hn (r0.1.trans ky2.1) (r0.2.1.trans ky2.2.1) (r0.2.2.1.trans ky2.2.2) (fun j s hs => ?_) (fun h3 hM3 f3 => ?_) (vFr_lo f1 hlo)
      · rw [List.getElem?_eraseIdx] at hs
        split at hs
        · rename_i q; rw [if_pos q]; exact hL _ s hs
        · rename_i q; rw [if_neg q]; exact hL _ s hs
      · refine k h3 ?_ (vFr_tr (vFr_up f1 (fun q e => by omega)) f3)
        rw [show vBi (!true) = 0 by rfl, Int.add_zero]
        exact hM3

