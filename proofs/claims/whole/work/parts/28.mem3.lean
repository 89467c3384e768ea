theorem ml_25 : vml 25 = 5 := by decide +kernel
theorem c25_0 : vlk 25 0 = some (1, 0, 0, 0, 1) := by decide +kernel
theorem c25_1 : vlk 25 1 = some (7, 2, 0, 0, 2) := by decide +kernel
theorem c25_2 : vlk 25 2 = some (1, 0, 0, 0, 3) := by decide +kernel
theorem c25_3 : vlk 25 3 = some (7, 3, 0, 0, 4) := by decide +kernel
theorem c25_4 : vlk 25 4 = some (4, 3, 0, 0, 5) := by decide +kernel
theorem c25_5 : vlk 25 5 = some (6, 0, 0, 0, 6) := by decide +kernel
theorem c25_6 : vlk 25 6 = some (42, 1, 1, 0, 9) := by decide +kernel
theorem c25_9 : vlk 25 9 = some (79, 57, 0, 0, 12) := by decide +kernel
theorem c25_12 : vlk 25 12 = some (6, 0, 0, 0, 13) := by decide +kernel
theorem c25_13 : vlk 25 13 = some (42, 1, 0, 0, 16) := by decide +kernel
theorem c25_16 : vlk 25 16 = some (4, 3, 0, 0, 17) := by decide +kernel
theorem c25_17 : vlk 25 17 = some (48, 0, 0, 0, 18) := by decide +kernel
theorem c25_18 : vlk 25 18 = some (9, 4, 0, 0, 20) := by decide +kernel
theorem c25_20 : vlk 25 20 = some (6, 4, 0, 0, 22) := by decide +kernel
theorem c25_22 : vlk 25 22 = some (1, 0, 0, 0, 23) := by decide +kernel
theorem c25_23 : vlk 25 23 = some (45, 0, 0, 0, 24) := by decide +kernel
theorem c25_24 : vlk 25 24 = some (4, 1, 0, 0, 25) := by decide +kernel
theorem c25_25 : vlk 25 25 = some (76, 51, 0, 0, 28) := by decide +kernel
theorem c25_28 : vlk 25 28 = some (6, 0, 0, 0, 29) := by decide +kernel
theorem c25_29 : vlk 25 29 = some (42, 1, 0, 0, 32) := by decide +kernel
theorem c25_32 : vlk 25 32 = some (4, 3, 0, 0, 33) := by decide +kernel
theorem c25_33 : vlk 25 33 = some (6, 0, 0, 0, 34) := by decide +kernel
theorem c25_34 : vlk 25 34 = some (42, 1, 0, 0, 37) := by decide +kernel
theorem c25_37 : vlk 25 37 = some (4, 2, 0, 0, 38) := by decide +kernel
theorem c25_38 : vlk 25 38 = some (48, 0, 0, 0, 39) := by decide +kernel
theorem c25_39 : vlk 25 39 = some (52, 0, 0, 0, 40) := by decide +kernel
theorem c25_40 : vlk 25 40 = some (6, 0, 0, 0, 41) := by decide +kernel
theorem c25_41 : vlk 25 41 = some (42, 1, 0, 0, 44) := by decide +kernel
theorem c25_44 : vlk 25 44 = some (4, 2, 0, 0, 45) := by decide +kernel
theorem c25_45 : vlk 25 45 = some (6, 4, 0, 0, 47) := by decide +kernel
theorem c25_47 : vlk 25 47 = some (52, 0, 0, 0, 48) := by decide +kernel
theorem c25_48 : vlk 25 48 = some (10, 2, 0, 1, 51) := by decide +kernel
theorem c25_51 : vlk 25 51 = some (10, 3, 0, 1, 54) := by decide +kernel
theorem c25_54 : vlk 25 54 = some (37, 4, 0, 0, 57) := by decide +kernel
theorem c25_57 : vlk 25 57 = some (6, 0, 0, 0, 58) := by decide +kernel
theorem c25_58 : vlk 25 58 = some (4, 2, 0, 0, 59) := by decide +kernel
theorem c25_59 : vlk 25 59 = some (43, 1, 1, 0, 62) := by decide +kernel
theorem c25_62 : vlk 25 62 = some (66, 0, 0, 0, 63) := by decide +kernel
/-! Memory: forgetting a name, asking -/
def vnx (x : Int) (s : vSp) : Bool := !decide (s.1 = x)
theorem vRw_cg {L M : Nat → Nat → Int} {i j : Nat} {s : vSp} (h : vRw L i s) (e : ∀ k, k < 4 → M j k = L i k) : vRw M j s := ⟨(e 0 (by omega)).trans h.1, (e 1 (by omega)).trans h.2.1, (e 2 (by omega)).trans h.2.2.1, (e 3 (by omega)).trans h.2.2.2⟩
/-- two positions change places -/
def vsw2 {α : Type} (L : Nat → α) (i j t : Nat) : α := if t = i then L j else if t = j then L i else L t
theorem k_forget {d a : Nat} {hi mi x : Int} {l : List vSp} {h : vHp} {Q : vQ} (hM : vMm h a l hi mi) (hlo : h.1.1 ≤ a) (hb : ∀ s, s ∈ l → -2147483648 ≤ s.1 ∧ s.1 ≤ 2147483647) (x1 : -2147483648 ≤ x) (x2 : x ≤ 2147483647) (k : ∀ h', vMm h' a (l.filter (vnx x)) hi mi → vFr (fun q => a ≤ q ∧ q < a + 8) h h' → Q none h') : vCall (d + 1) 0 0 25 [.ref a, .int (iI x)] h Q := by
  obtain ⟨hn, L, hM, hL⟩ := hM
  have loop : ∀ u i : Nat, i + u = l.length → ∀ (h1 : vHp) (L1 : Nat → Nat → Int), vMe h1 a l.length hi mi L1 → (∀ j s, i ≤ j → l[j]? = some s → vRw L1 j s) → (∀ j s, ((l.take i).filter (vnx x))[j]? = some s → vRw L1 j s) → vFr (fun q => a ≤ q ∧ q < a + 8) h h1 → ∀ x4 : Value, vW (vCall d) 25 Q 4 [.ref a, .int (iI x), .int (iI (((l.take i).filter (vnx x)).length : Nat)), .int (iI (i : Int)), x4] [] h1 0 0 := by
    intro u
    induction u with
    | zero =>
      intro i hi' h1 L1 hM1 hA hB fr x4
      obtain ⟨h0, pm, ⟨pp, hp, hp2⟩, hj, hr⟩ := hM1
      unfold vMo at h0
      refine r_iload c25_4 rfl (r_aload c25_5 rfl (r_get c25_6 h0 rfl ?_))
      refine r_icge c25_9 (by omega) (by omega) (by omega) (by omega) (fun c_9 => ?_) (fun q => by exfalso; omega)
      refine r_aload c25_57 rfl (r_iload c25_58 rfl ?_)
      refine r_put c25_59 h0 (vFr_lo fr hlo) rfl ⟨rfl, rfl⟩ (fun h2 s2 => ?_)
      refine r_vret (st := []) c25_62 ?_
      have f2 := vFr_st s2
      have et : l.take i = l := List.take_of_length_le (by omega)
      rw [et] at s2 hB
      refine k h2 ⟨Nat.le_trans (List.length_filter_le _ _) hn, L1, ⟨s2.2.2.1, pm, ⟨pp, (f2.2.2 _ (by omega)).trans hp, hp2⟩, hj, fun j hj2 => ?_⟩, hB⟩ (vFr_tr fr (vFr_up f2 (fun q e => by omega)))
      obtain ⟨f, g1, g2⟩ := hr j hj2
      exact ⟨f, (f2.2.2 _ (by omega)).trans g1, g2⟩
    | succ u ih =>
      intro i hi' h1 L1 hM1 hA hB fr x4
      have hM1' := hM1
      obtain ⟨h0, pm, ⟨pp, hp, hp2⟩, hj, hr⟩ := hM1
      unfold vMo at h0
      have hil : i < l.length := by omega
      obtain ⟨s, hs⟩ : ∃ s, l[i]? = some s := ⟨l[i], List.getElem?_eq_getElem hil⟩
      have hsm : s ∈ l := List.mem_of_getElem? hs
      have bs := hb s hsm
      have rw1 := hA i s (Nat.le_refl i) hs
      have et : l.take (i + 1) = l.take i ++ [s] := by rw [List.take_add_one, hs]; rfl
      have hlen : ((l.take i).filter (vnx x)).length ≤ i := Nat.le_trans (List.length_filter_le _ _) (by rw [List.length_take]; omega)
      obtain ⟨f, hf1, hf2⟩ := hr i (by omega)
      have f0 : f (0 : Int).toNat = s.1 := (hf2 0 (by omega)).trans rw1.1
      refine r_iload c25_4 rfl (r_aload c25_5 rfl (r_get c25_6 h0 rfl ?_))
      refine r_icge c25_9 (by omega) (by omega) (by omega) (by omega) (fun q => by exfalso; omega) (fun c_9 => ?_)
      refine r_aload c25_12 rfl (r_get c25_13 h0 rfl (r_iload c25_16 rfl (r_aald c25_17 hp (by omega) (by omega) (by omega) (by rw [Int.toNat_natCast]; exact hp2 i (by omega)) (r_astore c25_18 rfl (r_aload c25_20 rfl (r_ci c25_22 (r_iald c25_23 hf1 (by omega) (by omega) (r_iload c25_24 rfl ?_))))))))
      try dsimp only [vst]
      rw [f0]
      refine r_iceq c25_25 (by omega) (by omega) (by omega) (by omega) (fun c_25 => ?_) (fun c_25 => ?_)
      · have ef : (l.take (i + 1)).filter (vnx x) = (l.take i).filter (vnx x) := by
          rw [et, List.filter_append, List.filter_cons_of_neg (by unfold vnx; simp [c_25])]
          simp
        refine r_iinc c25_51 rfl rfl (r_goto c25_54 ?_)
        try dsimp only [vst]
        rw [vsu, ← ef]
        refine ih (i + 1) (by omega) h1 L1 hM1' (fun j t hj2 ht => hA j t (by omega) ht) (fun j t ht => ?_) fr _
        rw [ef] at ht
        exact hB j t ht
      · have ef : (l.take (i + 1)).filter (vnx x) = (l.take i).filter (vnx x) ++ [s] := by
          rw [et, List.filter_append, List.filter_cons_of_pos (by unfold vnx; simp [c_25])]
          simp
        generalize hF : (l.take i).filter (vnx x) = F at *
        obtain ⟨g, hg1, hg2⟩ := hr F.length (by omega)
        refine r_aload c25_28 rfl (r_get c25_29 h0 rfl (r_iload c25_32 rfl (r_aload c25_33 rfl (r_get c25_34 h0 rfl (r_iload c25_37 rfl (r_aald c25_38 hp (by omega) (by omega) (by omega) (by rw [Int.toNat_natCast]; exact hp2 F.length (by omega)) ?_))))))
        refine r_aastA c25_39 hp  (vFr_lo fr (by omega)) (by omega) (by omega) hg1 (vFr_lo fr (by omega)) (fun h2 s2 => ?_)
        have f2 := vFr_st s2
        have h02 := (f2.2.2 a (by omega)).trans h0
        refine r_aload c25_40 rfl (r_get c25_41 h02 rfl (r_iload c25_44 rfl (r_aload c25_45 rfl ?_)))
        refine r_aastA c25_47 s2.2.2.1  (vFr_lo f2 (vFr_lo fr (by omega))) (by omega) (by omega) ((f2.2.2 _ (by omega)).trans hf1) (vFr_lo f2 (vFr_lo fr (by omega))) (fun h3 s3 => ?_)
        have f3 := vFr_tr f2 (vFr_st s3)
        refine r_iinc c25_48 rfl rfl (r_iinc c25_51 rfl rfl (r_goto c25_54 ?_))
        try dsimp only [vst]
        rw [vsu, vsu, show F.length + 1 = (F ++ [s]).length by simp, ← ef]
        have hM3 : vMe h3 a l.length hi mi (vsw2 L1 i F.length) := by
          refine ⟨(f3.2.2 a (by omega)).trans h0, vsw2 pm i F.length, ⟨_, s3.2.2.1, fun j hj2 => ?_⟩, ⟨fun j hj2 => ?_, fun j t hj2 ht2 e => ?_⟩, fun j hj2 => ?_⟩
          · unfold vup vsw2
            rw [Int.toNat_natCast, Int.toNat_natCast]
            by_cases e1 : j = F.length
            · rw [if_pos e1]
              by_cases e2 : j = i
              · rw [if_pos e2, ← e2, ← e1]
              · rw [if_neg e2, if_pos e1]
            · rw [if_neg e1]
              by_cases e2 : j = i
              · rw [if_pos e2, if_pos e2]
              · rw [if_neg e2, if_neg e2, if_neg e1]; exact hp2 j hj2
          · unfold vsw2
            split
            · exact hj.1 _ (by omega)
            · split
              · exact hj.1 _ (by omega)
              · exact hj.1 _ hj2
          · have key : ∀ y z, y < 6 → z < 6 → pm y = pm z → y = z := hj.2
            unfold vsw2 at e
            split at e <;> split at e <;> first
              | (have := key _ _ (by omega) (by omega) e; omega)
              | (split at e <;> first
                  | (have := key _ _ (by omega) (by omega) e; omega)
                  | (split at e <;> (have := key _ _ (by omega) (by omega) e; omega)))
          · have gg : ∃ t, t < 6 ∧ vsw2 pm i F.length j = pm t ∧ vsw2 L1 i F.length j = L1 t := by
              unfold vsw2
              split
              · exact ⟨F.length, by omega, rfl, rfl⟩
              · split
                · exact ⟨i, by omega, rfl, rfl⟩
                · exact ⟨j, hj2, rfl, rfl⟩
            obtain ⟨t, t1, t2, t3⟩ := gg
            obtain ⟨f, q1, q2⟩ := hr t t1
            rw [t2, t3]
            exact ⟨f, (f3.2.2 _ (by omega)).trans q1, q2⟩
        refine ih (i + 1) (by omega) h3 _ hM3 (fun j t hj2 ht => ?_) (fun j t ht => ?_) (vFr_tr fr (vFr_up f3 (fun q e => by omega))) _
        · refine vRw_cg (hA j t (by omega) ht) (fun k hk => ?_)
          unfold vsw2
          rw [if_neg (by omega), if_neg (by omega)]
        · rw [ef, List.getElem?_append] at ht
          split at ht
          · rename_i hlt
            refine vRw_cg (hB j t ht) (fun k hk => ?_)
            unfold vsw2
            rw [if_neg (by omega), if_neg (by omega)]
          · rename_i hge
            have ej : j = F.length := by
              rcases Nat.lt_or_ge (j - F.length) 1 with q | q
              · omega
              · rw [List.getElem?_eq_none (by simpa using q)] at ht
                cases ht
            rw [ej, Nat.sub_self] at ht
            have est : s = t := by simpa using ht
            subst est
            refine vRw_cg rw1 (fun k hk => ?_)
            unfold vsw2
            by_cases e : j = i
            · rw [if_pos e, ← ej, e]
            · rw [if_neg e, if_pos ej]
  refine vin 5 [_, _, _, _, _] ml_25 rfl rfl ?_
  refine r_ci c25_0 (r_istore c25_1 rfl (r_ci c25_2 (r_istore c25_3 rfl ?_)))
  try dsimp only [vst]
  exact loop l.length 0 (by omega) h L hM (fun j s _ hs => hL j s hs) (fun j s hs => by simp at hs) vFr_rf _

