theorem vmn_outer (c : ClassId) (N h0 : Nat) : ∀ i : Nat, Jvm.Free.Multi.outerC c N h0 i = arrV c N (fun j => va_rf (if j < i then some (h0 + 1 + j) else none))
  | 0 => by
    show ({ cls := c, slots := Array.replicate N .null, vm := .none } : Cell) = _
    rw [arrV_new]
    refine congrArg (arrV c N) (funext fun j => ?_)
    simp [va_rf]
  | i + 1 => by
    show (Jvm.Free.Multi.outerC c N h0 i).setSlot i (.ref (h0 + 1 + i)) = _
    rw [vmn_outer c N h0 i, arrV_store]
    refine congrArg (arrV c N) (funext fun j => ?_)
    by_cases e : j = i
    · subst e
      simp [updV, va_rf]
    · by_cases h : j < i
      · simp [updV, e, h, Nat.lt_succ_of_lt h]
      · simp [updV, e, h, show ¬ j < i + 1 by omega]
section SD4
variable {p : Program} {l : Launch} {e : Env} {Rm : Room} {s : State} {mid : MethodId} {args : Array Value} {below : List Frame} {meth : Method} {c : Code} {Qf : State → Prop} {G : vG} {lt : Nat × Nat} {r : vNr} {m d : Nat} {C : vCt} {R : vQ}
theorem sd_mnew (X : vCx p Rm s mid args meth c r m d G lt) : vk_mnew C m R (vSm p l e Rm s mid args below meth c Qf G lt) := by
  obtain ⟨hx, hb, hml, hown, hts, hw, hrt, hnm, hm, hr, hfr, hlo, hsz⟩ := X
  have hK := hw.1
  intro pc nx lv st h bc bs x y hc h1p h2p h3p h4p k0 hlen ls H locs cells slots hv0 hH hS hbc hbs
  obtain ⟨ins, len, i, hd, hk, rfl⟩ := vlk_ok hm hr hc
  obtain ⟨hH1, hH2, hH3, hH4⟩ := id hH
  rw [vq_57] at hk
  split at hk
  · rename_i ix kk
    obtain ⟨g1, g2⟩ := Bool.and_eq_true_iff.mp hk
    obtain ⟨rfl, rfl⟩ := of_decide_eq_true g2
    obtain ⟨hA1, hA2⟩ := vtys_prim hK 0 (by omega)
    have hAA := (hK.2 6 _ rfl).2
    have ex : (iI x).toNatClampNeg = x.toNat := iI_nat (by omega) (by omega)
    have ey : (iI y).toNatClampNeg = y.toNat := iI_nat (by omega) (by omega)
    intro T hT X
    obtain ⟨vm₁, cA, comp, hW1, fA, fC, hO, hI, X', step⟩ := X.multianewarray2F hx (ty := .int) hown (hts _ (vT1_of (vis_eq g1) rfl)) hw.2.2.2.2.1 (hts _ (vT1_arr 0 (by omega))) (g := F0 mid pc ls (.int (iI y) :: .int (iI x) :: st)) rfl (by rw [hb]; exact hd) (n := iI x) (k := iI y) (rest := st) rfl (fun z => by rw [iI_lt0 (by omega) (by omega)] at z; omega) (fun z => by rw [iI_lt0 (by omega) (by omega)] at z; omega) (by rw [ex]; omega) (by rw [ey]; show y.toNat * 4 ≤ _; omega) (by rw [ey]; omega) rfl rfl (by rw [ex]; omega) (by rw [ex, ey]; omega)
    have hcA : cA = G.2.2 6 := Option.some.inj (fA.symm.trans hAA)
    have hcC : comp = G.2.2 0 := Option.some.inj (fC.symm.trans hA2)
    subst hcA
    subst hcC
    rw [ex, ey] at X' step
    obtain ⟨f1, f2, -, -⟩ := Jvm.Free.Multi.fill_facts (T.setVm vm₁) (G.2.2 6) (G.2.2 0) x.toNat y.toNat (defaultValue .int) x.toNat
    have fold : ∀ q : Nat, q < (T.setVm vm₁).heap.size → _ := fun q hq => Jvm.Free.Multi.fill_old (T.setVm vm₁) (G.2.2 6) (G.2.2 0) x.toNat y.toNat (defaultValue .int) (a := q) hq x.toNat
    have finn := Jvm.Free.Multi.fill_inner (T.setVm vm₁) (G.2.2 6) (G.2.2 0) x.toNat y.toNat (defaultValue .int) x.toNat
    generalize Jvm.Free.Multi.fill (T.setVm vm₁) (G.2.2 6) (G.2.2 0) x.toNat y.toNat (defaultValue .int) x.toNat = F at X' step f1 f2 fold finn
    have hTh : (T.setVm vm₁).heap = H := hT
    rw [hTh] at f1 f2 fold finn
    have hout : Jvm.Free.Multi.outerC (G.2.2 6) x.toNat H.size x.toNat = vp_cell (G.2.2 6) (x.toNat, .inr (.inr (.inr (.inr (fun i => if i < x.toNat then some (H.size + 1 + i) else none))))) := by
      rw [vp_cell_q]
      exact vmn_outer (G.2.2 6) x.toNat H.size x.toNat
    rw [hout] at f2
    have hin0 : Jvm.Free.Multi.innerC (G.2.2 0) y.toNat (defaultValue .int) = vp_cell (G.2.2 0) (y.toNat, .inl fun _ => iI 0) := by
      rw [vp_cell_i, ← arrV_new]
      rfl
    rw [hin0] at finn
    let h' : vHp := (h.1, h.2.1 + 1 + x.toNat, fun q => if q = h.2.1 then some (.inl (6, x.toNat, .inr fun i => if i < x.toNat then some (h.2.1 + 1 + i) else none)) else if h.2.1 < q ∧ q < h.2.1 + 1 + x.toNat then some (.inl (0, y.toNat, .inl fun _ => 0)) else if h.2.1 + 1 + x.toNat ≤ q then none else h.2.2 q)
    have hNm : vNm h h' x.toNat y.toNat := ⟨rfl, rfl, by show (if _ then _ else _) = _; rw [if_pos rfl], fun j hj => by show (if _ then _ else _) = _; rw [if_neg (by omega), if_pos (by omega)], fun q hq => by show (if _ then _ else _) = _; rw [if_neg (by omega), if_neg (by omega), if_neg (by omega)]; rfl⟩
    have hH' : vHl G lt h' F.heap := by
      refine ⟨hH1, by show h.2.1 + 1 + x.toNat = _; rw [f1, hH2], by rw [f1]; omega, fun q z hq => ?_⟩
      have hq : (if q = h.2.1 then some (.inl (6, x.toNat, .inr fun i => if i < x.toNat then some (h.2.1 + 1 + i) else none)) else if h.2.1 < q ∧ q < h.2.1 + 1 + x.toNat then some (.inl (0, y.toNat, .inl fun _ => 0)) else if h.2.1 + 1 + x.toNat ≤ q then none else h.2.2 q : Option vE) = some z := hq
      by_cases e1 : q = h.2.1
      · rw [if_pos e1] at hq
        cases hq
        refine ⟨Or.inl ⟨by omega, ?_⟩, fun _ _ _ w => by cases w; omega⟩
        rw [e1, hH2]
        exact f2
      · rw [if_neg e1] at hq
        by_cases e2 : h.2.1 < q ∧ q < h.2.1 + 1 + x.toNat
        · rw [if_pos e2] at hq
          cases hq
          refine ⟨Or.inl ⟨by omega, ?_⟩, fun _ _ _ w => by cases w; omega⟩
          have := finn (q - (H.size + 1)) (by omega)
          rw [show H.size + 1 + (q - (H.size + 1)) = q by omega] at this
          exact this
        · rw [if_neg e2] at hq
          by_cases e3 : h.2.1 + 1 + x.toNat ≤ q
          · rw [if_pos e3] at hq; cases hq
          · rw [if_neg e3] at hq
            obtain ⟨w1, w2⟩ := hH4 q z hq
            exact ⟨vAx_kept w1 (fold q (vAx_lt w1)), w2⟩
    obtain ⟨t, a1, b1⟩ := k0 h' hNm hlen ls F.heap locs (cells + 1 + x.toNat) (slots + x.toNat + x.toNat * y.toNat) hv0 hH' ⟨by rw [f1]; have := hS.1; omega, fun q h1 h2 => (fold q (Nat.lt_of_lt_of_le h1 hS.1)).trans (hS.2.1 q h1 h2), hS.2.2⟩ (by omega) (by omega) F rfl X'
    refine ⟨t, step t ?_, b1⟩
    have e : T.heap.size = h.2.1 := by rw [hT, hH2]
    rw [e]
    exact a1
  · cases hk
end SD4
