
theorem vcls : ∀ (ci : Nat) (q : vw_C), vwCl[ci]? = some q → (∀ w ∈ u_ws q.1 q.2.1 q.2.2, w ∈ vT1) ∧ (∀ k, k < q.2.2 → parseFieldDescriptor (q.2.1 k).2.2.1 = some (vtyx ci k)) ∧ (∀ a, a < q.2.2 → ∀ b, b < q.2.2 → a ≠ b → (q.2.1 a).2.1 ≠ (q.2.1 b).2.1) := by
  have go : ∀ ws : List Jvm.Cond, (∀ w ∈ ws, w ∈ lw_tbl ∧ goodWord w = true) → ∀ w ∈ ws, w ∈ vT1 := fun ws h w hw => vT1_of (h w hw).1 (h w hw).2
  intro ci q hq
  match ci, hq with
  | 0, hq => cases hq; exact ⟨go _ (by decide +kernel), tyX0_ok, nmX0⟩
  | 1, hq => cases hq; exact ⟨go _ (by decide +kernel), tyX1_ok, nmX1⟩
  | 2, hq => cases hq; exact ⟨go _ (by decide +kernel), tyX2_ok, nmX2⟩
  | 3, hq => cases hq; exact ⟨go _ (by decide +kernel), tyX3_ok, nmX3⟩
  | 4, hq => cases hq; exact ⟨go _ (by decide +kernel), tyX4_ok, nmX4⟩
  | 5, hq => cases hq; exact ⟨go _ (by decide +kernel), tyX5_ok, nmX5⟩
  | 6, hq => cases hq; exact ⟨go _ (by decide +kernel), tyX6_ok, nmX6⟩
  | k + 7, hq => simp [vwCl] at hq
theorem vgt_get : ∀ (l : List Value) (i : Nat), vgt l i = l[i]?
  | [], _ => by simp [vgt]
  | _ :: _, 0 => by simp [vgt]
  | _ :: l, i + 1 => by simp [vgt, vgt_get l i]
theorem vst_set : ∀ (l : List Value) (i : Nat) (v : Value), vst l i v = l.set i v
  | [], _, _ => by simp [vst]
  | _ :: _, 0, _ => by simp [vst]
  | _ :: l, i + 1, v => by simp [vst, vst_set l i v]
theorem vP1 {D : va_G} {cl : List vw_C} {q : Nat × va_E} {H : Heap} (h : va_at D cl q H) : va_P D cl [q] H := by
  intro k x hx
  have h0 : k < 1 := (List.getElem?_eq_some_iff.mp hx).1
  rw [show k = 0 by omega] at hx
  cases hx
  exact h
def vwr (h : vHp) (a : Nat) (x : vE) : vHp := (h.1, h.2.1, fun q => if q = a then some x else h.2.2 q)
theorem vwr_St (h : vHp) (a : Nat) (x : vE) : vSt h (vwr h a x) a x := ⟨rfl, rfl, by simp [vwr, hg], fun q hq => by simp [vwr, hg, hq]⟩
theorem vHl_put {G : vG} {lt : Nat × Nat} {h : vHp} {H H1 : Heap} {a : Nat} {x : vE} (hH : vHl G lt h H) (hlo : lt.1 ≤ a) (z : H1.size = H.size) (oq : ∀ q : Nat, q ≠ a → H1[q]? = H[q]?) (hat : va_at (G.1, G.2.1) vwCl (a, vcv G.2.2 x) H1) (hn : ∀ τ n d, x = .inl (τ, n, d) → n < 2147483648) : vHl G lt (vwr h a x) H1 := by
  obtain ⟨h1, h2, h3, h4⟩ := hH
  refine ⟨h1, h2.trans z.symm, by rw [z]; exact h3, fun q y hq => ?_⟩
  by_cases e : q = a
  · subst e
    simp [vwr, hg] at hq
    subst hq
    exact ⟨Or.inl ⟨hlo, hat⟩, hn⟩
  · have hq' : hg h q = some y := by simpa [vwr, hg, e] using hq
    obtain ⟨g1, g2⟩ := h4 q y hq'
    exact ⟨vAx_kept g1 (oq q e), g2⟩
def vmk (h : vHp) (x : vE) : vHp := (h.1, h.2.1 + 1, fun q => if q = h.2.1 then some x else h.2.2 q)
theorem vmk_Nw (h : vHp) (x : vE) : vNw h (vmk h x) x := ⟨rfl, rfl, by simp [vmk, hg], fun q hq => by simp [vmk, hg, hq]⟩
theorem vHl_new {G : vG} {lt : Nat × Nat} {h : vHp} {H H1 : Heap} {x : vE} (hH : vHl G lt h H) (z : H1.size = H.size + 1) (oq : ∀ q : Nat, q < H.size → H1[q]? = H[q]?) (hat : va_at (G.1, G.2.1) vwCl (H.size, vcv G.2.2 x) H1) (hn : ∀ τ n d, x = .inl (τ, n, d) → n < 2147483648) : vHl G lt (vmk h x) H1 := by
  obtain ⟨h1, h2, h3, h4⟩ := hH
  refine ⟨h1, by show h.2.1 + 1 = _; rw [h2, z], by rw [z]; omega, fun q y hq => ?_⟩
  by_cases e : q = h.2.1
  · subst e
    simp [vmk, hg] at hq
    subst hq
    rw [h2]
    exact ⟨Or.inl ⟨h3, hat⟩, hn⟩
  · have hq' : hg h q = some y := by simpa [vmk, hg, e] using hq
    obtain ⟨g1, g2⟩ := h4 q y hq'
    exact ⟨vAx_kept g1 (oq q (vAx_lt g1)), g2⟩
theorem vS_new {A : Nat → Prop} {H0 H H1 : Heap} {locs : List Loc} (hS : va_S A H0 H locs) (z : H1.size = H.size + 1) (oq : ∀ q : Nat, q < H.size → H1[q]? = H[q]?) : va_S A H0 H1 locs :=
  ⟨Nat.le_trans hS.1 (by omega), fun x h1 h2 => (oq x (Nat.lt_of_lt_of_le h1 hS.1)).trans (hS.2.1 x h1 h2), hS.2.2⟩
section SD2
variable {p : Program} {l : Launch} {e : Env} {Rm : Room} {s : State} {mid : MethodId} {args : Array Value} {below : List Frame} {meth : Method} {c : Code} {Qf : State → Prop} {G : vG} {lt : Nat × Nat} {r : vNr} {m d : Nat} {C : vCt} {R : vQ}
theorem sd_get (X : vCx p Rm s mid args meth c r m d G lt) : vk_get C m R (vSm p l e Rm s mid args below meth c Qf G lt) := by
  obtain ⟨hx, hb, hml, hown, hts, hw, hrt, hnm, hm, hr, hfr, hlo, hsz⟩ := X
  have hK := hw.1
  intro pc nx lv st h bc bs ci k a fs v hc hop hvp k0 hlen ls H locs cells slots hv0 hH hS hbc hbs
  obtain ⟨ins, len, i, hd, hk, rfl⟩ := vlk_ok hm hr hc
  obtain ⟨hH1, hH2, hH3, hH4⟩ := id hH
  rw [vq_42] at hk
  split at hk
  · rename_i x
    unfold vckc at hk
    cases hq : vwCl[ci]? with
    | none => rw [hq] at hk; cases hk
    | some q =>
      rw [hq] at hk
      obtain ⟨Cn, T, N⟩ := q
      simp only [Bool.and_eq_true, decide_eq_true_eq] at hk
      obtain ⟨hws, hty, hap0⟩ := vcls ci _ hq
      have hat : va_at (G.1, G.2.1) vwCl (a, .inr (ci, fs)) H := vAx_at (hH4 _ _ hop).1 (Or.inr fun _ _ q => by cases q)
      have hin : ∀ w ∈ u_ws Cn T N, w ∈ vT1 := hws
      obtain ⟨⟨⟨g1, g2⟩, g3⟩, rfl⟩ := hk
      exact va_get (D := (G.1, G.2.1)) (ci := ci) (C := Cn) (T := T) (N := N) hx hb hts hin hown hK (vP1 hat) 0 rfl hq k g1 (hts _ (vT1_of (vis_eq g3) rfl)) (fun _ h9 => by rw [g2] at h9; exact h9) (by rw [← vgt_get]; exact hvp) hd (k0 hlen ls H locs cells slots hv0 hH hS hbc hbs)
  · cases hk
theorem sd_put (X : vCx p Rm s mid args meth c r m d G lt) : vk_put C m R (vSm p l e Rm s mid args below meth c Qf G lt) := by
  obtain ⟨hx, hb, hml, hown, hts, hw, hrt, hnm, hm, hr, hfr, hlo, hsz⟩ := X
  have hK := hw.1
  intro pc nx lv st h bc bs ci k a fs v u hc hop hlop hup hfp k0 hlen ls H locs cells slots hv0 hH hS hbc hbs
  obtain ⟨ins, len, i, hd, hk, rfl⟩ := vlk_ok hm hr hc
  obtain ⟨hH1, hH2, hH3, hH4⟩ := id hH
  rw [vq_43] at hk
  split at hk
  · rename_i x
    unfold vckc at hk
    cases hq : vwCl[ci]? with
    | none => rw [hq] at hk; cases hk
    | some q =>
      rw [hq] at hk
      obtain ⟨Cn, T, N⟩ := q
      simp only [Bool.and_eq_true, decide_eq_true_eq] at hk
      obtain ⟨hws, hty, hap0⟩ := vcls ci _ hq
      have hat : va_at (G.1, G.2.1) vwCl (a, .inr (ci, fs)) H := vAx_at (hH4 _ _ hop).1 (Or.inr fun _ _ q => by cases q)
      have hin : ∀ w ∈ u_ws Cn T N, w ∈ vT1 := hws
      obtain ⟨⟨⟨⟨g1, g2⟩, g3⟩, rfl⟩, g4⟩ := hk
      have hkl : k < fs.length := vgt_lt hup
      have hapt := va_apart (own := r.1.cls) hts hin (vtyx ci) hty hap0 hK hq
      obtain ⟨r0, e0, cell, q1, q2, q3, q4⟩ := hat
      have hr0 : r0 = (Cn, T, N) := Option.some.inj (e0.symm.trans hq)
      subst hr0
      obtain ⟨hS', hfc, kC, hkC, hkind⟩ := hK.1 ci _ hq
      obtain ⟨cf, kf, fi, f, hi, hsl⟩ := hS' k g1
      have hlay := hts _ (hin _ (u_in_lay g1))
      unfold u_lay at hlay
      rw [if_neg (by rw [g4]; decide)] at hlay
      have hst := (u_facts hfc hkC (u_lays hts hin g1) hi).1
      have h6 := u_store hfc hkC hkind hlay hi (hty k g1) hfp.1 hfp.2
      refine W.putK hx hb (f := f) ⟨hown, hts _ (vT1_of (vis_eq g3) rfl), ⟨_, _, _, by have h9 := hi; rw [g2] at h9; exact h9⟩, hst⟩ (by rw [q2]; exact h6) q1 q3 (by rw [hsl]; exact k2_hasslot (q4 k g1)) rfl rfl hd fun H1 e1 e2 e3 => ?_
      rw [hsl] at e1 ⊢
      have hnew : va_at (G.1, G.2.1) vwCl (a, .inr (ci, vst fs k v)) H1 := ⟨_, hq, by rw [vst_set]; exact t_OB.to (V := updV (vp_V fs) k v) ⟨_, e1, q2, q3, t_set q4 hapt g1 v⟩ (fun j _ => vp_updV_set hkl v j)⟩
      exact k0 (vwr h a (.inr (ci, vst fs k v))) (vwr_St _ _ _) hlen ls H1 _ cells slots hv0 (vHl_put hH (by rw [hH1] at hlop; exact hlop) e2 e3 hnew (fun _ _ _ z => by cases z)) (hS.put e2 e3 (by rw [hH1] at hlop; exact hlop)) hbc hbs
  · cases hk
theorem sd_putF (X : vCx p Rm s mid args meth c r m d G lt) : vk_putF C m R (vSm p l e Rm s mid args below meth c Qf G lt) := by
  obtain ⟨hx, hb, hml, hown, hts, hw, hrt, hnm, hm, hr, hfr, hlo, hsz⟩ := X
  have hK := hw.1
  intro pc nx lv st h bc bs ci k a fs v u hc hop hlop hup hfp k0 hlen ls H locs cells slots hv0 hH hS hbc hbs
  obtain ⟨ins, len, i, hd, hk, rfl⟩ := vlk_ok hm hr hc
  obtain ⟨hH1, hH2, hH3, hH4⟩ := id hH
  rw [vq_68] at hk
  split at hk
  · rename_i x
    unfold vckc at hk
    cases hq : vwCl[ci]? with
    | none => rw [hq] at hk; cases hk
    | some q =>
      rw [hq] at hk
      obtain ⟨Cn, T, N⟩ := q
      simp only [Bool.and_eq_true, decide_eq_true_eq] at hk
      obtain ⟨hws, hty, hap0⟩ := vcls ci _ hq
      have hat : va_at (G.1, G.2.1) vwCl (a, .inr (ci, fs)) H := vAx_at (hH4 _ _ hop).1 (Or.inr fun _ _ q => by cases q)
      have hin : ∀ w ∈ u_ws Cn T N, w ∈ vT1 := hws
      obtain ⟨⟨⟨⟨⟨⟨g1, g2⟩, g3⟩, rfl⟩, g4⟩, g5⟩, g6⟩ := hk
      have hkl : k < fs.length := vgt_lt hup
      have hapt := va_apart (own := r.1.cls) hts hin (vtyx ci) hty hap0 hK hq
      obtain ⟨r0, e0, cell, q1, q2, q3, q4⟩ := hat
      have hr0 : r0 = (Cn, T, N) := Option.some.inj (e0.symm.trans hq)
      subst hr0
      obtain ⟨hS', hfc, kC, hkC, hkind⟩ := hK.1 ci _ hq
      obtain ⟨cf, kf, fi, f, hi, hsl⟩ := hS' k g1
      have hlay := hts _ (hin _ (u_in_lay g1))
      unfold u_lay at hlay
      rw [if_pos g4] at hlay
      have hst := (u_facts hfc hkC (u_lays hts hin g1) hi).1
      have hcf : mid.cls = cf := by
        obtain ⟨_, _, c', _, _, _, -, -, hf', -, -, -, hown2, -⟩ := Cond.laysFinal_spec hlay
        have e1 : c' = cf := by have := hi.symm.trans hf'; simp at this; exact this.1.symm
        rw [g2, ← g5] at hown2
        rw [← e1]; exact Option.some.inj (hown.symm.trans hown2)
      have h6 := u_fits hfc hkC hkind (Or.inr hlay) hi (hty k g1) hfp.1 hfp.2
      refine W.putFinK hx hb hown (hts _ (vT1_of (vis_eq g3) rfl)) (by have h9 := hi; rw [g2] at h9; exact h9) hst hcf (by rw [hnm]; exact g6) (by rw [q2]; exact h6) q1 q3 (by rw [hsl]; exact k2_hasslot (q4 k g1)) rfl rfl hd fun H1 e1 e2 e3 => ?_
      rw [hsl] at e1 ⊢
      have hnew : va_at (G.1, G.2.1) vwCl (a, .inr (ci, vst fs k v)) H1 := ⟨_, hq, by rw [vst_set]; exact t_OB.to (V := updV (vp_V fs) k v) ⟨_, e1, q2, q3, t_set q4 hapt g1 v⟩ (fun j _ => vp_updV_set hkl v j)⟩
      exact k0 (vwr h a (.inr (ci, vst fs k v))) (vwr_St _ _ _) hlen ls H1 _ cells slots hv0 (vHl_put hH (by rw [hH1] at hlop; exact hlop) e2 e3 hnew (fun _ _ _ z => by cases z)) (hS.put e2 e3 (by rw [hH1] at hlop; exact hlop)) hbc hbs
  · cases hk
theorem sd_gets (X : vCx p Rm s mid args meth c r m d G lt) : vk_gets C m R (vSm p l e Rm s mid args below meth c Qf G lt) := by
  obtain ⟨hx, hb, hml, hown, hts, hw, hrt, hnm, hm, hr, hfr, hlo, hsz⟩ := X
  have hK := hw.1
  intro pc nx lv st h bc bs b hc  k0 hlen ls H locs cells slots hv0 hH hS hbc hbs
  obtain ⟨ins, len, i, hd, hk, rfl⟩ := vlk_ok hm hr hc
  obtain ⟨hH1, hH2, hH3, hH4⟩ := id hH
  rw [vq_44] at hk
  split at hk
  · obtain ⟨g1, g2⟩ := Bool.and_eq_true_iff.mp hk
    have g2 := of_decide_eq_true g2
    subst g2
    rw [hH1] at k0
    by_cases hb0 : b = 0
    · rw [if_pos hb0] at g1
      exact va_gets hx hb hw.2.1 hS hown (hts _ (vT1_of (vis_eq g1) rfl)) (fun _ h9 => h9) hd (k0 hlen ls H locs cells slots hv0 hH hS hbc hbs)
    · rw [if_neg hb0] at g1
      exact va_getsN hx hb hw.2.1 hS hown (va_Nw.use rfl (hw.2.2.1 _ (vT2_of (vis_eq g1) rfl))) (fun _ h9 => h9) hd (k0 hlen ls H locs cells slots hv0 hH hS hbc hbs)
  · cases hk
theorem sd_iald (X : vCx p Rm s mid args meth c r m d G lt) : vk_iald C m R (vSm p l e Rm s mid args below meth c Qf G lt) := by
  obtain ⟨hx, hb, hml, hown, hts, hw, hrt, hnm, hm, hr, hfr, hlo, hsz⟩ := X
  have hK := hw.1
  intro pc nx lv st h bc bs x a n f hc hop h1p h2p k0 hlen ls H locs cells slots hv0 hH hS hbc hbs
  obtain ⟨ins, len, i, hd, hk, rfl⟩ := vlk_ok hm hr hc
  obtain ⟨hH1, hH2, hH3, hH4⟩ := id hH
  rw [vq_45] at hk
  obtain ⟨rfl, rfl⟩ := of_decide_eq_true hk
  have hn := (hH4 _ _ hop).2 _ _ _ rfl
  have hlt9 : n ≤ 2147483647 := by omega
  rcases (hH4 _ _ hop).1 with ⟨-, hat⟩ | ⟨-, n', f', eo, ho⟩
  case inr =>
    cases eo
    obtain ⟨cell, c1, c2, c3, c4, c5, c6, c7⟩ := ho
    have e1 : (iI x).toNatClampNeg = x.toNat := iI_nat (by omega) (by omega)
    exact W.iald (v := .int (iI (f x.toNat))) hx hb c1 (vOl_arr hw c2 c3) c4 (fun z => by
      rw [e1, iI_lt0 (by omega) (by omega)] at z; omega) (by rw [e1]; exact c7 _ (by omega)) rfl rfl hd (k0 hlen ls H locs cells slots hv0 hH hS hbc hbs)
  have hat : va_at (G.1, G.2.1) vwCl (a, .inl (G.2.2 0, n, .inl fun i => iI (f i))) H := hat
  refine va_iald (D := (G.1, G.2.1)) hx hb hK (vP1 hat) 0 0 rfl rfl (iI_in h1p h2p hn) hd ?_
  have e1 : (iI x).toNatClampNeg = x.toNat := iI_nat (by omega) (by omega)
  rw [e1]
  exact k0 hlen ls H locs cells slots hv0 hH hS hbc hbs
theorem sd_lald (X : vCx p Rm s mid args meth c r m d G lt) : vk_lald C m R (vSm p l e Rm s mid args below meth c Qf G lt) := by
  obtain ⟨hx, hb, hml, hown, hts, hw, hrt, hnm, hm, hr, hfr, hlo, hsz⟩ := X
  have hK := hw.1
  intro pc nx lv st h bc bs x a n f hc hop h1p h2p k0 hlen ls H locs cells slots hv0 hH hS hbc hbs
  obtain ⟨ins, len, i, hd, hk, rfl⟩ := vlk_ok hm hr hc
  obtain ⟨hH1, hH2, hH3, hH4⟩ := id hH
  rw [vq_46] at hk
  obtain ⟨rfl, rfl⟩ := of_decide_eq_true hk
  have hn := (hH4 _ _ hop).2 _ _ _ rfl
  have hat : va_at (G.1, G.2.1) vwCl (a, .inl (G.2.2 1, n, .inr (.inl fun i => lZ (f i)))) H := vAx_at (hH4 _ _ hop).1 (Or.inr fun _ _ q => by cases q)
  refine va_lald (D := (G.1, G.2.1)) hx hb hK (vP1 hat) 0 1 rfl rfl (iI_in h1p h2p hn) hd ?_
  have e1 : (iI x).toNatClampNeg = x.toNat := iI_nat (by omega) (by omega)
  rw [e1]
  exact k0 hlen ls H locs cells slots hv0 hH hS hbc hbs
theorem sd_bald (X : vCx p Rm s mid args meth c r m d G lt) : vk_bald C m R (vSm p l e Rm s mid args below meth c Qf G lt) := by
  obtain ⟨hx, hb, hml, hown, hts, hw, hrt, hnm, hm, hr, hfr, hlo, hsz⟩ := X
  have hK := hw.1
  intro pc nx lv st h bc bs x a n f hc hop h1p h2p k0 hlen ls H locs cells slots hv0 hH hS hbc hbs
  obtain ⟨ins, len, i, hd, hk, rfl⟩ := vlk_ok hm hr hc
  obtain ⟨hH1, hH2, hH3, hH4⟩ := id hH
  rw [vq_47] at hk
  obtain ⟨rfl, rfl⟩ := of_decide_eq_true hk
  have hn := (hH4 _ _ hop).2 _ _ _ rfl
  have hat : va_at (G.1, G.2.1) vwCl (a, .inl (G.2.2 2, n, .inl fun i => iI (f i))) H := vAx_at (hH4 _ _ hop).1 (Or.inr fun _ _ q => by cases q)
  refine va_zald (D := (G.1, G.2.1)) hx hb hK (vP1 hat) 0 2 rfl rfl (iI_in h1p h2p hn) hd ?_
  have e1 : (iI x).toNatClampNeg = x.toNat := iI_nat (by omega) (by omega)
  rw [e1]
  exact k0 hlen ls H locs cells slots hv0 hH hS hbc hbs
theorem vtys_at {G : vG} {s : State} (hK : va_K (G.1, G.2.1) vwCl (vtys G.2.2) s) : ∀ τ : Nat, 3 ≤ τ → τ < 7 → ∃ ty : FieldType, ty.isReference = true ∧ ArrOfT s (G.2.2 τ) ty
  | 3, _, _ => ⟨_, rfl, (hK.2 3 _ rfl).1⟩
  | 4, _, _ => ⟨_, rfl, (hK.2 4 _ rfl).1⟩
  | 5, _, _ => ⟨_, rfl, (hK.2 5 _ rfl).1⟩
  | 6, _, _ => ⟨_, rfl, (hK.2 6 _ rfl).1⟩
  | 0, h, _ => absurd h (by omega)
  | 1, h, _ => absurd h (by omega)
  | 2, h, _ => absurd h (by omega)
  | τ + 7, _, h => absurd h (by omega)
theorem sd_aald (X : vCx p Rm s mid args meth c r m d G lt) : vk_aald C m R (vSm p l e Rm s mid args below meth c Qf G lt) := by
  obtain ⟨hx, hb, hml, hown, hts, hw, hrt, hnm, hm, hr, hfr, hlo, hsz⟩ := X
  have hK := hw.1
  intro pc nx lv st h bc bs x a n τ pp rr hc hop htp h1p h2p hrp k0 hlen ls H locs cells slots hv0 hH hS hbc hbs
  obtain ⟨ins, len, i, hd, hk, rfl⟩ := vlk_ok hm hr hc
  obtain ⟨hH1, hH2, hH3, hH4⟩ := id hH
  rw [vq_48] at hk
  obtain ⟨rfl, rfl⟩ := of_decide_eq_true hk
  have hat : va_at (G.1, G.2.1) vwCl (a, .inl (G.2.2 τ, n, .inr (.inr (.inr (.inr pp))))) H := vAx_at (hH4 _ _ hop).1 (Or.inr fun _ _ q => by cases q)
  have hn := (hH4 _ _ hop).2 _ _ _ rfl
  obtain ⟨ty, hre, hty⟩ := vtys_at hK τ htp.1 htp.2
  have e1 : (iI x).toNatClampNeg = x.toNat := iI_nat (by omega) (by omega)
  have hin := iI_in h1p h2p hn
  have hlt : (iI x).toNatClampNeg < n := by rw [e1]; omega
  refine W.aald (v := .ref rr) (ty := ty) hx hb hat (hty n (fun j => va_rf (pp j))) hre (fun q => by cases q) (by show ¬ (iI x < 0 ∨ (arrV _ _ _).slots.size ≤ _); rw [arrV_size]; exact hin) (by show (arrV _ _ _).slots[_]? = _; rw [arrV_read _ _ hlt, e1, hrp]; rfl) rfl rfl hd ?_
  exact k0 hlen ls H locs cells slots hv0 hH hS hbc hbs
theorem sd_iast (X : vCx p Rm s mid args meth c r m d G lt) : vk_iast C m R (vSm p l e Rm s mid args below meth c Qf G lt) := by
  obtain ⟨hx, hb, hml, hown, hts, hw, hrt, hnm, hm, hr, hfr, hlo, hsz⟩ := X
  have hK := hw.1
  intro pc nx lv st h bc bs x y a n f hc hop hlop h1p h2p k0 hlen ls H locs cells slots hv0 hH hS hbc hbs
  obtain ⟨ins, len, i, hd, hk, rfl⟩ := vlk_ok hm hr hc
  obtain ⟨hH1, hH2, hH3, hH4⟩ := id hH
  rw [vq_49] at hk
  obtain ⟨rfl, rfl⟩ := of_decide_eq_true hk
  have hat : va_at (G.1, G.2.1) vwCl (a, .inl (G.2.2 0, n, .inl fun i => iI (f i))) H := vAx_at (hH4 _ _ hop).1 (Or.inl (by rw [hH1] at hlop; exact hlop))
  have hn := (hH4 _ _ hop).2 _ _ _ rfl
  have e1 : (iI x).toNatClampNeg = x.toNat := iI_nat (by omega) (by omega)
  have hin := iI_in h1p h2p hn
  refine W.iast hx hb hat ((hK.2 0 _ rfl).1 n (fun j => .int (iI (f j)))) (fun q => by cases q) (by show ¬ (iI x < 0 ∨ (arrV _ _ _).slots.size ≤ _); rw [arrV_size]; exact hin) rfl rfl hd fun H1 e z oq => ?_
  have hnew : va_at (G.1, G.2.1) vwCl (a, .inl (G.2.2 0, n, .inl fun i => iI ((vup f x.toNat y) i))) H1 := by
    show H1[a]? = some (vp_cell _ _)
    rw [e, e1]
    rw [vp_cell_i, vp_cell_i, arrV_store]
    congr 2
    funext q
    by_cases hq : q = x.toNat
    · subst hq
      simp [updV, vup]
    · simp [updV, vup, hq]
  exact k0 (vwr h a (.inl (0, n, .inl (vup f x.toNat y)))) (vwr_St _ _ _) hlen ls H1 _ cells slots hv0 (vHl_put hH (by rw [hH1] at hlop; exact hlop) z oq hnew (fun _ _ _ q => by cases q; exact hn)) (hS.put z oq (by rw [hH1] at hlop; exact hlop)) hbc hbs
theorem sd_last (X : vCx p Rm s mid args meth c r m d G lt) : vk_last C m R (vSm p l e Rm s mid args below meth c Qf G lt) := by
  obtain ⟨hx, hb, hml, hown, hts, hw, hrt, hnm, hm, hr, hfr, hlo, hsz⟩ := X
  have hK := hw.1
  intro pc nx lv st h bc bs x y a n f hc hop hlop h1p h2p k0 hlen ls H locs cells slots hv0 hH hS hbc hbs
  obtain ⟨ins, len, i, hd, hk, rfl⟩ := vlk_ok hm hr hc
  obtain ⟨hH1, hH2, hH3, hH4⟩ := id hH
  rw [vq_50] at hk
  obtain ⟨rfl, rfl⟩ := of_decide_eq_true hk
  have hat : va_at (G.1, G.2.1) vwCl (a, .inl (G.2.2 1, n, .inr (.inl fun i => lZ (f i)))) H := vAx_at (hH4 _ _ hop).1 (Or.inl (by rw [hH1] at hlop; exact hlop))
  have hn := (hH4 _ _ hop).2 _ _ _ rfl
  have e1 : (iI x).toNatClampNeg = x.toNat := iI_nat (by omega) (by omega)
  have hin := iI_in h1p h2p hn
  refine W.last hx hb hat ((hK.2 1 _ rfl).1 n (fun j => .long (lZ (f j)))) (fun q => by cases q) (by show ¬ (iI x < 0 ∨ (arrV _ _ _).slots.size ≤ _); rw [arrV_size]; exact hin) rfl rfl hd fun H1 e z oq => ?_
  have hnew : va_at (G.1, G.2.1) vwCl (a, .inl (G.2.2 1, n, .inr (.inl fun i => lZ ((vup f x.toNat y) i)))) H1 := by
    show H1[a]? = some (vp_cell _ _)
    rw [e, e1]
    rw [vp_cell_l, vp_cell_l, arrV_store]
    congr 2
    funext q
    by_cases hq : q = x.toNat
    · subst hq
      simp [updV, vup]
    · simp [updV, vup, hq]
  exact k0 (vwr h a (.inl (1, n, .inl (vup f x.toNat y)))) (vwr_St _ _ _) hlen ls H1 _ cells slots hv0 (vHl_put hH (by rw [hH1] at hlop; exact hlop) z oq hnew (fun _ _ _ q => by cases q; exact hn)) (hS.put z oq (by rw [hH1] at hlop; exact hlop)) hbc hbs
theorem sd_bast (X : vCx p Rm s mid args meth c r m d G lt) : vk_bast C m R (vSm p l e Rm s mid args below meth c Qf G lt) := by
  obtain ⟨hx, hb, hml, hown, hts, hw, hrt, hnm, hm, hr, hfr, hlo, hsz⟩ := X
  have hK := hw.1
  intro pc nx lv st h bc bs x y a n f hc hop hlop h1p h2p hyp k0 hlen ls H locs cells slots hv0 hH hS hbc hbs
  obtain ⟨ins, len, i, hd, hk, rfl⟩ := vlk_ok hm hr hc
  obtain ⟨hH1, hH2, hH3, hH4⟩ := id hH
  rw [vq_51] at hk
  obtain ⟨rfl, rfl⟩ := of_decide_eq_true hk
  have hat : va_at (G.1, G.2.1) vwCl (a, .inl (G.2.2 2, n, .inl fun i => iI (f i))) H := vAx_at (hH4 _ _ hop).1 (Or.inl (by rw [hH1] at hlop; exact hlop))
  have hn := (hH4 _ _ hop).2 _ _ _ rfl
  have e1 : (iI x).toNatClampNeg = x.toNat := iI_nat (by omega) (by omega)
  have hin := iI_in h1p h2p hn
  refine W.zast hx hb hat ((hK.2 2 _ rfl).1 n (fun j => .int (iI (f j)))) (fun q => by cases q) (by show ¬ (iI x < 0 ∨ (arrV _ _ _).slots.size ≤ _); rw [arrV_size]; exact hin) rfl rfl hd fun H1 e z oq => ?_
  have hnew : va_at (G.1, G.2.1) vwCl (a, .inl (G.2.2 2, n, .inl fun i => iI ((vup f x.toNat y) i))) H1 := by
    show H1[a]? = some (vp_cell _ _)
    rw [e, e1]
    rw [vp_cell_i, vp_cell_i, arrV_store]
    congr 2
    funext q
    by_cases hq : q = x.toNat
    · subst hq
      simp [updV, vup]
      rcases hyp with rfl | rfl <;> rfl
    · simp [updV, vup, hq]
  exact k0 (vwr h a (.inl (2, n, .inl (vup f x.toNat y)))) (vwr_St _ _ _) hlen ls H1 _ cells slots hv0 (vHl_put hH (by rw [hH1] at hlop; exact hlop) z oq hnew (fun _ _ _ q => by cases q; exact hn)) (hS.put z oq (by rw [hH1] at hlop; exact hlop)) hbc hbs
theorem vtys_cl {G : vG} {s : State} (hK : va_K (G.1, G.2.1) vwCl (vtys G.2.2) s) : ∀ τ : Nat, 3 ≤ τ ∧ τ < 6 → ∃ q : vw_C, vwCl[vek τ]? = some q ∧ va_RA s (G.2.2 τ) (.object q.1)
  | 3, _ => ⟨_, rfl, (hK.2 3 _ rfl).2⟩
  | 4, _ => ⟨_, rfl, (hK.2 4 _ rfl).2⟩
  | 5, _ => ⟨_, rfl, (hK.2 5 _ rfl).2⟩
  | 0, h => absurd h (by omega)
  | 1, h => absurd h (by omega)
  | 2, h => absurd h (by omega)
  | τ + 6, h => absurd h (by omega)
theorem sd_aast (X : vCx p Rm s mid args meth c r m d G lt) : vk_aast C m R (vSm p l e Rm s mid args below meth c Qf G lt) := by
  obtain ⟨hx, hb, hml, hown, hts, hw, hrt, hnm, hm, hr, hfr, hlo, hsz⟩ := X
  have hK := hw.1
  intro pc nx lv st h bc bs x a n τ pp rr ci vs hc hop htp hlop h1p h2p hrp k0 hlen ls H locs cells slots hv0 hH hS hbc hbs
  obtain ⟨ins, len, i, hd, hk, rfl⟩ := vlk_ok hm hr hc
  obtain ⟨hH1, hH2, hH3, hH4⟩ := id hH
  rw [vq_52] at hk
  obtain ⟨rfl, rfl⟩ := of_decide_eq_true hk
  have hat : va_at (G.1, G.2.1) vwCl (a, .inl (G.2.2 τ, n, .inr (.inr (.inr (.inr pp))))) H := vAx_at (hH4 _ _ hop).1 (Or.inr fun _ _ q => by cases q)
  have hn := (hH4 _ _ hop).2 _ _ _ rfl
  have hatv : va_at (G.1, G.2.1) vwCl (rr, .inr (vek τ, vs)) H := vAx_at (hH4 _ _ hrp).1 (Or.inr fun _ _ q => by cases q)
  obtain ⟨q0, hq0, kA, comp, c1, c2, c3, -⟩ := vtys_cl hK τ htp
  obtain ⟨r', hr', cellV, g1, g2, g3, -⟩ := hatv
  have hcls := (hK.1 _ q0 hq0).2
  have hcomp : comp = G.1 (vek τ) := Option.some.inj (c3.symm.trans hcls.1)
  subst hcomp
  obtain ⟨kC, hkC, -⟩ := hcls.2
  have e1 : (iI x).toNatClampNeg = x.toNat := iI_nat (by omega) (by omega)
  have hlt : (iI x).toNatClampNeg < n := by rw [e1]; omega
  refine W.aast hx hb hat (fun q h => by cases h) (fun h => by cases h) c1 c2 rfl hkC ⟨fun z => by rw [iI_lt0 (by omega) (by omega)] at z; omega, by show _ < (arrV _ _ _).slots.size; rw [arrV_size]; exact hlt⟩ g1 (fun q h => by rw [g3] at h; cases h) (by rw [g2]; exact hkC) (by rw [g2]; exact va_assign hcls) rfl rfl hd fun H1 e z oq => ?_
  have hnew : va_at (G.1, G.2.1) vwCl (a, .inl (G.2.2 τ, n, .inr (.inr (.inr (.inr (vup pp x.toNat (some rr))))))) H1 := by
    show H1[a]? = some (vp_cell _ _)
    rw [e, e1]
    rw [vp_cell_q, vp_cell_q, arrV_store]
    congr 2
    funext q
    by_cases hq : q = x.toNat
    · subst hq
      simp [updV, vup, va_rf]
    · simp [updV, vup, hq]
  exact k0 (vwr h a (.inl (τ, n, .inr (vup pp x.toNat (some rr))))) (vwr_St _ _ _) hlen ls H1 _ cells slots hv0 (vHl_put hH (by rw [hH1] at hlop; exact hlop) z oq hnew (fun _ _ _ q => by cases q; exact hn)) (hS.put z oq (by rw [hH1] at hlop; exact hlop)) hbc hbs
theorem sd_aastA (X : vCx p Rm s mid args meth c r m d G lt) : vk_aastA C m R (vSm p l e Rm s mid args below meth c Qf G lt) := by
  obtain ⟨hx, hb, hml, hown, hts, hw, hrt, hnm, hm, hr, hfr, hlo, hsz⟩ := X
  have hK := hw.1
  intro pc nx lv st h bc bs x a n pp rr n2 f hc hop hlop h1p h2p hrp hlrp k0 hlen ls H locs cells slots hv0 hH hS hbc hbs
  obtain ⟨ins, len, i, hd, hk, rfl⟩ := vlk_ok hm hr hc
  obtain ⟨hH1, hH2, hH3, hH4⟩ := id hH
  rw [vq_52] at hk
  obtain ⟨rfl, rfl⟩ := of_decide_eq_true hk
  have hat : va_at (G.1, G.2.1) vwCl (a, .inl (G.2.2 6, n, .inr (.inr (.inr (.inr pp))))) H := vAx_at (hH4 _ _ hop).1 (Or.inr fun _ _ q => by cases q)
  have hn := (hH4 _ _ hop).2 _ _ _ rfl
  have hatv : va_at (G.1, G.2.1) vwCl (rr, .inl (G.2.2 0, n2, .inl fun i => iI (f i))) H := vAx_at (hH4 _ _ hrp).1 (Or.inl (by rw [hH1] at hlrp; exact hlrp))
  obtain ⟨-, ⟨kA, c1, c2⟩, -⟩ := hw.2.2.2.2
  obtain ⟨-, k0', hk0, cm0, hkk0⟩ := (hK.2 0 _ rfl).1 n2 (fun j => .int (iI (f j)))
  have e1 : (iI x).toNatClampNeg = x.toNat := iI_nat (by omega) (by omega)
  have hlt : (iI x).toNatClampNeg < n := by rw [e1]; omega
  have hasg : s.vm.assignable (G.2.2 0) (G.2.2 0) = true := by unfold Vm.assignable Vm.assignableAux; simp
  refine W.aast hx hb hat (fun q h => by cases h) (fun h => by cases h) c1 c2 rfl hk0 ⟨fun z => by rw [iI_lt0 (by omega) (by omega)] at z; omega, by show _ < (arrV _ _ _).slots.size; rw [arrV_size]; exact hlt⟩ hatv (fun q h => by cases h) hk0 hasg rfl rfl hd fun H1 e z oq => ?_
  have hnew : va_at (G.1, G.2.1) vwCl (a, .inl (G.2.2 6, n, .inr (.inr (.inr (.inr (vup pp x.toNat (some rr))))))) H1 := by
    show H1[a]? = some (vp_cell _ _)
    rw [e, e1]
    rw [vp_cell_q, vp_cell_q, arrV_store]
    congr 2
    funext q
    by_cases hq : q = x.toNat
    · subst hq
      simp [updV, vup, va_rf]
    · simp [updV, vup, hq]
  exact k0 (vwr h a (.inl (6, n, .inr (vup pp x.toNat (some rr))))) (vwr_St _ _ _) hlen ls H1 _ cells slots hv0 (vHl_put hH (by rw [hH1] at hlop; exact hlop) z oq hnew (fun _ _ _ q => by cases q; exact hn)) (hS.put z oq (by rw [hH1] at hlop; exact hlop)) hbc hbs
theorem sd_alen (X : vCx p Rm s mid args meth c r m d G lt) : vk_alen C m R (vSm p l e Rm s mid args below meth c Qf G lt) := by
  obtain ⟨hx, hb, hml, hown, hts, hw, hrt, hnm, hm, hr, hfr, hlo, hsz⟩ := X
  have hK := hw.1
  intro pc nx lv st h bc bs a n f hc hop k0 hlen ls H locs cells slots hv0 hH hS hbc hbs
  obtain ⟨ins, len, i, hd, hk, rfl⟩ := vlk_ok hm hr hc
  obtain ⟨hH1, hH2, hH3, hH4⟩ := id hH
  rw [vq_53] at hk
  obtain ⟨rfl, rfl⟩ := of_decide_eq_true hk
  rcases (hH4 _ _ hop).1 with ⟨-, hat⟩ | ⟨-, n', f', eo, ho⟩
  case inr =>
    cases eo
    obtain ⟨cell, c1, c2, c3, c4, c5, c6, c7⟩ := ho
    exact W.alen (n := iI (n : Int)) hx hb c1 (vOl_arr hw c2 c3) (c6.trans (Int32.ofInt_eq_ofNat).symm) rfl rfl hd (k0 hlen ls H locs cells slots hv0 hH hS hbc hbs)
  have hat : va_at (G.1, G.2.1) vwCl (a, .inl (G.2.2 0, n, .inl fun i => iI (f i))) H := hat
  exact va_alen (D := (G.1, G.2.1)) hx hb hK (vP1 hat) 0 0 rfl rfl (v := iI (n : Int)) (Int32.ofInt_eq_ofNat).symm hd (k0 hlen ls H locs cells slots hv0 hH hS hbc hbs)
theorem vdef_eq : ∀ ty : FieldType, (ty = .int ∨ ty = .boolean ∨ ty = .long ∨ (∃ C, ty = .object C) ∨ ∃ t, ty = .array t) → defaultValue ty = vdef ty := by
  intro ty h
  rcases h with rfl | rfl | rfl | ⟨C, rfl⟩ | ⟨t, rfl⟩ <;> rfl
def vtyok : FieldType → Bool
  | .int => true
  | .boolean => true
  | .long => true
  | .object _ => true
  | .array _ => true
  | _ => false
theorem vdef_ok {ty : FieldType} (h : vtyok ty = true) : defaultValue ty = vdef ty := by
  cases ty <;> first | rfl | (simp [vtyok] at h)
theorem vblank_len (ci : Nat) : ∀ n, (vblank ci n).length = n
  | 0 => rfl
  | n + 1 => by simp [vblank, vblank_len ci n]
theorem vblank_at (ci : Nat) : ∀ (n j : Nat), j < n → (vblank ci n)[j]? = some (vdef (vtyx ci j))
  | 0, _, h => absurd h (by omega)
  | n + 1, j, h => by
    by_cases e : j < n
    · rw [vblank, List.getElem?_append_left (by rw [vblank_len]; exact e)]
      exact vblank_at ci n j e
    · have : j = n := by omega
      subst this
      rw [vblank, List.getElem?_append_right (by rw [vblank_len]; exact Nat.le_refl _), vblank_len, Nat.sub_self]
      rfl
theorem vtyok_all : ∀ ci, ci < 7 → ∀ k, k < 25 → vtyok (vtyx ci k) = true := by decide +kernel
theorem vinst : ∀ (ci : Nat) (q : vw_C), vwCl[ci]? = some q → q.2.2 ≤ 25 ∧ ci < 7 ∧ Cond.instantiable q.1 q.2.2 ∈ vT1 ∧ Cond.initialized q.1 ∈ vT1 := by
  intro ci q hq
  match ci, hq with
  | 0, hq => cases hq; exact ⟨by decide, by decide, vT1_of (List.mem_of_getElem? (i := 78) (by decide +kernel)) rfl, vT1_of (List.mem_of_getElem? (i := 51) (by decide +kernel)) rfl⟩
  | 1, hq => cases hq; exact ⟨by decide, by decide, vT1_of (List.mem_of_getElem? (i := 111) (by decide +kernel)) rfl, vT1_of (List.mem_of_getElem? (i := 52) (by decide +kernel)) rfl⟩
  | 2, hq => cases hq; exact ⟨by decide, by decide, vT1_of (List.mem_of_getElem? (i := 139) (by decide +kernel)) rfl, vT1_of (List.mem_of_getElem? (i := 53) (by decide +kernel)) rfl⟩
  | 3, hq => cases hq; exact ⟨by decide, by decide, vT1_of (List.mem_of_getElem? (i := 71) (by decide +kernel)) rfl, vT1_of (List.mem_of_getElem? (i := 50) (by decide +kernel)) rfl⟩
  | 4, hq => cases hq; exact ⟨by decide, by decide, vT1_of (List.mem_of_getElem? (i := 168) (by decide +kernel)) rfl, vT1_of (List.mem_of_getElem? (i := 54) (by decide +kernel)) rfl⟩
  | 5, hq => cases hq; exact ⟨by decide, by decide, vT1_of (List.mem_of_getElem? (i := 61) (by decide +kernel)) rfl, vT1_of (List.mem_of_getElem? (i := 49) (by decide +kernel)) rfl⟩
  | 6, hq => cases hq; exact ⟨by decide, by decide, vT1_of (List.mem_of_getElem? (i := 625) (by decide +kernel)) rfl, vT1_of (List.mem_of_getElem? (i := 55) (by decide +kernel)) rfl⟩
  | k + 7, hq => simp [vwCl] at hq
theorem sd_new (X : vCx p Rm s mid args meth c r m d G lt) : vk_new C m R (vSm p l e Rm s mid args below meth c Qf G lt) := by
  obtain ⟨hx, hb, hml, hown, hts, hw, hrt, hnm, hm, hr, hfr, hlo, hsz⟩ := X
  have hK := hw.1
  intro pc nx lv st h bc bs ci n hc  k0 hlen ls H locs cells slots hv0 hH hS hbc hbs
  obtain ⟨ins, len, i, hd, hk, rfl⟩ := vlk_ok hm hr hc
  obtain ⟨hH1, hH2, hH3, hH4⟩ := id hH
  rw [vq_54] at hk
  split at hk
  · rename_i x
    unfold vckc at hk
    cases hq : vwCl[ci]? with
    | none => rw [hq] at hk; cases hk
    | some q =>
      rw [hq] at hk
      obtain ⟨Cn, T, N⟩ := q
      simp only [Bool.and_eq_true, decide_eq_true_eq] at hk
      obtain ⟨⟨g1, g2⟩, rfl⟩ := hk
      subst g1
      obtain ⟨hws, hty, hap0⟩ := vcls ci _ hq
      have hin : ∀ w ∈ u_ws Cn T n, w ∈ vT1 := hws
      obtain ⟨g3, g4, g5, g6⟩ := vinst ci _ hq
      have hKn := hK.1 ci _ hq
      refine W.newcK (n := n) hx hb hown (hts _ (vT1_of (vis_eq g2) rfl)) (hts _ (show Cond.instantiable Cn n ∈ vT1 from g5)) (hts _ g6) rfl hd (by omega) (by omega) hKn.2.1 rfl fun H1 kC hkC e1 z1 o1 => ?_
      have hnew : va_at (G.1, G.2.1) vwCl (H.size, .inr (ci, vblank ci n)) H1 := ⟨_, hq, (u_born (vtyx ci) hts hin hKn hkC e1 hty).to (fun j hj => by
        rw [vdef_ok (vtyok_all ci g4 j (Nat.lt_of_lt_of_le hj g3))]
        show _ = (vblank ci n).getD j .null
        rw [List.getD_eq_getElem?_getD, vblank_at ci n j hj]; rfl)⟩
      have k1 := k0 (vmk h (.inr (ci, vblank ci n))) (vmk_Nw _ _) hlen ls H1 locs (cells + 1) (slots + n) hv0 (vHl_new hH z1 o1 hnew (fun _ _ _ z => by cases z)) (vS_new hS z1 o1) (by omega) (by omega)
      rw [hH2] at k1
      exact k1
  · cases hk
theorem vtys_prim {G : vG} {s : State} (hK : va_K (G.1, G.2.1) vwCl (vtys G.2.2) s) : ∀ τ : Nat, τ < 3 → ArrOfT s (G.2.2 τ) (vaty τ) ∧ s.vm.findClass ("[" ++ (vaty τ).toString) = some (G.2.2 τ)
  | 0, _ => hK.2 0 _ rfl
  | 1, _ => hK.2 1 _ rfl
  | 2, _ => hK.2 2 _ rfl
  | τ + 3, h => absurd h (by omega)
theorem vT1_arr : ∀ τ : Nat, τ < 3 → Cond.arrayClass (vaty τ) ∈ vT1
  | 0, _ => vT1_of (List.mem_of_getElem? (i := 87) (by decide +kernel)) rfl
  | 1, _ => vT1_of (List.mem_of_getElem? (i := 88) (by decide +kernel)) rfl
  | 2, _ => vT1_of (List.mem_of_getElem? (i := 707) (by decide +kernel)) rfl
  | τ + 3, h => absurd h (by omega)
theorem sd_newa (X : vCx p Rm s mid args meth c r m d G lt) : vk_newa C m R (vSm p l e Rm s mid args below meth c Qf G lt) := by
  obtain ⟨hx, hb, hml, hown, hts, hw, hrt, hnm, hm, hr, hfr, hlo, hsz⟩ := X
  have hK := hw.1
  intro pc nx lv st h bc bs a x hc h1p h2p k0 hlen ls H locs cells slots hv0 hH hS hbc hbs
  obtain ⟨ins, len, i, hd, hk, rfl⟩ := vlk_ok hm hr hc
  obtain ⟨hH1, hH2, hH3, hH4⟩ := id hH
  rw [vq_55] at hk
  split at hk
  · rename_i at0
    obtain ⟨g1, g2, rfl⟩ := of_decide_eq_true hk
    obtain ⟨hA1, hA2⟩ := vtys_prim hK a g2
    have e1 : (iI x).toNatClampNeg = x.toNat := iI_nat (by omega) (by omega)
    have hcb : componentBytes (vaty a) ≤ 8 := by
      match a, g2 with
      | 0, _ => decide
      | 1, _ => decide
      | 2, _ => decide
      | k + 3, h => exact absurd h (by omega)
    refine va_newaK (N := x.toNat) hx hb (by rw [g1]; exact hts _ (vT1_arr a g2)) rfl hd rfl (fun z => by rw [iI_lt0 (by omega) (by omega)] at z; omega) e1 (by rw [g1]; have := Nat.mul_le_mul (show x.toNat ≤ 60000 by omega) hcb; omega) (by omega) (by omega) rfl fun H1 cA e2 z1 o1 hAr hNm => ?_
    rw [g1] at e2 hNm
    have hcA : cA = G.2.2 a := Option.some.inj (hNm.symm.trans hA2)
    subst hcA
    have hnew : va_at (G.1, G.2.1) vwCl (H.size, vcv G.2.2 (.inl (a, x.toNat, .inl fun _ => 0))) H1 := by
      show H1[H.size]? = some (vp_cell _ _)
      rw [e2]
      match a, g2 with
      | 0, _ => rfl
      | 1, _ => rfl
      | 2, _ => rfl
      | k + 3, h => exact absurd h (by omega)
    have k1 := k0 (vmk h (.inl (a, x.toNat, .inl fun _ => 0))) (vmk_Nw _ _) hlen ls H1 locs (cells + 1) (slots + x.toNat) hv0 (vHl_new hH z1 o1 hnew (fun _ _ _ z => by cases z; omega)) (vS_new hS z1 o1) (by omega) (by omega)
    rw [hH2] at k1
    exact k1
  · cases hk
theorem vtys_obj {G : vG} {lt : Nat × Nat} {s : State} {H : Heap} (hw : vWd G lt s H) : ∀ τ : Nat, 3 ≤ τ → τ < 6 → va_AO (vec τ) s ∧ va_RA s (G.2.2 τ) (.object (vec τ))
  | 3, _, _ => ⟨hw.2.2.2.1.1, (hw.1.2 3 _ rfl).2⟩
  | 4, _, _ => ⟨hw.2.2.2.1.2.1, (hw.1.2 4 _ rfl).2⟩
  | 5, _, _ => ⟨hw.2.2.2.1.2.2, (hw.1.2 5 _ rfl).2⟩
  | 0, h, _ => absurd h (by omega)
  | 1, h, _ => absurd h (by omega)
  | 2, h, _ => absurd h (by omega)
  | τ + 6, _, h => absurd h (by omega)
theorem sd_anew (X : vCx p Rm s mid args meth c r m d G lt) : vk_anew C m R (vSm p l e Rm s mid args below meth c Qf G lt) := by
  obtain ⟨hx, hb, hml, hown, hts, hw, hrt, hnm, hm, hr, hfr, hlo, hsz⟩ := X
  have hK := hw.1
  intro pc nx lv st h bc bs τ x hc h1p h2p k0 hlen ls H locs cells slots hv0 hH hS hbc hbs
  obtain ⟨ins, len, i, hd, hk, rfl⟩ := vlk_ok hm hr hc
  obtain ⟨hH1, hH2, hH3, hH4⟩ := id hH
  rw [vq_56] at hk
  split at hk
  · rename_i ix
    obtain ⟨g1, g2⟩ := Bool.and_eq_true_iff.mp hk
    obtain ⟨g3, g4, rfl⟩ := of_decide_eq_true g2
    obtain ⟨hAO, kA', comp', -, -, -, hA2⟩ := vtys_obj hw τ g3 g4
    have e1 : (iI x).toNatClampNeg = x.toNat := iI_nat (by omega) (by omega)
    refine W.anew hx hb hown (hts _ (vT1_of (vis_eq g1) rfl)) (va_AO.use hAO) rfl hd rfl (fun z => by rw [iI_lt0 (by omega) (by omega)] at z; omega) (by rw [e1]; omega) (by omega) (by rw [e1]; omega) fun cA kA comp f1 f2 f3 f4 => ?_
    rw [e1]
    have hcA : cA = G.2.2 τ := Option.some.inj (f1.symm.trans hA2)
    subst hcA
    generalize hH1 : H.push ({ cls := G.2.2 τ, slots := Array.replicate x.toNat .null, vm := .none } : Cell) = H1
    have z1 : H1.size = H.size + 1 := by rw [← hH1, Array.size_push]
    have e2 : H1[H.size]? = some (arrV (G.2.2 τ) x.toNat (fun _ => .null)) := by rw [← hH1, Array.getElem?_push_size, ← arrV_new]
    have o1 : ∀ q : Nat, q < H.size → H1[q]? = H[q]? := fun q hq => by rw [← hH1, Array.getElem?_push, if_neg (Nat.ne_of_lt hq)]
    have hnew : va_at (G.1, G.2.1) vwCl (H.size, vcv G.2.2 (.inl (τ, x.toNat, .inr fun _ => none))) H1 := e2
    have k1 := k0 (vmk h (.inl (τ, x.toNat, .inr fun _ => none))) (vmk_Nw _ _) hlen ls H1 locs (cells + 1) (slots + x.toNat) hv0 (vHl_new hH z1 o1 hnew (fun _ _ _ z => by cases z; omega)) (vS_new hS z1 o1) (by omega) (by omega)
    rw [hH2] at k1
    exact k1
  · cases hk
end SD2
