/-! what holds of reached states is kept by every call -/
abbrev vdf (s t : vSp) : Prop := ¬ (s.1 = t.1 ∧ s.2.1 = t.2.1 ∧ s.2.2.1 = t.2.2.1)
theorem vdis_pw {l : List vSp} : vdis l ↔ l.Pairwise vdf := by
  unfold vdis
  rw [List.pairwise_iff_getElem]
  constructor
  · intro h i j hi hj hij
    exact h i j _ _ hij (List.getElem?_eq_getElem hi) (List.getElem?_eq_getElem hj)
  · intro h i j s t hij hs ht
    obtain ⟨hi, e1⟩ := List.getElem?_eq_some_iff.mp hs
    obtain ⟨hj, e2⟩ := List.getElem?_eq_some_iff.mp ht
    subst e1
    subst e2
    exact h i j hi hj hij
def vKM (l : List vSp) : Prop := vdis l ∧ (∀ s, s ∈ l → (0 ≤ s.1 ∧ s.1 ≤ 1000) ∧ (0 ≤ s.2.1 ∧ s.2.1 ≤ 1000) ∧ (0 ≤ s.2.2.1 ∧ s.2.2.1 ≤ 1000) ∧ (0 ≤ s.2.2.2 ∧ s.2.2.2 ≤ 1000)) ∧ l.length ≤ 6
abbrev vPg (p : Nat → Int) : Prop := ∀ j, j < 30 → -2147483648 ≤ p j ∧ p j ≤ 2147483647
def vKL (ls : vLst) : Prop := ∀ i n p, i < 4 → ls i = some (n, p) → n ≤ 30 ∧ vPg p
def vKN (N : vNmS) : Prop := ∀ i, i < 10 → vcn (N.2.2.1 i) 0 720 ≤ 7 ∧ vcn (N.2.2.2 i) 0 720 ≤ 7
theorem vOk_iff {σ : vSg} : vOk σ ↔ vKM σ.2.2.1.1 ∧ vTp σ.2.2.2.1.1 σ.2.2.2.1.2 ∧ vKL σ.2.2.2.2 ∧ vKN σ.1 ∧ vKN σ.2.1.2 :=
  ⟨fun ⟨a, b, c, d, e, f, g⟩ => ⟨⟨a, b, c⟩, d, e, f, g⟩, fun ⟨⟨a, b, c⟩, d, e, f, g⟩ => ⟨a, b, c, d, e, f, g⟩⟩
theorem vKM_sub {l l' : List vSp} (h : vKM l) (hs : l'.Sublist l) : vKM l' :=
  ⟨vdis_pw.mpr (List.Pairwise.sublist hs (vdis_pw.mp h.1)), fun s m => h.2.1 s (hs.subset m), Nat.le_trans hs.length_le h.2.2⟩
theorem vfil_sub (P : vSp → Bool) (l : List vSp) : (l.filter P).Sublist l := by
  first | exact List.filter_sublist | exact List.filter_sublist _
theorem vKM_fg {l : List vSp × Int × Int} {x : Int} (h : vKM l.1) : vKM (vfg l x).1 := vKM_sub h (vfil_sub _ _)
theorem vKM_nil : vKM [] := ⟨vdis_pw.mpr List.Pairwise.nil, fun s hs => (by cases hs), Nat.zero_le _⟩
theorem vKM_ask {l : List vSp} {x y z w : Int} (h : vKM l) (hx : 0 ≤ x ∧ x ≤ 1000) (hy : 0 ≤ y ∧ y ≤ 1000) (hz : 0 ≤ z ∧ z ≤ 1000) (hw : 0 ≤ w ∧ w ≤ 1000) : vKM (vask l x y z w) := by
  have e0 : vKM (l.filter (vnk x y z)) := vKM_sub h (vfil_sub _ _)
  have pw : ((l.filter (vnk x y z)) ++ [(x, y, z, w)]).Pairwise vdf := by
    rw [List.pairwise_append]
    refine ⟨vdis_pw.mp e0.1, List.pairwise_singleton _ _, fun s hs t ht => ?_⟩
    have ht := List.mem_singleton.mp ht
    subst ht
    have h2 := (List.mem_filter.mp hs).2
    intro q
    have q2 : vky x y z s = true := decide_eq_true q
    unfold vnk at h2
    rw [q2] at h2
    cases h2
  have bd : ∀ s, s ∈ (l.filter (vnk x y z)) ++ [(x, y, z, w)] → (0 ≤ s.1 ∧ s.1 ≤ 1000) ∧ (0 ≤ s.2.1 ∧ s.2.1 ≤ 1000) ∧ (0 ≤ s.2.2.1 ∧ s.2.2.1 ≤ 1000) ∧ (0 ≤ s.2.2.2 ∧ s.2.2.2 ≤ 1000) := by
    intro s hs
    rcases List.mem_append.mp hs with q | q
    · exact e0.2.1 s q
    · rw [List.mem_singleton.mp q]; exact ⟨hx, hy, hz, hw⟩
  have ln : ((l.filter (vnk x y z)) ++ [(x, y, z, w)]).length ≤ 7 := by
    rw [List.length_append, List.length_singleton]
    have := e0.2.2
    omega
  unfold vask
  split
  · rename_i e
    have sb := List.drop_sublist 1 ((l.filter (vnk x y z)) ++ [(x, y, z, w)])
    exact ⟨vdis_pw.mpr (List.Pairwise.sublist sb pw), fun s m => bd s (sb.subset m), by rw [List.length_drop, e]; omega⟩
  · rename_i e
    exact ⟨vdis_pw.mpr pw, bd, by omega⟩
theorem vKN_up {N : vNmS} {i : Nat} {ru : Bool} {R O X : vSt1} (h : vKN N) (hO : vcn O 0 720 ≤ 7) (hX : vcn X 0 720 ≤ 7) : vKN (vNup N i ru R O X) := by
  intro j hj
  show vcn (vup N.2.2.1 i O j) 0 720 ≤ 7 ∧ vcn (vup N.2.2.2 i X j) 0 720 ≤ 7
  unfold vup
  by_cases e : j = i
  · rw [if_pos e, if_pos e]; exact ⟨hO, hX⟩
  · rw [if_neg e, if_neg e]; exact h j hj
theorem vcn_fl (O : vSt1) (y : Nat) : ∀ n : Nat, (n ≤ y → vcn (vfl O y) 0 n = vcn O 0 n) ∧ (y < n → (O y = true → vcn (vfl O y) 0 n + 1 = vcn O 0 n) ∧ (O y = false → vcn (vfl O y) 0 n = vcn O 0 n + 1))
  | 0 => ⟨fun _ => rfl, fun h => absurd h (Nat.not_lt_zero _)⟩
  | n + 1 => by
    obtain ⟨a, b⟩ := vcn_fl O y n
    have e1 : vcn (vfl O y) 0 (n + 1) = vcn (vfl O y) 0 n + (if vfl O y (0 + n) = true then 1 else 0) := rfl
    have e2 : vcn O 0 (n + 1) = vcn O 0 n + (if O (0 + n) = true then 1 else 0) := rfl
    rw [Nat.zero_add] at e1 e2
    rw [e1, e2]
    by_cases q : n = y
    · subst q
      have f : vfl O n n = !O n := if_pos rfl
      rw [f, a (Nat.le_refl n)]
      refine ⟨fun h => absurd h (by omega), fun _ => ⟨fun t => ?_, fun t => ?_⟩⟩
      · simp [t]
      · simp [t]
    · have f : vfl O y n = O n := if_neg q
      rw [f]
      refine ⟨fun h => by rw [a (by omega)], fun h => ⟨fun t => ?_, fun t => ?_⟩⟩
      · have := (b (by omega)).1 t
        omega
      · have := (b (by omega)).2 t
        omega
theorem vcn_fl7 {O : vSt1} {y : Nat} (hy : y < 720) (h7 : vcn O 0 720 ≤ 7) (hf : vfull O y = false) : vcn (vfl O y) 0 720 ≤ 7 := by
  have g := (vcn_fl O y 720).2 hy
  unfold vfull at hf
  generalize vcn O 0 720 = k at *
  cases t : O y with
  | true =>
    have := g.1 t
    omega
  | false =>
    rw [t] at hf
    have h6 : ¬ 7 ≤ k := by simpa using hf
    have := g.2 t
    omega
theorem vKL_up {ls : vLst} {i : Nat} {o : Option (Nat × (Nat → Int))} (h : vKL ls) (ho : ∀ n p, o = some (n, p) → n ≤ 30 ∧ vPg p) : vKL (vup ls i o) := by
  intro j n p hj e
  unfold vup at e
  by_cases q : j = i
  · rw [if_pos q] at e; exact ho n p e
  · rw [if_neg q] at e; exact h j n p hj e
theorem vOk_count {σ : vSg} {x y z : Int} (hO : vOk σ) : vOk (vS_count σ x y z) := by
  unfold vS_count
  split
  · rename_i q
    have e : vQ_count σ.1 x y z = ((vcn (vDd σ.1 x.toNat) y.toNat (z.toNat + 1 - y.toNat) : Nat) : Int) := if_pos q
    have b := vcn_le (vDd σ.1 x.toNat) y.toNat (z.toNat + 1 - y.toNat)
    obtain ⟨⟨q1, q2⟩, q3, q4, q5⟩ := q
    obtain ⟨h1, h2, h3, h4, h5⟩ := vOk_iff.mp hO
    refine vOk_iff.mpr ⟨vKM_ask h1 ⟨q1, by omega⟩ ⟨q3, by omega⟩ ⟨by omega, by omega⟩ ?_, h2, h3, h4, h5⟩
    rw [e]
    omega
  · exact hO
theorem vOk_feed {σ : vSg} {x : Int} (hO : vOk σ) : vOk (vS_feed σ x) := by
  unfold vS_feed
  split
  · rename_i q
    split
    · exact hO
    · rename_i n
      obtain ⟨h1, h2, h3, h4, h5⟩ := vOk_iff.mp hO
      refine vOk_iff.mpr ⟨h1, ⟨?_, fun i hi => ?_⟩, h3, h4, h5⟩
      · have := h2.1
        show σ.2.2.2.1.1 + 1 ≤ 80
        omega
      · show 1 ≤ vup σ.2.2.2.1.2 σ.2.2.2.1.1 x i ∧ vup σ.2.2.2.1.2 σ.2.2.2.1.1 x i ≤ 127
        have hi : i < σ.2.2.2.1.1 + 1 := hi
        unfold vup
        by_cases e : i = σ.2.2.2.1.1
        · rw [if_pos e]; exact q
        · rw [if_neg e]; exact h2.2 i (by omega)
  · exact hO
theorem vOk_clear {σ : vSg} (hO : vOk σ) : vOk (vS_clear σ) := by
  obtain ⟨h1, h2, h3, h4, h5⟩ := vOk_iff.mp hO
  exact vOk_iff.mpr ⟨h1, ⟨Nat.zero_le _, fun i hi => absurd hi (Nat.not_lt_zero i)⟩, h3, h4, h5⟩
theorem vOk_rule {σ : vSg} {x : Int} (hO : vOk σ) : vOk (vS_rule σ x) := by
  unfold vS_rule
  split
  · rename_i q
    cases e : (vrd σ.2.2.2.1.1 σ.2.2.2.1.2 (fun i => vDd σ.1 i)).2 with
    | none => exact vOk_clear hO
    | some S =>
      obtain ⟨h1, h2, h3, h4, h5⟩ := vOk_iff.mp hO
      have g := h4 x.toNat (by omega)
      exact vOk_iff.mpr ⟨vKM_fg h1, ⟨Nat.zero_le _, fun i hi => absurd hi (Nat.not_lt_zero i)⟩, h3, vKN_up h4 g.1 g.2, h5⟩
  · exact hO
theorem vOk_drop {σ : vSg} {x : Int} (hO : vOk σ) : vOk (vS_drop σ x) := by
  unfold vS_drop
  split
  · rename_i q
    obtain ⟨h1, h2, h3, h4, h5⟩ := vOk_iff.mp hO
    have g := h4 x.toNat (by omega)
    exact vOk_iff.mpr ⟨vKM_fg h1, h2, h3, vKN_up h4 g.1 g.2, h5⟩
  · exact hO
theorem vOk_copy {σ : vSg} {x y : Int} (hO : vOk σ) : vOk (vS_copy σ x y) := by
  unfold vS_copy
  split
  · rename_i q
    obtain ⟨h1, h2, h3, h4, h5⟩ := vOk_iff.mp hO
    have g := h4 y.toNat (by omega)
    exact vOk_iff.mpr ⟨vKM_fg h1, h2, h3, vKN_up h4 g.1 g.2, h5⟩
  · exact hO
theorem vOk_out {σ : vSg} {x y : Int} (hO : vOk σ) : vOk (vS_out σ x y) := by
  unfold vS_out
  split
  · rename_i q
    obtain ⟨h1, h2, h3, h4, h5⟩ := vOk_iff.mp hO
    have g := h4 x.toNat (by omega)
    exact vOk_iff.mpr ⟨vKM_fg h1, h2, h3, vKN_up h4 (vcn_fl7 (by omega) g.1 q.2) g.2, h5⟩
  · exact hO
theorem vOk_extra {σ : vSg} {x y : Int} (hO : vOk σ) : vOk (vS_extra σ x y) := by
  unfold vS_extra
  split
  · rename_i q
    obtain ⟨h1, h2, h3, h4, h5⟩ := vOk_iff.mp hO
    have g := h4 x.toNat (by omega)
    exact vOk_iff.mpr ⟨vKM_fg h1, h2, h3, vKN_up h4 g.1 (vcn_fl7 (by omega) g.2 q.2), h5⟩
  · exact hO
theorem vOk_image {σ : vSg} (hO : vOk σ) : vOk (vS_image σ) := by
  obtain ⟨h1, h2, h3, h4, h5⟩ := vOk_iff.mp hO
  exact vOk_iff.mpr ⟨h1, h2, h3, h4, h4⟩
theorem vOk_undo {σ : vSg} (hO : vOk σ) : vOk (vS_undo σ) := by
  unfold vS_undo
  split
  · obtain ⟨h1, h2, h3, h4, h5⟩ := vOk_iff.mp hO
    exact vOk_iff.mpr ⟨vKM_nil, h2, h3, h5, h5⟩
  · exact hO
theorem vOk_list {σ : vSg} {x y : Int} (hO : vOk σ) : vOk (vS_list σ x y) := by
  unfold vS_list
  split
  · rename_i q
    obtain ⟨h1, h2, h3, h4, h5⟩ := vOk_iff.mp hO
    refine vOk_iff.mpr ⟨h1, h2, vKL_up h3 (fun n p e => ?_), h4, h5⟩
    cases e
    exact ⟨by omega, fun j hj => ⟨(by decide : (-2147483648 : Int) ≤ 0), (by decide : (0 : Int) ≤ 2147483647)⟩⟩
  · exact hO
theorem vOk_Lu {σ : vSg} {i n : Nat} {p : Nat → Int} (hO : vOk σ) (hn : n ≤ 30) (hp : vPg p) : vOk (vLu σ i (some (n, p))) := by
  obtain ⟨h1, h2, h3, h4, h5⟩ := vOk_iff.mp hO
  refine vOk_iff.mpr ⟨h1, h2, vKL_up h3 (fun n p e => ?_), h4, h5⟩
  cases e
  exact ⟨hn, hp⟩
theorem vOk_put {σ : vSg} {x y z : Int} (hO : vOk σ) (z1 : -2147483648 ≤ z) (z2 : z ≤ 2147483647) : vOk (vS_put σ x y z) := by
  unfold vS_put
  split
  · rename_i q
    cases e : σ.2.2.2.2 x.toNat with
    | none => exact hO
    | some a =>
      obtain ⟨n, p⟩ := a
      obtain ⟨g1, g2⟩ := (vOk_iff.mp hO).2.2.1 x.toNat n p (by omega) e
      show vOk (if 0 ≤ y ∧ y < n then vLu σ x.toNat (some (n, vup p y.toNat z)) else σ)
      split
      · refine vOk_Lu hO g1 (fun j hj => ?_)
        unfold vup
        split
        · exact ⟨z1, z2⟩
        · exact g2 j hj
      · exact hO
  · exact hO
theorem vla_rg (D : vSt1) (n : Nat) : ∀ (v e pl : Nat) (p : Nat → Int), e + v ≤ 100000 → vPg p → vPg (vla D n v e pl p).2
  | 0, _, _, _, _, h => h
  | v + 1, e, pl, p, hv, h => by
    rw [show vla D n (v + 1) e pl p = (if pl < n then (if D e = true then vla D n v (e + 1) (pl + 1) (vup p pl (e : Int)) else vla D n v (e + 1) pl p) else (pl, p)) from rfl]
    split
    · split
      · refine vla_rg D n v (e + 1) (pl + 1) _ (by omega) (fun j hj => ?_)
        unfold vup
        split
        · exact ⟨by omega, by omega⟩
        · exact h j hj
      · exact vla_rg D n v (e + 1) pl p (by omega) h
    · exact h
theorem vOk_lay {σ : vSg} {x y z u : Int} (hO : vOk σ) : vOk (vS_lay σ x y z u) := by
  unfold vS_lay
  split
  · rename_i q
    obtain ⟨⟨q1, q2⟩, -, ⟨q3, q4⟩, -⟩ := vQ_ref0 q
    cases e : σ.2.2.2.2 x.toNat with
    | none => exact hO
    | some a =>
      obtain ⟨n, p⟩ := a
      obtain ⟨g1, g2⟩ := (vOk_iff.mp hO).2.2.1 x.toNat n p (by omega) e
      exact vOk_Lu hO g1 (vla_rg _ _ _ _ _ _ (by omega) g2)
  · exact hO
theorem vmo2_some {l : vLst} {x z : Int} {a c : Nat × (Nat → Int)} (h : vmo2 l x z = some (a, c)) : l x.toNat = some a ∧ l z.toNat = some c := by
  unfold vmo2 at h
  cases e1 : l x.toNat with
  | none => cases e2 : l z.toNat <;> rw [e1, e2] at h <;> cases h
  | some a1 =>
    cases e2 : l z.toNat with
    | none => rw [e1, e2] at h; cases h
    | some c1 => rw [e1, e2] at h; cases h; exact ⟨rfl, rfl⟩
theorem vOk_move {σ : vSg} {x y z u v : Int} (hO : vOk σ) : vOk (vS_move σ x y z u v) := by
  unfold vS_move
  split
  · rename_i q
    cases e : vmo2 σ.2.2.2.2 x z with
    | none => exact hO
    | some ac =>
      obtain ⟨⟨n1, p1⟩, ⟨n2, p2⟩⟩ := ac
      obtain ⟨e1, e2⟩ := vmo2_some e
      obtain ⟨g1, g2⟩ := (vOk_iff.mp hO).2.2.1 x.toNat n1 p1 (by omega) e1
      obtain ⟨g3, g4⟩ := (vOk_iff.mp hO).2.2.1 z.toNat n2 p2 (by omega) e2
      show vOk (if vmc n1 n2 y u v then vLu σ z.toNat (some (n2, vcpy p1 p2 y.toNat u.toNat v.toNat)) else σ)
      split
      · rename_i m
        obtain ⟨m1, m2, m3, m4, m5⟩ := m
        refine vOk_Lu hO g3 (fun j hj => ?_)
        unfold vcpy
        split
        · rename_i w
          exact g2 _ (by omega)
        · exact g4 j hj
      · exact hO
  · exact hO

