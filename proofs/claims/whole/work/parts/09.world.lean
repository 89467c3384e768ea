/-! what a heap of the short machine says of a heap of the machine, and what is known of the tables -/
abbrev vG : Type := (Nat → ClassId) × (Nat → Nat → Nat) × (Nat → ClassId)
def vcv (tA : Nat → ClassId) : vE → va_E
  | .inl (τ, n, .inl f) => .inl (tA τ, n, if τ = 1 then .inr (.inl fun i => lZ (f i)) else .inl fun i => iI (f i))
  | .inl (τ, n, .inr p) => .inl (tA τ, n, .inr (.inr (.inr (.inr p))))
  | .inr o => .inr o
def vtys (tA : Nat → ClassId) : List (ClassId × FieldType) := [(tA 0, .int), (tA 1, .long), (tA 2, .boolean), (tA 3, .object "RecurringDays$Plan"), (tA 4, .object "RecurringDays$Days"), (tA 5, .object "RecurringDays$Row"), (tA 6, .array .int)]
/-- a row of ints that was there before: its class is one of two (places 7, 8 of the array classes) -/
def vOl (G : vG) (q n : Nat) (f : Nat → Int) (H : Heap) : Prop := ∃ cell : Cell, H[q]? = some cell ∧ (cell.cls = G.2.2 7 ∨ cell.cls = G.2.2 8) ∧ (∀ k, cell.vm ≠ .statics k) ∧ cell.vm ≠ .unknown ∧ n ≤ cell.slots.size ∧ cell.slots.size.toInt32 = Int32.ofNat n ∧ ∀ j : Nat, j < n → cell.slots[j]? = some (.int (iI (f j)))
/-- a cell: one of ours, or an old row of ints -/
def vAx (G : vG) (lt : Nat × Nat) (q : Nat) (x : vE) (H : Heap) : Prop := (lt.1 ≤ q ∧ va_at (G.1, G.2.1) vwCl (q, vcv G.2.2 x) H) ∨ (q < lt.1 ∧ ∃ (n : Nat) (f : Nat → Int), x = .inl (0, n, .inl f) ∧ vOl G q n f H)
theorem vAx_kept {G : vG} {lt : Nat × Nat} {q : Nat} {x : vE} {H H1 : Heap} (h : vAx G lt q x H) (e : H1[q]? = H[q]?) : vAx G lt q x H1 := by
  rcases h with ⟨h1, h2⟩ | ⟨h1, n, f, hx, cell, c1, c2⟩
  · exact Or.inl ⟨h1, h2.kept e⟩
  · exact Or.inr ⟨h1, n, f, hx, cell, e.trans c1, c2⟩
theorem vAx_lt {G : vG} {lt : Nat × Nat} {q : Nat} {x : vE} {H : Heap} (h : vAx G lt q x H) : q < H.size := by
  rcases h with ⟨h1, h2⟩ | ⟨h1, n, f, hx, cell, c1, c2⟩
  · exact h2.lt
  · exact (Array.getElem?_eq_some_iff.mp c1).1
theorem vAx_at {G : vG} {lt : Nat × Nat} {q : Nat} {x : vE} {H : Heap} (h : vAx G lt q x H) (e : lt.1 ≤ q ∨ ∀ (n : Nat) (f : Nat → Int), x ≠ .inl (0, n, .inl f)) : va_at (G.1, G.2.1) vwCl (q, vcv G.2.2 x) H := by
  rcases h with ⟨h1, h2⟩ | ⟨h1, n, f, hx, -⟩
  · exact h2
  · rcases e with e | e
    · omega
    · exact absurd hx (e n f)
def vHl (G : vG) (lt : Nat × Nat) (h : vHp) (H : Heap) : Prop := h.1 = lt ∧ h.2.1 = H.size ∧ lt.1 ≤ H.size ∧ ∀ q x, hg h q = some x → vAx G lt q x H ∧ ∀ τ n d, x = .inl (τ, n, d) → n < 2147483648
def vT1 : List Jvm.Cond := lw_tbl.filter goodWord
def visN : Jvm.Cond → Bool
  | .methodLinkNest .. => true
  | .fieldLinkNest .. => true
  | _ => false
def vT2 : List Jvm.Cond := lw_tbl.filter visN
def vAr (G : vG) (U : State) : Prop := va_Nw (.arrayOver (.array .int)) U ∧ (∃ kA : Class, U.vm.classes[G.2.2 6]? = some kA ∧ kA.kind = .array (G.2.2 0) (.array .int)) ∧ ∀ k, k = 7 ∨ k = 8 → ∃ (kA : Class) (comp : ClassId), U.vm.classes[G.2.2 k]? = some kA ∧ kA.kind = .array comp .int
def vWd (G : vG) (lt : Nat × Nat) (U : State) (H : Heap) : Prop := va_K (G.1, G.2.1) vwCl (vtys G.2.2) U ∧ va_Z "RecurringDays" "BLOCK_LENGTHS" "[I" (.ref lt.2) (fun q => lt.1 ≤ q) U H ∧ (∀ w ∈ vT2, va_Nw w U) ∧ (va_AO "RecurringDays$Plan" U ∧ va_AO "RecurringDays$Days" U ∧ va_AO "RecurringDays$Row" U) ∧ vAr G U
theorem vAr_moved {G : vG} {u U : State} (hvm : u.vm.Alike U.vm) (h : vAr G u) : vAr G U := by
  obtain ⟨h, ⟨kA, g1, g2⟩, g3⟩ := h
  refine ⟨?_, ?_, fun k hk => ?_⟩
  · obtain ⟨comp, c, k, h1, h2, h3, h4, h5⟩ := arrayOverA_spec h
    obtain ⟨k', hk', he⟩ := hvm.2.2 _ _ h3
    have hi : (U.vm.classes.findIdx? fun (x : Class) => match x.kind with | .array component _ => component == comp | _ => false) = some c := by
      rw [hvm.findIdx?_eq _ (fun _ => rfl)]; exact h2
    have hkind : k'.kind = .array comp (.array .int) := by rw [he]; exact h4
    have f1 : U.vm.findClass (FieldType.array .int).toString = some comp := by rw [hvm.findClass]; exact h1
    have f2 : U.vm.findClass ("[" ++ (FieldType.array .int).toString) = some c := by rw [hvm.findClass]; exact h5
    unfold va_Nw Cond.before Cond.holds
    simp only [Cond.value]
    rw [f1, Option.bind_some]
    refine (congrArg (fun o : Option Nat => (o.bind (fun c => (U.vm.classes[c]?).map fun (k : Class) => match k.kind with | .array _ ty => decide (ty = FieldType.array .int) && decide (U.vm.findClass ("[" ++ (FieldType.array .int).toString) = some c) | _ => false) == some true)) hi).trans ?_
    simp [hk', hkind, f2]
  · obtain ⟨k', hk', he⟩ := hvm.2.2 _ _ g1
    exact ⟨k', hk', by rw [he]; exact g2⟩
  · obtain ⟨kA', comp, g4, g5⟩ := g3 k hk
    obtain ⟨k', hk', he⟩ := hvm.2.2 _ _ g4
    exact ⟨k', comp, hk', by rw [he]; exact g5⟩
theorem vOl_arr {G : vG} {lt : Nat × Nat} {U : State} {H : Heap} {cell : Cell} (h : vWd G lt U H) (c2 : cell.cls = G.2.2 7 ∨ cell.cls = G.2.2 8) (c3 : ∀ k, cell.vm ≠ .statics k) : U.isArrayOf cell .int := by
  obtain ⟨-, -, -, -, -, -, h3⟩ := h
  rcases c2 with c | c
  · obtain ⟨kA, comp, g1, g2⟩ := h3 7 (Or.inl rfl)
    exact ⟨c3, kA, by rw [c]; exact g1, comp, g2⟩
  · obtain ⟨kA, comp, g1, g2⟩ := h3 8 (Or.inr rfl)
    exact ⟨c3, kA, by rw [c]; exact g1, comp, g2⟩
theorem vT2_warm {s U : State} (hW : s.WarmedH U.vm) (h : ∀ w ∈ vT2, va_Nw w s) : ∀ w ∈ vT2, va_Nw w U := by
  intro w hw
  have h1 := h w hw
  have h2 : visN w = true := (List.mem_filter.mp hw).2
  cases w <;> first | (simp [visN] at h2; done) | exact va_Nw.warmM hW h1 | exact va_Nw.warmF hW h1
theorem vWd_moved {G : vG} {lt : Nat × Nat} {s U : State} {H H1 : Heap} (hW : s.WarmedH U.vm) (h : vWd G lt s H) (hq : ∀ a : Nat, a < H.size → ¬ lt.1 ≤ a → H1[a]? = H[a]?) : vWd G lt U H1 := by
  obtain ⟨h1, h2, h3, ⟨h4, h5, h6⟩, h7⟩ := h
  exact ⟨va_K.moved hW.alike h1, (va_Z.moved hW.alike h2).kept hq, vT2_warm hW h3, ⟨h4.moved hW.alike, h5.moved hW.alike, h6.moved hW.alike⟩, vAr_moved hW.alike h7⟩
theorem vWd_same {G : vG} {lt : Nat × Nat} {s U : State} {H : Heap} (e : s.vm = U.vm) (h : vWd G lt s H) : vWd G lt U H := by
  refine vWd_moved (s := s) (U := U) ?_ h (fun _ _ _ => rfl)
  rw [← e]
  exact State.WarmedH.refl s
/-! the tables, read -/
theorem vis_eq {i : Nat} {w : Jvm.Cond} (h : vis i w = true) : w ∈ lw_tbl := List.mem_of_getElem? (of_decide_eq_true h : vat i = some w)
theorem vT1_of {w : Jvm.Cond} (h : w ∈ lw_tbl) (g : goodWord w = true) : w ∈ vT1 := List.mem_filter.mpr ⟨h, g⟩
theorem vT2_of {w : Jvm.Cond} (h : w ∈ lw_tbl) (g : visN w = true) : w ∈ vT2 := List.mem_filter.mpr ⟨h, g⟩
theorem vT1_good {w : Jvm.Cond} (h : w ∈ vT1) : goodWord w = true := (List.mem_filter.mp h).2
theorem vT1_in {w : Jvm.Cond} (h : w ∈ vT1) : w ∈ lw_tbl := (List.mem_filter.mp h).1
theorem vlk_ok {m pc o a b nx : Nat} {z : Int} (hm : m < vNum) {r : vNr} (hr : vN[m]? = some r) (hc : vlk m pc = some (o, a, b, z, nx)) :
    ∃ ins len i, decode r.2.1 pc = .ok (ins, len) ∧ vchk r.1.cls r.1.name r.2.2.2.1 pc ins len o a b z i = true ∧ nx = pc + len := by
  unfold vlk at hc
  have hv := vrow_all m hm
  unfold vrow at hv
  rw [hr] at hv
  cases hl : vC[m]? with
  | none => rw [hl] at hv; cases hv
  | some l =>
    rw [hl] at hv hc
    simp only [Option.bind_some] at hc
    obtain ⟨e, he, hh⟩ := Option.map_eq_some_iff.mp hc
    have h1 := List.find?_some he
    have h2 : e ∈ l := List.mem_of_find?_eq_some he
    have h3 := List.all_eq_true.mp hv e h2
    simp only [beq_iff_eq] at h1
    unfold vche at h3
    rw [Bool.and_eq_true] at h3
    obtain ⟨h4, h5⟩ := h3
    have h4 := of_decide_eq_true h4
    rw [h1] at h4 h5
    cases hh
    exact ⟨e.2.1, e.2.2.1, e.2.2.2.2.2.2.2, h4, h5, rfl⟩
