/-! THE LAW'S ENTRY, out of what the Statement gives of the start (began as the kit's skeleton) -/
def R_law : String := "RecurringDaysLaw"
def lw_P (b : Addr) (xs : List Int32) (args : Array Value) (s : State) : Prop := args = #[.ref b] ∧ s.IntsAt b xs ∧ xs.length ≤ 3072 ∧ (Jvm.Cond.and given_1 narrow_1).before args s = true
def lw_Q (_ : Array Value) (s : State) (o : Outcome) (t : State) : Prop := o = .returned (some (.int 1)) ∧ Framed s o t [] 600000 7302250
def lw_Z (below : List Frame) (a : Array Value) (s : State) : State → Prop := fun t => ∃ o, t.status = .running ∧ Ended t below o ∧ lw_Q a s o t
/-- the law's own end, with 1 on the stack, nothing written that was there before, its room as the claim has it -/
theorem lw_ret {p : Program} {l : Launch} {e : Env} {s : State} {m : MethodId} {below : List Frame} {meth : Method} {c : Code} {b : Nat} (hx : p.tables.exec = Jvm.exec) (hb : c.code = code) (hr : meth.sig.returnType = ret) (hlocks : meth.locks = false) {pc : Nat} {H : Heap} {ls : Array Slot} (hdg : decode code pc = .ok (.ireturn, 1)) : W p l e room_1 s m #[Value.ref b] below meth c H [] 600000 7302250 (lw_Z below #[Value.ref b] s) (F0 m pc ls [.int 1]) := by
  intro T hT X
  obtain ⟨fs, hret, hrun, hended, hW, hframe⟩ := X.leave (v := some (.int 1)) (hlocks := hlocks) (fun h => by rw [hr] at h; cases h)
  have hmeth' : T.vm.method? m = some meth := X.method'
  refine ⟨T.setFrames fs, ?_, .returned (some (.int 1)), hrun, hended, rfl, ⟨_, rfl⟩, hW, hframe⟩
  jvm_step X.here [X.here.top, hx, hb, hdg, hmeth', hr, ret, narrow_b1]
  (try refine ⟨rfl, ?_⟩); (try refine ⟨rfl, ?_⟩)
  first | (intro acts; rw [hret _ acts rfl rfl rfl]) | rw [hret _ _ rfl rfl rfl]
  exact Steps.refl _
/-- what holds at the law's entry: the machine, the code, the tables' words (any of lw_tbl by 'hts w (by decide +kernel)'), the script of L ints xs at the cell b, what the Statement gives of the start (any of its parts by flat_of_before) -/
def lw_At (p : Program) (s : State) (m : MethodId) (meth : Method) (c : Code) (b L : Nat) (xs : Nat → Int32) : Prop :=
  p.tables.exec = Jvm.exec ∧ c.code = code ∧ meth.sig.returnType = ret ∧ c.maxLocals = 4 ∧ s.vm.findClass R_law = some m.cls ∧ (∀ w ∈ lw_tbl, w.before #[Value.ref b] s = true) ∧ va_X b L xs s s.heap ∧ b < s.heap.size ∧ meth.locks = false ∧ (Jvm.Cond.and given_1 narrow_1).before #[Value.ref b] s = true ∧ meth.name = x.name
/-- the lengths of blocks -/
def vbkL (j : Nat) : Int := if j = 0 then 7 else if j = 1 then 30 else 360
theorem vw_inst : ∀ (c : Nat) (q : vw_C), vwCl[c]? = some q → ∃ n, Cond.instantiable q.1 n ∈ lw_tbl := by
  intro c q hq
  match c, hq with
  | 0, hq => cases hq; exact ⟨1, List.mem_of_getElem? (i := 78) (by decide +kernel)⟩
  | 1, hq => cases hq; exact ⟨4, List.mem_of_getElem? (i := 111) (by decide +kernel)⟩
  | 2, hq => cases hq; exact ⟨5, List.mem_of_getElem? (i := 139) (by decide +kernel)⟩
  | 3, hq => cases hq; exact ⟨6, List.mem_of_getElem? (i := 71) (by decide +kernel)⟩
  | 4, hq => cases hq; exact ⟨3, List.mem_of_getElem? (i := 168) (by decide +kernel)⟩
  | 5, hq => cases hq; exact ⟨7, List.mem_of_getElem? (i := 61) (by decide +kernel)⟩
  | 6, hq => cases hq; exact ⟨25, List.mem_of_getElem? (i := 625) (by decide +kernel)⟩
  | k + 7, hq => simp [vwCl] at hq
theorem vw_K0 {args : Array Value} {s : State} (hts : ∀ w ∈ lw_tbl, w.before args s = true) : ∃ (D1 : Nat → ClassId) (D2 : Nat → Nat → Nat), ∀ (c : Nat) (q : vw_C), vwCl[c]? = some q → u_Kn s q.1 q.2.1 q.2.2 (D1 c) (D2 c) := by
  have hT : ∀ w ∈ vT1, w.before args s = true := fun w hw => hts w (vT1_in hw)
  have go : ∀ c : Nat, ∃ (cC : ClassId) (iS : Nat → Nat), ∀ q : vw_C, vwCl[c]? = some q → u_Kn s q.1 q.2.1 q.2.2 cC iS := by
    intro c
    cases hq : vwCl[c]? with
    | none => exact ⟨0, fun _ => 0, fun q e => by cases e⟩
    | some q0 =>
      obtain ⟨n, hn⟩ := vw_inst c q0 hq
      obtain ⟨cC, iS, h⟩ := u_known (ws := vT1) (n := n) hT (vcls c q0 hq).1 (hts _ hn)
      exact ⟨cC, iS, fun q e => by cases e; exact h⟩
  exact ⟨fun c => Classical.choose (go c), fun c => Classical.choose (Classical.choose_spec (go c)), fun c => Classical.choose_spec (Classical.choose_spec (go c))⟩
def vtA (a0 a1 a2 a3 a4 a5 a6 a7 a8 : ClassId) : Nat → ClassId
  | 0 => a0
  | 1 => a1
  | 2 => a2
  | 3 => a3
  | 4 => a4
  | 5 => a5
  | 6 => a6
  | 7 => a7
  | _ => a8
theorem vw_prim {args : Array Value} {s : State} {ty : FieldType} (h : (Cond.arrayClass ty).before args s = true) : ∃ a : ClassId, ArrOfT s a ty ∧ s.vm.findClass ("[" ++ ty.toString) = some a := by
  obtain ⟨a, k, p, f, g, h⟩ := Cond.arrayClass_spec h
  exact ⟨a, fun n z => ⟨fun k h => (by cases h), k, g, p, h⟩, f⟩
theorem vw_obj {args : Array Value} {s : State} {C : String} (h : (Cond.arrayOver (.object C)).before args s = true) : ∃ a : ClassId, ArrOfT s a (.object C) ∧ va_RA s a (.object C) := by
  obtain ⟨comp, a, k, f, -, g, h, e⟩ := Cond.arrayOver_spec h
  exact ⟨a, fun n z => ⟨fun k h => (by cases h), k, g, comp, h⟩, k, comp, g, h, f, e⟩
abbrev vAi (s : State) (c : ClassId) : Prop := ∃ (kA : Class) (comp : ClassId), s.vm.classes[c]? = some kA ∧ kA.kind = .array comp .int
theorem vw_ar {args : Array Value} {s : State} {c7 c8 : ClassId} (hts : ∀ w ∈ lw_tbl, w.before args s = true) (h7 : vAi s c7) (h8 : vAi s c8) : ∃ tA : Nat → ClassId, tA 7 = c7 ∧ tA 8 = c8 ∧ (∀ (k : Nat) (q : ClassId × FieldType), (vtys tA)[k]? = some q → ArrOfT s q.1 q.2 ∧ va_RA s q.1 q.2) ∧ ∃ kA : Class, s.vm.classes[tA 6]? = some kA ∧ kA.kind = .array (tA 0) (.array .int) := by
  obtain ⟨a0, f0, g0⟩ := vw_prim (hts (.arrayClass .int) (List.mem_of_getElem? (i := 87) (by decide +kernel)))
  obtain ⟨a1, f1, g1⟩ := vw_prim (hts (.arrayClass .long) (List.mem_of_getElem? (i := 88) (by decide +kernel)))
  obtain ⟨a2, f2, g2⟩ := vw_prim (hts (.arrayClass .boolean) (List.mem_of_getElem? (i := 707) (by decide +kernel)))
  obtain ⟨a3, f3, g3⟩ := vw_obj (hts (.arrayOver (.object "RecurringDays$Plan")) (List.mem_of_getElem? (i := 69) (by decide +kernel)))
  obtain ⟨a4, f4, g4⟩ := vw_obj (hts (.arrayOver (.object "RecurringDays$Days")) (List.mem_of_getElem? (i := 77) (by decide +kernel)))
  obtain ⟨a5, f5, g5⟩ := vw_obj (hts (.arrayOver (.object "RecurringDays$Row")) (List.mem_of_getElem? (i := 136) (by decide +kernel)))
  obtain ⟨comp, a6, k6, f, -, g, h, e⟩ := arrayOverA_spec (hts (.arrayOver (.array .int)) (List.mem_of_getElem? (i := 117) (by decide +kernel)))
  have ec : comp = a0 := Option.some.inj (f.symm.trans g0)
  subst ec
  refine ⟨vtA comp a1 a2 a3 a4 a5 a6 c7 c8, rfl, rfl, fun k q hk => ?_, k6, g, h⟩
  match k, hk with
  | 0, hk => rw [← Option.some.inj (show some (comp, FieldType.int) = some q from hk)]; exact ⟨f0, g0⟩
  | 1, hk => rw [← Option.some.inj (show some (a1, FieldType.long) = some q from hk)]; exact ⟨f1, g1⟩
  | 2, hk => rw [← Option.some.inj (show some (a2, FieldType.boolean) = some q from hk)]; exact ⟨f2, g2⟩
  | 3, hk => rw [← Option.some.inj (show some (a3, FieldType.object "RecurringDays$Plan") = some q from hk)]; exact ⟨f3, g3⟩
  | 4, hk => rw [← Option.some.inj (show some (a4, FieldType.object "RecurringDays$Days") = some q from hk)]; exact ⟨f4, g4⟩
  | 5, hk => rw [← Option.some.inj (show some (a5, FieldType.object "RecurringDays$Row") = some q from hk)]; exact ⟨f5, g5⟩
  | 6, hk => rw [← Option.some.inj (show some (a6, FieldType.array .int) = some q from hk)]; exact ⟨fun n z => ⟨fun k h => (by cases h), k6, g, comp, h⟩, e⟩
  | k + 7, hk => exact absurd (show (none : Option (ClassId × FieldType)) = some q from hk) (by simp)
abbrev vbT : Term := .static "RecurringDays" "BLOCK_LENGTHS" "[I"
theorem vw_bl {s : State} {b : Nat} (hts : ∀ w ∈ lw_tbl, w.before #[Value.ref b] s = true) (hgv : (Jvm.Cond.and given_1 narrow_1).before #[Value.ref b] s = true) : ∃ t : Nat, t ≠ b ∧ t < s.heap.size ∧ va_Z "RecurringDays" "BLOCK_LENGTHS" "[I" (.ref t) (fun q => s.heap.size ≤ q) s s.heap ∧ ∃ cell : Cell, s.heap[t]? = some cell ∧ s.isArrayOf cell .int ∧ cell.vm ≠ .unknown ∧ 3 ≤ cell.slots.size ∧ cell.slots.size.toInt32 = Int32.ofNat 3 ∧ ∀ j : Nat, j < 3 → cell.slots[j]? = some (.int (iI (vbkL j))) := by
  have hs := flat_of_before _ hgv
  have harr : (Cond.arrayOf vbT .int).before #[Value.ref b] s = true := hs _ (by decide +kernel)
  have hlen := va_eqt (hs (Cond.eq (.length vbT) (.int 3)) (by decide +kernel))
  have h0 := va_eqt (hs (Cond.eq (.elem vbT (.int 0)) (.int 7)) (by decide +kernel))
  have h1 := va_eqt (hs (Cond.eq (.elem vbT (.int 1)) (.int 30)) (by decide +kernel))
  have h2 := va_eqt (hs (Cond.eq (.elem vbT (.int 2)) (.int 360)) (by decide +kernel))
  have hn : (Cond.not (Cond.eq (.arg 0) vbT)).before #[Value.ref b] s = true := hs _ (by decide +kernel)
  have hel : ∀ j : Nat, j < 3 → (Term.elem vbT (.int (Int32.ofNat j))).eval #[Value.ref b] s none [] s = some (Value.int (iI (vbkL j))) := fun j hj => match j, hj with
    | 0, _ => h0
    | 1, _ => h1
    | 2, _ => h2
  have hA : ∀ a : Nat, a < s.heap.size → ¬ (fun q => s.heap.size ≤ q) a := fun a ha h => Nat.not_le.mpr ha h
  obtain ⟨t, ht, cell, c1, c2, c3, c4, c5, c6, c7⟩ := va_Tof (A := fun q => s.heap.size ≤ q) (N := 3) (f := fun j => Value.int (iI (vbkL j))) (by decide) harr hlen hel hA
  refine ⟨t, fun e => ?_, (Array.getElem?_eq_some_iff.mp c1).1, va_Zref (hts _ (List.mem_of_getElem? (i := 324) (by decide +kernel))) (hts _ (List.mem_of_getElem? (i := 49) (by decide +kernel))) ht hA, cell, c1, c2, c3, c4, c5, c6⟩
  have ha : (Term.arg 0).eval #[Value.ref b] s none [] s = some (.ref b) := rfl
  rw [e] at ht
  simp [Cond.before, Cond.holds, Cond.value, ha, ht] at hn
theorem vw_W {s : State} {b t : Nat} {D1 : Nat → ClassId} {D2 : Nat → Nat → Nat} {tA : Nat → ClassId} (hts : ∀ w ∈ lw_tbl, w.before #[Value.ref b] s = true) (hZ : va_Z "RecurringDays" "BLOCK_LENGTHS" "[I" (.ref t) (fun q => s.heap.size ≤ q) s s.heap) (hD : ∀ (c : Nat) (q : vw_C), vwCl[c]? = some q → u_Kn s q.1 q.2.1 q.2.2 (D1 c) (D2 c)) (hA : ∀ (k : Nat) (q : ClassId × FieldType), (vtys tA)[k]? = some q → ArrOfT s q.1 q.2 ∧ va_RA s q.1 q.2) (hA6 : ∃ kA : Class, s.vm.classes[tA 6]? = some kA ∧ kA.kind = .array (tA 0) (.array .int)) (h7 : vAi s (tA 7)) (h8 : vAi s (tA 8)) : vWd (D1, D2, tA) (s.heap.size, t) s s.heap := by
  refine ⟨⟨hD, hA⟩, hZ, fun w hw => ?_, ⟨va_AO.of (hts _ (List.mem_of_getElem? (i := 69) (by decide +kernel))), va_AO.of (hts _ (List.mem_of_getElem? (i := 77) (by decide +kernel))), va_AO.of (hts _ (List.mem_of_getElem? (i := 136) (by decide +kernel)))⟩, (hts (.arrayOver (.array .int)) (List.mem_of_getElem? (i := 117) (by decide +kernel))), hA6, fun k hk => ?_⟩
  · have h1 := hts w (List.mem_filter.mp hw).1
    have h2 : visN w = true := (List.mem_filter.mp hw).2
    cases w <;> first | (simp [visN] at h2; done) | exact va_Nw.of rfl h1
  · rcases hk with e | e
    · rw [e]; exact h7
    · rw [e]; exact h8
abbrev vh0 (N b t L : Nat) (xs : Nat → Int32) : vHp := ((N, t), N, fun q => if q = b then some (.inl (0, L, .inl fun j => (xs j).toInt)) else if q = t then some (.inl (0, 3, .inl vbkL)) else none)
/-- from the entry, for every script of at most 3072 ints, the law comes to its end with true -/
theorem whole_start {p : Program} {e : Env} {s : State} {m : MethodId} {below : List Frame} {meth : Method} {c : Code} (l : Launch) (hflags : l.flags = flags0) {b L : Nat} {xs : Nat → Int32} (hL : L ≤ 3072) (C0 : lw_At p s m meth c b L xs) : W p l e room_1 s m #[Value.ref b] below meth c s.heap [] 0 0 (lw_Z below #[Value.ref b] s) (entryFrame m ([Value.ref b] : List Value).toArray 4) := by
  obtain ⟨hx, hb, hrt, hml, hown, hts, ⟨scr, x1, ⟨x21, kS, kS1, cS, kS2⟩, x3, x4, x5⟩, hbl, hlocks, hgv, hnm⟩ := C0
  obtain ⟨t, tb, tl, tZ, cell, t1, ⟨t21, kT, kT1, cT, kT2⟩, t3, t4, t5, t6⟩ := vw_bl hts hgv
  obtain ⟨D1, D2, hD⟩ := vw_K0 hts
  obtain ⟨tA, e7, e8, hA, hA6⟩ := vw_ar (c7 := scr.cls) (c8 := cell.cls) hts ⟨kS, cS, kS1, kS2⟩ ⟨kT, cT, kT1, kT2⟩
  have hW : vWd (D1, D2, tA) (s.heap.size, t) s s.heap := vw_W hts tZ hD hA hA6 (by rw [e7]; exact ⟨kS, cS, kS1, kS2⟩) (by rw [e8]; exact ⟨kT, cT, kT1, kT2⟩)
  have X : vCx p room_1 s m #[Value.ref b] meth c vrL 171 60 (D1, D2, tA) (s.heap.size, t) := ⟨hx, hb, hml, hown, fun w hw => hts w (vT1_in hw), hW, hrt, hnm, by decide, by rfl, Nat.le_of_ble_eq_true rfl, Nat.le_of_ble_eq_true rfl, Nat.le_refl _⟩
  have hRt : vRt p l e room_1 s m #[Value.ref b] below meth c (lw_Z below #[Value.ref b] s) (D1, D2, tA) (s.heap.size, t) (fun v _ => v = some (.int (iI 1))) := by
    intro v h2 H locs ls pc ins hv hH2 hS hd hk
    subst hv
    have hi : ins = .ireturn := by
      rcases hk with ⟨r, -⟩ | ⟨-, x, q, -⟩ | ⟨-, w, C, q, q2, -⟩ | ⟨-, q, -⟩
      · exact r
      · cases q
      · cases q
        rcases q2 with q2 | ⟨a, q2⟩ <;> cases q2
      · cases q
    subst hi
    rw [hb] at hd
    exact va_forget hS.2.2 (lw_ret hx hb hrt hlocks hd)
  have hH : vHl (D1, D2, tA) (s.heap.size, t) (vh0 s.heap.size b t L xs) s.heap := by
    refine ⟨rfl, rfl, Nat.le_refl _, fun q x hq => ?_⟩
    have hq : (if q = b then some (.inl (0, L, .inl fun j => (xs j).toInt)) else if q = t then some (.inl (0, 3, .inl vbkL)) else none : Option vE) = some x := hq
    by_cases e1 : q = b
    · rw [if_pos e1] at hq
      cases hq
      subst e1
      exact ⟨Or.inr ⟨hbl, L, _, rfl, scr, x1, Or.inl e7.symm, x21, x3, Nat.le_of_eq x4.symm, by rw [x4], fun j hj => by rw [x5 j hj, iI_of]⟩, fun _ _ _ z => by cases z; omega⟩
    · rw [if_neg e1] at hq
      by_cases e2 : q = t
      · rw [if_pos e2] at hq
        cases hq
        subst e2
        exact ⟨Or.inr ⟨tl, 3, _, rfl, cell, t1, Or.inr e8.symm, t21, t3, t4, t5, t6⟩, fun _ _ _ z => by cases z; omega⟩
      · rw [if_neg e2] at hq
        cases hq
  have hB : vBk (vh0 s.heap.size b t L xs) := ⟨⟨vbkL, by show (if t = b then _ else if t = t then _ else none) = _; rw [if_neg tb, if_pos rfl], rfl, rfl, rfl⟩, tl⟩
  have K := l_law (d := 0) (a := b) (n := L) (f := fun j => (xs j).toInt) (h := vh0 s.heap.size b t L xs) (Q := fun v _ => v = some (.int (iI 1))) (by show (if b = b then _ else _) = _; rw [if_pos rfl]) hbl (Nat.le_refl _) hB (fun k hk => ⟨iI_lo _, iI_hi _⟩) hL (fun _ => rfl)
  rw [lg_entry_eq]
  exact K _ (v_rules X (fun mc ms mj As h Q z => v_met l _ _ _ mc ms mj As h Q z) hRt) hml.symm _ s.heap [] 0 0 (vLv_entry (vs := [Value.ref b]) (n := 4) (Nat.le_of_ble_eq_true rfl)) hH va_S.rf (Nat.le_of_ble_eq_true rfl) (Nat.le_of_ble_eq_true rfl)
set_option maxHeartbeats 4000000 in
theorem lw_walk (l : Launch) (hflags : l.flags = flags0) (b : Addr) (xs : List Int32) : MetFree l x (headSpec (Jvm.Cond.code x code maxLocals ret :: tables_1) room_1) (lw_P b xs) (fun _ _ _ _ _ => True) lw_Q := by
  refine MetFree.of_bodyS (code := code) (maxLocals := maxLocals) (ret := ret) (by decide) ?_ ?_
  · intro args s m h hn
    obtain ⟨meth, c, h1, h2, h3, h4, h5, h6, -, -⟩ := Cond.code_spec hn (atoms_spec (ws := Jvm.Cond.code x code maxLocals ret :: tables_1) h _ List.mem_cons_self)
    exact ⟨meth, c, h1, h2, h3, h4, h5, h6⟩
  · intro p e s m args below meth c s₁ B hml0 hP _
    obtain ⟨rfl, hx, hbd, hgv⟩ := hP
    obtain ⟨scr, harrAt, hlist, hof, hsmall⟩ := hx
    obtain ⟨hcb, hkn, -, -⟩ := State.arrayAt?_spec harrAt
    have hown : s.vm.findClass R_law = some m.cls := findClass_of_methodNamed B.named
    have hts0 : ∀ c ∈ (Jvm.Cond.code x code maxLocals ret :: tables_1), c.before #[Value.ref b] s = true := atoms_spec (ws := Jvm.Cond.code x code maxLocals ret :: tables_1) B.pre
    have hts : ∀ w ∈ lw_tbl, w.before #[Value.ref b] s = true := k2_hts_sels lw_privs (fun w hw => hts0 w (List.mem_cons_of_mem _ hw)) lw_privs_ok
    have hml : c.maxLocals = 4 := B.maxLocals_eq (hts0 _ List.mem_cons_self)
    have X₀ : Stand p l e room_1 s m #[Value.ref b] below meth c s₁ [] 0 0 := Stand.of_body B
    have hh0 : s₁.heap = s.heap := by rw [B.state]; rfl
    have hsz : scr.slots.size = xs.length := by rw [← Array.length_toList, hlist, List.length_map]
    have hval : ∀ j : Nat, j < xs.length → scr.slots[j]? = some (.int (xs.getD j 0)) := fun j hj => by
      rw [← Array.getElem?_toList, hlist]
      simp [hj]
    have hbl : b < s.heap.size := (Array.getElem?_eq_some_iff.mp hcb).1
    have hX : va_X b xs.length (fun j => xs.getD j 0) s s.heap := ⟨scr, hcb, hof, hkn, hsz, hval⟩
    have K : W p l e room_1 s m #[Value.ref b] below meth c s₁.heap [] 0 0 (lw_Z below #[Value.ref b] s) (entryFrame m ([Value.ref b] : List Value).toArray 4) := by
      rw [hh0]
      exact whole_start l hflags hbd ⟨B.exec, B.bytes, B.returns, hml, hown, hts, hX, hbl, B.notSynchronized, hgv, (name_of_methodNamed B.named B.method).1⟩
    obtain ⟨t, a1, o, b1, b2, b3⟩ := K s₁ rfl X₀
    exact ⟨t, o, a1, b1, b2, b3⟩
theorem lw_pre_spec {args : Array Value} {s : State} (h : (Jvm.Cond.and given_1 narrow_1).before args s = true) (hr : rest_1_c.before args s = true) : ∃ (b : Addr) (xs : List Int32), lw_P b xs args s := by
  have hs := flat_of_before _ h
  have hq := flat_of_before _ hr
  have hc : (Cond.count 1).before args s = true := hs _ (by decide +kernel)
  have harr : (Cond.arrayOf (.arg 0) .int).before args s = true := hs _ (by decide +kernel)
  have hle : (Cond.le (.length (.arg 0)) (.int 3072)).before args s = true := hs _ (by decide +kernel)
  have hlen : (Cond.isInt (.length (.arg 0))).before args s = true := hq _ (by decide +kernel)
  have hall : (Cond.all (.arg 0) (.isInt (.elem (.arg 0) (.index 0)))).before args s = true := hq _ (by decide +kernel)
  obtain ⟨b, xs, hb, hx⟩ := State.ints_of_pre rfl harr hlen hall
  have hsm : xs.length < 2 ^ 31 := hx.choose_spec.2.2.2
  have hev : (Term.length (.arg 0)).eval args s none [] s = some (.int xs.length.toInt32) := hx.length_eval hb
  have hv := Cond.le_ints hev (show (Term.int 3072).eval args s none [] s = some (.int 3072) from rfl)
  have hd : xs.length.toInt32 ≤ 3072 := by
    simpa [Cond.before, Cond.holds, hv] using hle
  have hN : xs.length ≤ 3072 := (Int32.ofNat_le_ofNat hsm (by decide)).mp (show Int32.ofNat xs.length ≤ Int32.ofNat 3072 from hd)
  exact ⟨b, xs, Cond.one_arg hc (show args[0]? = some (.ref b) from hb), hx, hN, h⟩
theorem lw_comes (l : Launch) (hflags : l.flags = flags0) : Comes l x (Jvm.Cond.code x code maxLocals ret :: tables_1) room_1 (fun tb e args s => Calls_1 tb e args s ∧ rest_1 tb e args s ∧ Pre_1 tb e args s)
    (fun _ _ args s o t => lw_Q args s o t) := by
  intro p e ha hc hk s m args below hf hfit hheap happ hpre
  obtain ⟨b, xs, hP⟩ := lw_pre_spec hpre.2.2 hpre.2.1
  obtain ⟨k, o, h1, h2, h3, hQ⟩ := lw_walk l hflags b xs p e ha hc hk s m args below hf ((Spec.applies_iff_loose hf).mp happ).1 hP trivial
  exact ⟨k, o, h1, h2, h3, hQ⟩
theorem lw_frame {s t : State} {o : Outcome} {args : Array Value} (h : Framed s o t [] 600000 7302250) :
    Framed s o t (fieldLocs frame_1_writes args s ++ arrayLocs frame_1_arrays args s ++ staticLocs frame_1_statics s) 600000 7302250 := h
theorem lw_limb (L : Cond) (hL : ∀ (args : Array Value) (s t : State), L.after args s (.returned (some (.int 1))) t = true) :
    ArmFor flags0 classFile x code maxLocals ret World_1 tables_1 room_1 Calls_1 rest_1 Pre_1
      (fun tb e a s o t => postC L tb e a s o t ∧ Framed s o t (fieldLocs frame_1_writes a s ++ arrayLocs frame_1_arrays a s ++ staticLocs frame_1_statics s) 600000 7302250) := by
  intro l hflags _ _ p e ha hc hk s m args below hf hfit hheap happ hpre
  obtain ⟨k, o, h1, h2, h3, rfl, hF⟩ := lw_comes l hflags p e ha hc hk s m args below hf hfit hheap happ hpre
  exact ⟨k, _, h1, h2, h3, hL args s _, lw_frame hF⟩

