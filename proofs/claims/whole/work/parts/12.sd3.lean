
theorem vrc_spec {mj ci n : Nat} (h : vrc mj = some (ci, n)) : mj < vNum - 1 ∧ ∃ rj, vN[mj]? = some rj ∧ rj.2.2.2.2.1 = ci ∧ rj.2.2.2.2.2.1 = n := by
  unfold vrc at h
  by_cases hj : mj < vNum - 1
  · rw [if_pos hj] at h
    obtain ⟨rj, h1, h2⟩ := Option.map_eq_some_iff.mp h
    cases h2
    exact ⟨hj, rj, h1, rfl, rfl⟩
  · rw [if_neg hj] at h; cases h
theorem vnok_all {mj : Nat} {rj : vNr} (hj : mj < vNum - 1) (h : vN[mj]? = some rj) : Cond.code rj.1 rj.2.1 rj.2.2.1 rj.2.2.2.1 ∈ vT1 ∧ (rj.2.2.2.2.2.2.1 = true → Cond.static rj.1 ∈ vT1) ∧ (rj.2.2.2.2.2.2.1 = false → Cond.instanceMethod rj.1 ∈ vT1) ∧ Cond.initialized rj.1.cls ∈ vT1 ∧
    (rj.1.cls ≠ "java/lang/invoke/MethodHandle" ∧ rj.1.cls ≠ "java/lang/invoke/VarHandle") ∧ (∀ sig, parseMethodDescriptor rj.1.desc = some sig → rj.2.2.2.2.2.1 = sig.parameters.length) ∧ plainName rj.1.cls = true ∧ rj.2.2.1 ≤ 30 ∧ (rj.2.2.2.2.2.2.1 = false → ∃ q, vwCl[rj.2.2.2.2.1]? = some q ∧ q.1 = rj.1.cls) ∧ (rj.1.name = "<init>" → rj.2.2.2.1 = none) := by
  have hcw := vcw_all mj hj rj h
  have hmem : rj ∈ vN := List.mem_of_getElem? h
  have h0 : (rj.2.2.2.2.2.2.2.1 == 9999 || vnok rj) = true := List.all_eq_true.mp vn_ok_all rj hmem
  have hini := List.all_eq_true.mp vn_init_all rj hmem
  have h1 : vnok rj = true := by
    rcases Bool.or_eq_true_iff.mp h0 with q | q
    · exfalso
      have e : rj.2.2.2.2.2.2.2.1 = 9999 := by simpa using q
      unfold vcw at hcw
      rw [e] at hcw
      have e2 : vat 9999 = none := by decide +kernel
      rw [e2] at hcw; cases hcw
    · exact q
  unfold vnok at h1
  simp only [Bool.and_eq_true, Bool.or_eq_true] at h1
  obtain ⟨⟨⟨g1, g2⟩, g3⟩, g4⟩ := h1
  obtain ⟨a1, a2, a3, a4, a5⟩ := of_decide_eq_true g3
  refine ⟨vT1_of (List.mem_of_getElem? hcw) rfl, fun z => ?_, fun z => ?_, vT1_of (vis_eq g2) rfl, ⟨a1, a2⟩, fun sig z => ?_, a4, a5, fun z => ?_, fun z => of_decide_eq_true hini z⟩
  · rw [if_pos z] at g1; exact vT1_of (vis_eq g1) rfl
  · rw [if_neg (by rw [z]; decide)] at g1; exact vT1_of (vis_eq g1) rfl
  · rw [z] at a3; exact (Option.some.inj a3).symm
  · rcases g4 with q | q
    · rw [z] at q; cases q
    · obtain ⟨q0, h2, h3⟩ := Option.map_eq_some_iff.mp (of_decide_eq_true q)
      exact ⟨q0, h2, h3⟩
def vQc (G : vG) (lt : Nat × Nat) (Q : vQ) : Array Value → State → Outcome → State → Prop := fun _ st oc t => (∃ v h', oc = .returned v ∧ Q v h' ∧ vHl G lt h' t.heap ∧ vWd G lt t t.heap) ∧ va_F (fun q => lt.1 ≤ q) st t
abbrev vrm (d mc ms : Nat) : Room := { frames := d, cells := mc, slots := ms, locals := 60 * d }
abbrev vPc (G : vG) (lt : Nat × Nat) (As : List Value) (h : vHp) : Array Value → State → Prop := va_Pc As (fun U => vHl G lt h U.heap ∧ vWd G lt U U.heap)
def vMet (l : Launch) (G : vG) (lt : Nat × Nat) (d mc ms mj : Nat) (As : List Value) (h : vHp) (Q : vQ) : Prop := ∀ r : vNr, vN[mj]? = some r → mj < vNum - 1 →
  Met l r.1 (Cond.code r.1 r.2.1 r.2.2.1 r.2.2.2.1 :: vT1) (vrm d mc ms) (vPc G lt As h) (vQc G lt Q) mc ms (fun q => lt.1 ≤ q)
theorem vblind {G : vG} {lt : Nat × Nat} {As : List Value} {h : vHp} : FrameBlind (vPc G lt As h) := fun a U g mk q => ⟨q.1, q.2.1, (vWd_same (s := U) (H := U.heap) rfl q.2.2 : vWd G lt (U.calling g mk a) U.heap)⟩
theorem vgoodIn {rj : vNr} (h : Cond.code rj.1 rj.2.1 rj.2.2.1 rj.2.2.2.1 ∈ vT1) : GoodIn vT1 (Cond.code rj.1 rj.2.1 rj.2.2.1 rj.2.2.2.1 :: vT1) := by
  intro w hw
  have h1 : w ∈ vT1 := by
    rcases List.mem_cons.mp hw with q | q
    · rw [q]; exact h
    · exact q
  exact ⟨h1, good_of_word (vT1_good h1)⟩
section SD3

variable {p : Program} {l : Launch} {e : Env} {Rm : Room} {s : State} {mid : MethodId} {args : Array Value} {below : List Frame} {meth : Method} {c : Code} {Qf : State → Prop} {G : vG} {lt : Nat × Nat} {r : vNr} {m d : Nat} {C : vCt} {R : vQ}

theorem v_callgo {H : Heap} {locs : List Loc} {cells slots mc ms pc : Nat} {ls : Array Slot} {st0 rest : List Value} {Q : vQ} {ar : Array Value}
    (hr : va_Run p l e Rm s mid args below meth c H locs cells slots mc ms (F0 mid pc ls st0) rest (vQc G lt Q ar) (fun q => lt.1 ≤ q)) (hS : va_S (fun q => lt.1 ≤ q) s.heap H locs)
    (kk : ∀ (v : Option Value) (h' : vHp) (H1 : Heap) (locs1 : List Loc), Q v h' → vHl G lt h' H1 → va_S (fun q => lt.1 ≤ q) s.heap H1 locs1 → W p l e Rm s mid args below meth c H1 locs1 (cells + mc) (slots + ms) Qf (F0 mid (pc + 3) ls (vpush v rest))) :
    W p l e Rm s mid args below meth c H locs cells slots Qf (F0 mid pc ls st0) := by
  intro T hT X
  obtain ⟨v, st₀, t, T', L, h0, X', hL, e1, e2, ⟨⟨v', h', hv, hq, hHl, hWd⟩, hz, hk⟩, st⟩ := hr T hT X
  cases hv
  rw [h0] at hz hk
  obtain ⟨t2, a1, b1⟩ := kk v h' T'.heap (locs ++ L) hq (by rw [e1]; exact hHl)
    ⟨Nat.le_trans hS.1 (by rw [e1]; exact hz), fun q h1 h2 => by rw [e1, hk q (Nat.lt_of_lt_of_le h1 hS.1) h2]; exact hS.2.1 q h1 h2, fun q hq => by
      rcases List.mem_append.mp hq with h | h
      · exact hS.2.2 q h
      · exact hL q h⟩ T' rfl X'
  refine ⟨t2, st t2 ?_, b1⟩
  cases v <;> exact a1
theorem sd_inv (X : vCx p Rm s mid args meth c r m d G lt) (hC : ∀ mc ms mj As h Q, C mc ms mj As h Q → vMet l G lt d mc ms mj As h Q) : vk_inv C m R (vSm p l e Rm s mid args below meth c Qf G lt) := by
  obtain ⟨hx, hb, hml, hown, hts, hw, hrt, hnm, hm, hr, hfr, hlo, hsz⟩ := X
  have hK := hw.1
  intro pc nx lv st h bc bs mj As stk b ci fs mc ms hc hkp hnp hop hwp k0 hlen ls H locs cells slots hv0 hH hS hbc hbs
  obtain ⟨ins, len, i, hd, hk, rfl⟩ := vlk_ok hm hr hc
  obtain ⟨hH1, hH2, hH3, hH4⟩ := id hH
  rw [vq_58] at hk
  obtain ⟨hj, rj, hrj, hci, hna⟩ := vrc_spec hnp
  obtain ⟨w1, w2, w3, w4, w5, w6, w7, w8, w9, w10⟩ := vnok_all hj hrj
  subst hkp
  have hM := hC _ _ _ _ _ _ k0 rj hrj hj
  have hwU : ∀ U : State, U.heap = H → s.WarmedH U.vm → vWd G lt U U.heap := fun U hU hW => by rw [hU]; exact vWd_moved hW hw (fun q h1 h2 => hS.2.1 q h1 h2)
  have hsize : ls.size = r.2.2.1 := hv0.1.trans (hlen.trans hml)
  rw [hna] at w6
  split at hk
  · rename_i x
    unfold vckm at hk
    rw [hrj] at hk
    simp only [Bool.and_eq_true, Bool.not_eq_true', decide_eq_true_eq] at hk
    obtain ⟨⟨⟨g1, rfl⟩, g3⟩, g4⟩ := hk
    obtain ⟨q0, hq0, hqc⟩ := w9 g3
    rw [hci] at hq0
    have hat : va_at (G.1, G.2.1) vwCl (b, .inr (ci, fs)) H := vAx_at (hH4 _ _ hop).1 (Or.inr fun _ _ q => by cases q)
    have hrec := va_recv (q0 := 0) hK (vP1 hat) hq0 rfl
    rw [hqc] at hrec
    have cw : CallW Rm s args r.1.cls rj.1.cls x rj.1 rj.2.1 rj.2.2.1 rj.2.2.2.1 (Cond.code rj.1 rj.2.1 rj.2.2.1 rj.2.2.2.1 :: vT1) (vrm d mc ms) mc ms As.length := ⟨⟨rfl, rfl, by show d + 1 ≤ _; exact hfr, by show 8 + (rj.2.2.1 + 11) + 60 * d ≤ _; omega, pay_in hts (vgoodIn w1), List.mem_cons_self, hts _ w1, hts _ w4, w5, w6, hts _ (vT1_of (vis_eq g1) rfl)⟩, hts _ (w3 g3), hts _ (vT1_of (vis_eq g4) rfl)⟩
    have run := va_runV (e := e) (below := below) (meth := meth) (rest := st) (b := b) (As := As) ⟨hx, hb, hml, hown, hts⟩ hM cw ⟨vblind, hrec, fun U hU hW => ⟨rfl, by rw [hU]; exact hH, hwU U hU hW⟩⟩ (g := F0 mid pc ls (As.reverse ++ .ref b :: st)) rfl rfl hsize rfl (lv_room hwp) hd (H := H) (locs := locs) (cells := cells) (slots := slots) ⟨by omega, by omega⟩
    exact v_callgo run hS (fun v h' H1 locs1 hq hHl hS1 => hq hlen ls H1 locs1 (cells + mc) (slots + ms) hv0 hHl hS1 (by omega) (by omega))
  · cases hk
theorem sd_ins (X : vCx p Rm s mid args meth c r m d G lt) (hC : ∀ mc ms mj As h Q, C mc ms mj As h Q → vMet l G lt d mc ms mj As h Q) : vk_ins C m R (vSm p l e Rm s mid args below meth c Qf G lt) := by
  obtain ⟨hx, hb, hml, hown, hts, hw, hrt, hnm, hm, hr, hfr, hlo, hsz⟩ := X
  have hK := hw.1
  intro pc nx lv st h bc bs mj As stk ci mc ms hc hkp hnp hwp k0 hlen ls H locs cells slots hv0 hH hS hbc hbs
  obtain ⟨ins, len, i, hd, hk, rfl⟩ := vlk_ok hm hr hc
  obtain ⟨hH1, hH2, hH3, hH4⟩ := id hH
  rw [vq_59] at hk
  obtain ⟨hj, rj, hrj, hci, hna⟩ := vrc_spec hnp
  obtain ⟨w1, w2, w3, w4, w5, w6, w7, w8, w9, w10⟩ := vnok_all hj hrj
  subst hkp
  have hM := hC _ _ _ _ _ _ k0 rj hrj hj
  have hwU : ∀ U : State, U.heap = H → s.WarmedH U.vm → vWd G lt U U.heap := fun U hU hW => by rw [hU]; exact vWd_moved hW hw (fun q h1 h2 => hS.2.1 q h1 h2)
  have hsize : ls.size = r.2.2.1 := hv0.1.trans (hlen.trans hml)
  rw [hna] at w6
  split at hk
  · rename_i x
    unfold vckm at hk
    rw [hrj] at hk
    simp only [Bool.and_eq_true, Bool.not_eq_true', decide_eq_true_eq] at hk
    obtain ⟨⟨g1, rfl⟩, g3⟩ := hk
    have cw : CallB Rm s args r.1.cls x rj.1 rj.2.1 rj.2.2.1 rj.2.2.2.1 (Cond.code rj.1 rj.2.1 rj.2.2.1 rj.2.2.2.1 :: vT1) (vrm d mc ms) mc ms As.length := ⟨rfl, rfl, by show d + 1 ≤ _; exact hfr, by show 8 + (rj.2.2.1 + 11) + 60 * d ≤ _; omega, pay_in hts (vgoodIn w1), List.mem_cons_self, hts _ w1, hts _ w4, w5, w6, hts _ (vT1_of (vis_eq g1) rfl)⟩
    have run := va_runS (e := e) (below := below) (meth := meth) (rest := st) (As := As) ⟨hx, hb, hml, hown, hts⟩ hM ⟨cw, hts _ (w2 g3)⟩ ⟨vblind, fun U hU hW => ⟨rfl, by rw [hU]; exact hH, hwU U hU hW⟩⟩ (g := F0 mid pc ls (As.reverse ++ st)) rfl rfl hsize rfl (lv_room hwp) hd (H := H) (locs := locs) (cells := cells) (slots := slots) ⟨by omega, by omega⟩
    exact v_callgo run hS (fun v h' H1 locs1 hq hHl hS1 => hq hlen ls H1 locs1 (cells + mc) (slots + ms) hv0 hHl hS1 (by omega) (by omega))
  · cases hk
theorem sd_insN (X : vCx p Rm s mid args meth c r m d G lt) (hC : ∀ mc ms mj As h Q, C mc ms mj As h Q → vMet l G lt d mc ms mj As h Q) : vk_insN C m R (vSm p l e Rm s mid args below meth c Qf G lt) := by
  obtain ⟨hx, hb, hml, hown, hts, hw, hrt, hnm, hm, hr, hfr, hlo, hsz⟩ := X
  have hK := hw.1
  intro pc nx lv st h bc bs mj As stk ci mc ms hc hkp hnp hwp k0 hlen ls H locs cells slots hv0 hH hS hbc hbs
  obtain ⟨ins, len, i, hd, hk, rfl⟩ := vlk_ok hm hr hc
  obtain ⟨hH1, hH2, hH3, hH4⟩ := id hH
  rw [vq_82] at hk
  obtain ⟨hj, rj, hrj, hci, hna⟩ := vrc_spec hnp
  obtain ⟨w1, w2, w3, w4, w5, w6, w7, w8, w9, w10⟩ := vnok_all hj hrj
  subst hkp
  have hM := hC _ _ _ _ _ _ k0 rj hrj hj
  have hwU : ∀ U : State, U.heap = H → s.WarmedH U.vm → vWd G lt U U.heap := fun U hU hW => by rw [hU]; exact vWd_moved hW hw (fun q h1 h2 => hS.2.1 q h1 h2)
  have hsize : ls.size = r.2.2.1 := hv0.1.trans (hlen.trans hml)
  rw [hna] at w6
  split at hk
  · rename_i x
    unfold vckm at hk
    rw [hrj] at hk
    simp only [Bool.and_eq_true, Bool.not_eq_true', decide_eq_true_eq] at hk
    obtain ⟨⟨g1, rfl⟩, g3⟩ := hk
    have cw : va_CN Rm s args r.1.cls x rj.1 "RecurringDays" rj.2.1 rj.2.2.1 rj.2.2.2.1 (Cond.code rj.1 rj.2.1 rj.2.2.1 rj.2.2.2.1 :: vT1) (vrm d mc ms) mc ms As.length := ⟨⟨rfl, rfl, by show d + 1 ≤ _; exact hfr, by show 8 + (rj.2.2.1 + 11) + 60 * d ≤ _; omega, pay_in hts (vgoodIn w1), List.mem_cons_self⟩, hts _ w1, hts _ w4, w5, w6, va_Nw.use rfl (hw.2.2.1 _ (vT2_of (vis_eq g1) rfl))⟩
    have run := va_runSN (e := e) (below := below) (meth := meth) (rest := st) (As := As) ⟨hx, hb, hml, hown, hts⟩ hM ⟨cw, hts _ (w2 g3), trivial⟩ ⟨vblind, fun U hU hW => ⟨rfl, by rw [hU]; exact hH, hwU U hU hW⟩⟩ (g := F0 mid pc ls (As.reverse ++ st)) rfl rfl hsize rfl (lv_room hwp) hd (H := H) (locs := locs) (cells := cells) (slots := slots) ⟨by omega, by omega⟩
    exact v_callgo run hS (fun v h' H1 locs1 hq hHl hS1 => hq hlen ls H1 locs1 (cells + mc) (slots + ms) hv0 hHl hS1 (by omega) (by omega))
  · cases hk
theorem sd_inp (X : vCx p Rm s mid args meth c r m d G lt) (hC : ∀ mc ms mj As h Q, C mc ms mj As h Q → vMet l G lt d mc ms mj As h Q) : vk_inp C m R (vSm p l e Rm s mid args below meth c Qf G lt) := by
  obtain ⟨hx, hb, hml, hown, hts, hw, hrt, hnm, hm, hr, hfr, hlo, hsz⟩ := X
  have hK := hw.1
  intro pc nx lv st h bc bs mj As stk b ci mc ms hc hkp hnp hwp k0 hlen ls H locs cells slots hv0 hH hS hbc hbs
  obtain ⟨ins, len, i, hd, hk, rfl⟩ := vlk_ok hm hr hc
  obtain ⟨hH1, hH2, hH3, hH4⟩ := id hH
  rw [vq_60] at hk
  obtain ⟨hj, rj, hrj, hci, hna⟩ := vrc_spec hnp
  obtain ⟨w1, w2, w3, w4, w5, w6, w7, w8, w9, w10⟩ := vnok_all hj hrj
  subst hkp
  have hM := hC _ _ _ _ _ _ k0 rj hrj hj
  have hwU : ∀ U : State, U.heap = H → s.WarmedH U.vm → vWd G lt U U.heap := fun U hU hW => by rw [hU]; exact vWd_moved hW hw (fun q h1 h2 => hS.2.1 q h1 h2)
  have hsize : ls.size = r.2.2.1 := hv0.1.trans (hlen.trans hml)
  rw [hna] at w6
  split at hk
  · rename_i x
    unfold vckm at hk
    rw [hrj] at hk
    simp only [Bool.and_eq_true, Bool.not_eq_true', decide_eq_true_eq] at hk
    obtain ⟨⟨⟨g1, rfl⟩, g3⟩, g4⟩ := hk
    have hret := w10 g4
    rw [hret] at w1
    rw [hret] at hM
    have hGI : GoodIn vT1 (Cond.code rj.1 rj.2.1 rj.2.2.1 none :: vT1) := by
      have := vgoodIn (rj := rj) (by rw [hret]; exact w1)
      rw [hret] at this; exact this
    have cw : CallB Rm s args r.1.cls x rj.1 rj.2.1 rj.2.2.1 none (Cond.code rj.1 rj.2.1 rj.2.2.1 none :: vT1) (vrm d mc ms) mc ms As.length := ⟨rfl, rfl, by show d + 1 ≤ _; exact hfr, by show 8 + (rj.2.2.1 + 11) + 60 * d ≤ _; omega, pay_in hts (hGI), List.mem_cons_self, hts _ w1, hts _ w4, w5, w6, hts _ (vT1_of (vis_eq g1) rfl)⟩
    have run := va_runI (e := e) (below := below) (meth := meth) (rest := st) (b := b) (As := As) ⟨hx, hb, hml, hown, hts⟩ hM ⟨cw, g4, hts _ (w3 g3)⟩ ⟨vblind, fun U hU hW => ⟨rfl, by rw [hU]; exact hH, hwU U hU hW⟩⟩ (g := F0 mid pc ls (As.reverse ++ .ref b :: st)) rfl rfl hsize rfl (lv_room hwp) hd (H := H) (locs := locs) (cells := cells) (slots := slots) ⟨by omega, by omega⟩
    exact v_callgo run hS (fun v h' H1 locs1 hq hHl hS1 => hq hlen ls H1 locs1 (cells + mc) (slots + ms) hv0 hHl hS1 (by omega) (by omega))
  · cases hk
theorem sd_inpN (X : vCx p Rm s mid args meth c r m d G lt) (hC : ∀ mc ms mj As h Q, C mc ms mj As h Q → vMet l G lt d mc ms mj As h Q) : vk_inpN C m R (vSm p l e Rm s mid args below meth c Qf G lt) := by
  obtain ⟨hx, hb, hml, hown, hts, hw, hrt, hnm, hm, hr, hfr, hlo, hsz⟩ := X
  have hK := hw.1
  intro pc nx lv st h bc bs mj As stk b ci mc ms hc hkp hnp hwp k0 hlen ls H locs cells slots hv0 hH hS hbc hbs
  obtain ⟨ins, len, i, hd, hk, rfl⟩ := vlk_ok hm hr hc
  obtain ⟨hH1, hH2, hH3, hH4⟩ := id hH
  rw [vq_83] at hk
  obtain ⟨hj, rj, hrj, hci, hna⟩ := vrc_spec hnp
  obtain ⟨w1, w2, w3, w4, w5, w6, w7, w8, w9, w10⟩ := vnok_all hj hrj
  subst hkp
  have hM := hC _ _ _ _ _ _ k0 rj hrj hj
  have hwU : ∀ U : State, U.heap = H → s.WarmedH U.vm → vWd G lt U U.heap := fun U hU hW => by rw [hU]; exact vWd_moved hW hw (fun q h1 h2 => hS.2.1 q h1 h2)
  have hsize : ls.size = r.2.2.1 := hv0.1.trans (hlen.trans hml)
  rw [hna] at w6
  split at hk
  · rename_i x
    unfold vckm at hk
    rw [hrj] at hk
    simp only [Bool.and_eq_true, Bool.not_eq_true', decide_eq_true_eq] at hk
    obtain ⟨⟨⟨g1, rfl⟩, g3⟩, g4⟩ := hk
    have hret := w10 g4
    rw [hret] at w1
    rw [hret] at hM
    have hGI : GoodIn vT1 (Cond.code rj.1 rj.2.1 rj.2.2.1 none :: vT1) := by
      have := vgoodIn (rj := rj) (by rw [hret]; exact w1)
      rw [hret] at this; exact this
    have cw : va_CN Rm s args r.1.cls x rj.1 "RecurringDays" rj.2.1 rj.2.2.1 none (Cond.code rj.1 rj.2.1 rj.2.2.1 none :: vT1) (vrm d mc ms) mc ms As.length := ⟨⟨rfl, rfl, by show d + 1 ≤ _; exact hfr, by show 8 + (rj.2.2.1 + 11) + 60 * d ≤ _; omega, pay_in hts (hGI), List.mem_cons_self⟩, hts _ w1, hts _ w4, w5, w6, va_Nw.use rfl (hw.2.2.1 _ (vT2_of (vis_eq g1) rfl))⟩
    have run := va_runIN (e := e) (below := below) (meth := meth) (rest := st) (b := b) (As := As) ⟨hx, hb, hml, hown, hts⟩ hM ⟨cw, g4, hts _ (w3 g3)⟩ ⟨vblind, fun U hU hW => ⟨rfl, by rw [hU]; exact hH, hwU U hU hW⟩⟩ (g := F0 mid pc ls (As.reverse ++ .ref b :: st)) rfl rfl hsize rfl (lv_room hwp) hd (H := H) (locs := locs) (cells := cells) (slots := slots) ⟨by omega, by omega⟩
    exact v_callgo run hS (fun v h' H1 locs1 hq hHl hS1 => hq hlen ls H1 locs1 (cells + mc) (slots + ms) hv0 hHl hS1 (by omega) (by omega))
  · cases hk
theorem vobj_w : Cond.code objectInit ⟨#[0xb1]⟩ 1 none ∈ vT1 ∧ Cond.instanceMethod objectInit ∈ vT1 := ⟨vT1_of (List.mem_of_getElem? (i := 67) rfl) rfl, vT1_of (List.mem_of_getElem? (i := 66) (by decide +kernel)) rfl⟩
theorem sd_obj (X : vCx p Rm s mid args meth c r m d G lt) : vk_obj C m R (vSm p l e Rm s mid args below meth c Qf G lt) := by
  obtain ⟨hx, hb, hml, hown, hts, hw, hrt, hnm, hm, hr, hfr, hlo, hsz⟩ := X
  have hK := hw.1
  intro pc nx lv st h bc bs a hc hwp k0 hlen ls H locs cells slots hv0 hH hS hbc hbs
  obtain ⟨ins, len, i, hd, hk, rfl⟩ := vlk_ok hm hr hc
  obtain ⟨hH1, hH2, hH3, hH4⟩ := id hH
  rw [vq_61] at hk
  split at hk
  · obtain ⟨g1, g2⟩ := Bool.and_eq_true_iff.mp hk
    have g2 := of_decide_eq_true g2
    subst g2
    exact W.objInit hx hb hown (hts _ (vT1_of (vis_eq g1) rfl)) (hts _ vobj_w.2) (hts _ vobj_w.1) (g := F0 mid pc ls (.ref a :: st)) rfl (by show ls.size = _; rw [hml]; exact hv0.1.trans (hlen.trans hml)) rfl hd (by omega) (by show 2 * 0 + _ + 12 ≤ _; omega) (k0 hlen ls H locs cells slots hv0 hH hS hbc hbs)
  · cases hk
theorem vmmax_w : Cond.static Lib.Math.max.name ∈ vT1 ∧ Cond.initialized "java/lang/Math" ∈ vT1 ∧ Cond.code Lib.Math.max.name Lib.Math.max.code 2 (some .int) ∈ vT1 := ⟨vT1_of (List.mem_of_getElem? (i := 478) (by decide +kernel)) rfl, vT1_of (List.mem_of_getElem? (i := 56) (by decide +kernel)) rfl, vT1_of (List.mem_of_getElem? (i := 479) (by decide +kernel)) rfl⟩
theorem sd_mmax (X : vCx p Rm s mid args meth c r m d G lt) : vk_mmax C m R (vSm p l e Rm s mid args below meth c Qf G lt) := by
  obtain ⟨hx, hb, hml, hown, hts, hw, hrt, hnm, hm, hr, hfr, hlo, hsz⟩ := X
  have hK := hw.1
  intro pc nx lv st h bc bs x y hc h1p h2p h3p h4p hwp k0 hlen ls H locs cells slots hv0 hH hS hbc hbs
  obtain ⟨ins, len, i, hd, hk, rfl⟩ := vlk_ok hm hr hc
  obtain ⟨hH1, hH2, hH3, hH4⟩ := id hH
  rw [vq_84] at hk
  split at hk
  · obtain ⟨g1, g2⟩ := Bool.and_eq_true_iff.mp hk
    have g2 := of_decide_eq_true g2
    subst g2
    refine va_mmax hx hb (by rw [hml]; exact (hv0.1.trans (hlen.trans hml)).symm) hown (hts _ (vT1_of (vis_eq g1) rfl)) (hts _ vmmax_w.1) (hts _ vmmax_w.2.1) (hts _ vmmax_w.2.2) (by omega) (by omega) (by omega) (by omega) hd ?_
    have e1 : (if iI x < iI y then iI y else iI x) = iI (if x < y then y else x) := by
      by_cases q : x < y
      · rw [if_pos q, if_pos ((iI_lt h1p h2p h3p h4p).mpr q)]
      · rw [if_neg q, if_neg (fun z => q ((iI_lt h1p h2p h3p h4p).mp z))]
    rw [e1]
    exact k0 hlen ls H locs cells slots hv0 hH hS hbc hbs
  · cases hk
theorem vmmin_w : Cond.static Lib.Math.min.name ∈ vT1 ∧ Cond.initialized "java/lang/Math" ∈ vT1 ∧ Cond.code Lib.Math.min.name Lib.Math.min.code 2 (some .int) ∈ vT1 := ⟨vT1_of (List.mem_of_getElem? (i := 334) (by decide +kernel)) rfl, vT1_of (List.mem_of_getElem? (i := 56) (by decide +kernel)) rfl, vT1_of (List.mem_of_getElem? (i := 335) (by decide +kernel)) rfl⟩
theorem sd_mmin (X : vCx p Rm s mid args meth c r m d G lt) : vk_mmin C m R (vSm p l e Rm s mid args below meth c Qf G lt) := by
  obtain ⟨hx, hb, hml, hown, hts, hw, hrt, hnm, hm, hr, hfr, hlo, hsz⟩ := X
  have hK := hw.1
  intro pc nx lv st h bc bs x y hc h1p h2p h3p h4p hwp k0 hlen ls H locs cells slots hv0 hH hS hbc hbs
  obtain ⟨ins, len, i, hd, hk, rfl⟩ := vlk_ok hm hr hc
  obtain ⟨hH1, hH2, hH3, hH4⟩ := id hH
  rw [vq_85] at hk
  split at hk
  · obtain ⟨g1, g2⟩ := Bool.and_eq_true_iff.mp hk
    have g2 := of_decide_eq_true g2
    subst g2
    refine va_mmin hx hb (by rw [hml]; exact (hv0.1.trans (hlen.trans hml)).symm) hown (hts _ (vT1_of (vis_eq g1) rfl)) (hts _ vmmin_w.1) (hts _ vmmin_w.2.1) (hts _ vmmin_w.2.2) (by omega) (by omega) (by omega) (by omega) hd ?_
    have e1 : (if iI y < iI x then iI y else iI x) = iI (if y < x then y else x) := by
      by_cases q : y < x
      · rw [if_pos q, if_pos ((iI_lt h3p h4p h1p h2p).mpr q)]
      · rw [if_neg q, if_neg (fun z => q ((iI_lt h3p h4p h1p h2p).mp z))]
    rw [e1]
    exact k0 hlen ls H locs cells slots hv0 hH hS hbc hbs
  · cases hk
theorem vac_w : Cond.native arraycopyName ∈ vT1 ∧ Cond.static arraycopyName ∈ vT1 ∧ Cond.initialized "java/lang/System" ∈ vT1 := ⟨vT1_of (List.mem_of_getElem? (i := 594) (by decide +kernel)) rfl, vT1_of (List.mem_of_getElem? (i := 593) (by decide +kernel)) rfl, vT1_of (List.mem_of_getElem? (i := 59) (by decide +kernel)) rfl⟩
theorem vcpy_eq (f g : Nat → Int) (sp dp n : Nat) : va_cpy (fun i => iI (f i)) (fun i => iI (g i)) sp dp n = fun i => iI (vcpy f g sp dp n i) := by
  funext k
  unfold va_cpy vcpy
  by_cases q : dp ≤ k ∧ k < dp + n
  · rw [if_pos q, if_pos q]
  · rw [if_neg q, if_neg q]
theorem sd_acpy (X : vCx p Rm s mid args meth c r m d G lt) : vk_acpy C m R (vSm p l e Rm s mid args below meth c Qf G lt) := by
  obtain ⟨hx, hb, hml, hown, hts, hw, hrt, hnm, hm, hr, hfr, hlo, hsz⟩ := X
  have hK := hw.1
  intro pc nx lv st h bc bs x y w a b n n2 f g hc hop ho2p hlop hlap h1p h2p h3p h4p h5p hwp k0 hlen ls H locs cells slots hv0 hH hS hbc hbs
  obtain ⟨ins, len, i, hd, hk, rfl⟩ := vlk_ok hm hr hc
  obtain ⟨hH1, hH2, hH3, hH4⟩ := id hH
  rw [vq_62] at hk
  split at hk
  · rename_i ix
    obtain ⟨g1, g2⟩ := Bool.and_eq_true_iff.mp hk
    have g2 := of_decide_eq_true g2
    subst g2
    have hc0 : H[a]? = some (vp_cell (G.2.2 0) (n, .inl fun i => iI (f i))) := vAx_at (hH4 _ _ hop).1 (Or.inl (by rw [hH1] at hlap; exact hlap))
    have hc1 : H[b]? = some (vp_cell (G.2.2 0) (n2, .inl fun i => iI (g i))) := vAx_at (hH4 _ _ ho2p).1 (Or.inl (by rw [hH1] at hlop; exact hlop))
    have hn := (hH4 _ _ hop).2 _ _ _ rfl
    have hn2 := (hH4 _ _ ho2p).2 _ _ _ rfl
    have ex : (iI x).toNatClampNeg = x.toNat := iI_nat (by omega) (by omega)
    have ey : (iI y).toNatClampNeg = y.toNat := iI_nat (by omega) (by omega)
    have ew : (iI w).toNatClampNeg = w.toNat := iI_nat (by omega) (by omega)
    have tx : (iI x).toInt = x := iI_toInt (by omega) (by omega)
    have ty : (iI y).toInt = y := iI_toInt (by omega) (by omega)
    have tw : (iI w).toInt = w := iI_toInt (by omega) (by omega)
    obtain ⟨-, k0', hk0, cm0, hkk0⟩ := (hK.2 0 _ rfl).1 n (fun j => .int (iI (f j)))
    obtain ⟨-, k1', hk1, cm1, hkk1⟩ := (hK.2 0 _ rfl).1 n2 (fun j => .int (iI (g j)))
    have hsize : ls.size = c.maxLocals := hv0.1.trans hlen
    intro T hT X
    obtain ⟨vm', X', step⟩ := X.arraycopy hx hown (hts _ (vT1_of (vis_eq g1) rfl)) (hts _ vac_w.1) (hts _ vac_w.2.1) (hts _ vac_w.2.2) (src := a) (dst := b) (cs := vp_cell (G.2.2 0) (n, .inl fun i => iI (f i))) (cd := vp_cell (G.2.2 0) (n2, .inl fun i => iI (g i))) (srcPos := iI x) (destPos := iI y) (n := iI w) (by rw [hT]; exact hc0) (by rw [hT]; exact hc1)
      (fun _ h => by cases h) (fun _ h => by cases h) (fun h => by cases h) (fun h => by cases h) hk0 hk1 hkk0 hkk1 (by simp [refKind]) (fun z => by rw [iI_lt0 (by omega) (by omega)] at z; omega) (fun z => by rw [iI_lt0 (by omega) (by omega)] at z; omega) (fun z => by rw [iI_lt0 (by omega) (by omega)] at z; omega)
      (by rw [tx, tw]; show ¬ _ > ((arrV _ n _).slots.size : Int); rw [arrV_size]; omega)
      (by rw [ty, tw]; show ¬ _ > ((arrV _ n2 _).slots.size : Int); rw [arrV_size]; omega)
      (fun vm₁ _ j hj => by
        rw [ew] at hj
        have e : (vp_cell (G.2.2 0) (n, .inl fun i => iI (f i))).slots.getD ((iI x).toNatClampNeg + j) .null = .int (iI (f ((iI x).toNatClampNeg + j))) := by
          show (arrV (G.2.2 0) n (fun j => .int (iI (f j)))).slots.getD _ _ = _
          rw [Array.getD_eq_getD_getElem?, arrV_read _ _ (by rw [ex]; omega)]
          rfl
        refine ⟨?_, ?_⟩
        · rw [e]; rfl
        · rw [e]
          exact trivial)
      (g := F0 mid pc ls (.int (iI w) :: .int (iI y) :: .ref b :: .int (iI x) :: .ref a :: st)) rfl hsize (rest := st) rfl (by rw [hb]; exact hd) (by omega) (by have e9 : nativeFrameWords "java/lang/System" "arraycopy" 5 = 7 := (by decide); show 2 * 0 + (st.map fun v => v.category).sum + (nativeFrameWords "java/lang/System" "arraycopy" 5 + 11) ≤ Rm.locals; rw [e9]; omega)
    have e1 : copied (vp_cell (G.2.2 0) (n, .inl fun i => iI (f i))) (vp_cell (G.2.2 0) (n2, .inl fun i => iI (g i))) (iI x) (iI y) (iI w) = vp_cell (G.2.2 0) (n2, .inl (va_cpy (fun i => iI (f i)) (fun i => iI (g i)) x.toNat y.toNat w.toNat)) := by
      have := va_copied (fun z => .int z) (G.2.2 0) (G.2.2 0) (n1 := n2) (dp := (iI y).toNatClampNeg) (fun i => iI (f i)) (fun i => iI (g i)) (show (iI x).toNatClampNeg + (iI w).toNatClampNeg ≤ n by rw [ex, ew]; omega)
      rw [ex, ey, ew] at this
      rw [← ex, ← ey, ← ew] at this ⊢
      exact this
    rw [vcpy_eq] at e1
    rw [e1] at X' step
    have hl : b < H.size := (Array.getElem?_eq_some_iff.mp hc1).1
    have hheap : ((T.setVm vm').setCell b (vp_cell (G.2.2 0) (n2, .inl fun i => iI (vcpy f g x.toNat y.toNat w.toNat i)))).heap = H.setIfInBounds b (vp_cell (G.2.2 0) (n2, .inl fun i => iI (vcpy f g x.toNat y.toNat w.toNat i))) := by rw [← hT]; rfl
    generalize hH1e : H.setIfInBounds b (vp_cell (G.2.2 0) (n2, .inl fun i => iI (vcpy f g x.toNat y.toNat w.toNat i))) = H1 at hheap
    have oq : ∀ q : Nat, q ≠ b → H1[q]? = H[q]? := fun q hq => by rw [← hH1e]; simp [Array.getElem?_setIfInBounds, Ne.symm hq]
    have z1 : H1.size = H.size := by rw [← hH1e]; simp
    have hnew : va_at (G.1, G.2.1) vwCl (b, .inl (G.2.2 0, n2, .inl fun i => iI (vcpy f g x.toNat y.toNat w.toNat i))) H1 := by
      show H1[b]? = some _
      rw [← hH1e]; simp [Array.getElem?_setIfInBounds, hl]
    have hlob : lt.1 ≤ b := by rw [hH1] at hlop; exact hlop
    obtain ⟨t, a1, b1⟩ := k0 (vwr h b (.inl (0, n2, .inl (vcpy f g x.toNat y.toNat w.toNat)))) (vwr_St _ _ _) hlen ls H1 _ cells slots hv0 (vHl_put hH (by rw [hH1] at hlop; exact hlop) z1 oq hnew (fun _ _ _ q => by cases q; exact hn2))
      ⟨by rw [z1]; exact hS.1, fun q h1 h2 => by rw [oq q (fun z => h2 (by rw [z]; exact hlob))]; exact hS.2.1 q h1 h2, fun q hq => by
        rcases List.mem_append.mp hq with h | h
        · exact hS.2.2 q h
        · obtain ⟨z, -, hz⟩ := List.mem_map.mp h
          rw [← hz]
          exact hlob⟩ hbc hbs _ hheap X'
    exact ⟨t, step t a1, b1⟩
  · cases hk
/-- a return of any kind comes to the end that is asked for -/
def vRt (p : Program) (l : Launch) (e : Env) (Rm : Room) (s : State) (mid : MethodId) (args : Array Value) (below : List Frame) (meth : Method) (c : Code) (Qf : State → Prop) (G : vG) (lt : Nat × Nat) (R : vQ) : Prop :=
  ∀ (v : Option Value) (h : vHp) (H : Heap) (locs : List Loc) (ls : Array Slot) (pc : Nat) (ins : Instr), R v h → vHl G lt h H → va_S (fun q => lt.1 ≤ q) s.heap H locs → decode c.code pc = .ok (ins, 1) →
    ((ins = .ireturn ∧ ∃ x ty, v = some (.int x) ∧ meth.sig.returnType = some ty ∧ narrow ty (.int x) = .int x) ∨ (ins = .lreturn ∧ ∃ x, v = some (.long x) ∧ meth.sig.returnType = some .long) ∨
     (ins = .areturn ∧ ∃ w C, v = some w ∧ (w = .null ∨ ∃ a, w = .ref a) ∧ meth.sig.returnType = some (.object C)) ∨ (ins = .return_ ∧ v = none ∧ meth.sig.returnType = none)) →
    W p l e Rm s mid args below meth c H locs Rm.cells Rm.slots Qf (F0 mid pc ls (vpush v []))
theorem sd_iret (X : vCx p Rm s mid args meth c r m d G lt) (hRt : vRt p l e Rm s mid args below meth c Qf G lt R) : vk_iret C m R (vSm p l e Rm s mid args below meth c Qf G lt) := by
  obtain ⟨hx, hb, hml, hown, hts, hw, hrt, hnm, hm, hr, hfr, hlo, hsz⟩ := X
  have hK := hw.1
  intro pc nx lv st h bc bs X hc hRp  hlen ls H locs cells slots hv0 hH hS hbc hbs
  obtain ⟨ins, len, i, hd, hk, rfl⟩ := vlk_ok hm hr hc
  obtain ⟨hH1, hH2, hH3, hH4⟩ := id hH
  rw [vq_63] at hk
  obtain ⟨rfl, rfl, g⟩ := of_decide_eq_true hk
  rw [if_pos rfl] at g
  refine W.widen (k := Rm.cells) (n := Rm.slots) (by omega) (by omega) ?_
  exact hRt (some (.int X)) h H locs ls pc _ hRp hH hS (by rw [hb]; exact hd) (Or.inl ⟨rfl, X, .int, rfl, hrt.trans g, rfl⟩)
theorem sd_zret (X : vCx p Rm s mid args meth c r m d G lt) (hRt : vRt p l e Rm s mid args below meth c Qf G lt R) : vk_zret C m R (vSm p l e Rm s mid args below meth c Qf G lt) := by
  obtain ⟨hx, hb, hml, hown, hts, hw, hrt, hnm, hm, hr, hfr, hlo, hsz⟩ := X
  have hK := hw.1
  intro pc nx lv st h bc bs x hc hxp hRp  hlen ls H locs cells slots hv0 hH hS hbc hbs
  obtain ⟨ins, len, i, hd, hk, rfl⟩ := vlk_ok hm hr hc
  obtain ⟨hH1, hH2, hH3, hH4⟩ := id hH
  rw [vq_63] at hk
  obtain ⟨rfl, rfl, g⟩ := of_decide_eq_true hk
  rw [if_neg (by decide)] at g
  refine W.widen (k := Rm.cells) (n := Rm.slots) (by omega) (by omega) ?_
  exact hRt (some (.int (iI x))) h H locs ls pc _ hRp hH hS (by rw [hb]; exact hd) (Or.inl ⟨rfl, iI x, .boolean, rfl, hrt.trans g, by rcases hxp with rfl | rfl <;> rfl⟩)
theorem sd_lret (X : vCx p Rm s mid args meth c r m d G lt) (hRt : vRt p l e Rm s mid args below meth c Qf G lt R) : vk_lret C m R (vSm p l e Rm s mid args below meth c Qf G lt) := by
  obtain ⟨hx, hb, hml, hown, hts, hw, hrt, hnm, hm, hr, hfr, hlo, hsz⟩ := X
  have hK := hw.1
  intro pc nx lv st h bc bs L hc hRp  hlen ls H locs cells slots hv0 hH hS hbc hbs
  obtain ⟨ins, len, i, hd, hk, rfl⟩ := vlk_ok hm hr hc
  obtain ⟨hH1, hH2, hH3, hH4⟩ := id hH
  rw [vq_64] at hk
  obtain ⟨rfl, rfl, g⟩ := of_decide_eq_true hk
  refine W.widen (k := Rm.cells) (n := Rm.slots) (by omega) (by omega) ?_
  exact hRt (some (.long L)) h H locs ls pc _ hRp hH hS (by rw [hb]; exact hd) (Or.inr (Or.inl ⟨rfl, L, rfl, hrt.trans g⟩))
theorem sd_aret (X : vCx p Rm s mid args meth c r m d G lt) (hRt : vRt p l e Rm s mid args below meth c Qf G lt R) : vk_aret C m R (vSm p l e Rm s mid args below meth c Qf G lt) := by
  obtain ⟨hx, hb, hml, hown, hts, hw, hrt, hnm, hm, hr, hfr, hlo, hsz⟩ := X
  have hK := hw.1
  intro pc nx lv st h bc bs rr hc hRp  hlen ls H locs cells slots hv0 hH hS hbc hbs
  obtain ⟨ins, len, i, hd, hk, rfl⟩ := vlk_ok hm hr hc
  obtain ⟨hH1, hH2, hH3, hH4⟩ := id hH
  rw [vq_65] at hk
  obtain ⟨g1, g2⟩ := Bool.and_eq_true_iff.mp hk
  obtain ⟨rfl, rfl⟩ := of_decide_eq_true g1
  obtain ⟨Cr, hCr⟩ : ∃ Cr, r.2.2.2.1 = some (.object Cr) := by
    revert g2
    cases hq : r.2.2.2.1 with
    | none => intro g2; cases g2
    | some t => cases t <;> intro g2 <;> first | (cases g2; done) | exact ⟨_, rfl⟩
  refine W.widen (k := Rm.cells) (n := Rm.slots) (by omega) (by omega) ?_
  exact hRt (some (.ref rr)) h H locs ls pc _ hRp hH hS (by rw [hb]; exact hd) (Or.inr (Or.inr (Or.inl ⟨rfl, .ref rr, Cr, rfl, Or.inr ⟨_, rfl⟩, hrt.trans hCr⟩)))
theorem sd_aretN (X : vCx p Rm s mid args meth c r m d G lt) (hRt : vRt p l e Rm s mid args below meth c Qf G lt R) : vk_aretN C m R (vSm p l e Rm s mid args below meth c Qf G lt) := by
  obtain ⟨hx, hb, hml, hown, hts, hw, hrt, hnm, hm, hr, hfr, hlo, hsz⟩ := X
  have hK := hw.1
  intro pc nx lv st h bc bs  hc hRp  hlen ls H locs cells slots hv0 hH hS hbc hbs
  obtain ⟨ins, len, i, hd, hk, rfl⟩ := vlk_ok hm hr hc
  obtain ⟨hH1, hH2, hH3, hH4⟩ := id hH
  rw [vq_65] at hk
  obtain ⟨g1, g2⟩ := Bool.and_eq_true_iff.mp hk
  obtain ⟨rfl, rfl⟩ := of_decide_eq_true g1
  obtain ⟨Cr, hCr⟩ : ∃ Cr, r.2.2.2.1 = some (.object Cr) := by
    revert g2
    cases hq : r.2.2.2.1 with
    | none => intro g2; cases g2
    | some t => cases t <;> intro g2 <;> first | (cases g2; done) | exact ⟨_, rfl⟩
  refine W.widen (k := Rm.cells) (n := Rm.slots) (by omega) (by omega) ?_
  exact hRt (some (.null)) h H locs ls pc _ hRp hH hS (by rw [hb]; exact hd) (Or.inr (Or.inr (Or.inl ⟨rfl, .null, Cr, rfl, Or.inl rfl, hrt.trans hCr⟩)))
theorem sd_vret (X : vCx p Rm s mid args meth c r m d G lt) (hRt : vRt p l e Rm s mid args below meth c Qf G lt R) : vk_vret C m R (vSm p l e Rm s mid args below meth c Qf G lt) := by
  obtain ⟨hx, hb, hml, hown, hts, hw, hrt, hnm, hm, hr, hfr, hlo, hsz⟩ := X
  have hK := hw.1
  intro pc nx lv st h bc bs  hc hRp  hlen ls H locs cells slots hv0 hH hS hbc hbs
  obtain ⟨ins, len, i, hd, hk, rfl⟩ := vlk_ok hm hr hc
  obtain ⟨hH1, hH2, hH3, hH4⟩ := id hH
  rw [vq_66] at hk
  obtain ⟨rfl, rfl, g⟩ := of_decide_eq_true hk
  refine W.widen (k := Rm.cells) (n := Rm.slots) (by omega) (by omega) ?_
  exact hRt none h H locs ls pc _ hRp hH hS (by rw [hb]; exact hd) (Or.inr (Or.inr (Or.inr ⟨rfl, rfl, hrt.trans g⟩)))
end SD3
