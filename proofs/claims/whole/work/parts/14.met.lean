section SD5
variable {p : Program} {l : Launch} {e : Env} {Rm : Room} {s : State} {mid : MethodId} {args : Array Value} {below : List Frame} {meth : Method} {c : Code} {Qf : State → Prop} {G : vG} {lt : Nat × Nat} {r : vNr} {m d : Nat} {C : vCt} {R : vQ}
theorem v_rules (X : vCx p Rm s mid args meth c r m d G lt) (hC : ∀ mc ms mj As h Q, C mc ms mj As h Q → vMet l G lt d mc ms mj As h Q) (hRt : vRt p l e Rm s mid args below meth c Qf G lt R) : vCl C m R (vSm p l e Rm s mid args below meth c Qf G lt) :=
  ⟨⟨(sd_ci X), (sd_cl X), (sd_null X), (sd_iload X), (sd_lload X), (sd_aload X), (sd_aloadN X), (sd_istore X)⟩,
   ⟨(sd_lstore X), (sd_astore X), (sd_astoreN X), (sd_iinc X), (sd_iadd X), (sd_isub X), (sd_imul X), (sd_iand X)⟩,
   ⟨(sd_ior X), (sd_ishl X), (sd_ishr X), (sd_iushr X), (sd_idiv X), (sd_irem X), (sd_ineg X), (sd_ladd X)⟩,
   ⟨(sd_lsub X), (sd_lmul X), (sd_land X), (sd_lor X), (sd_lxor X), (sd_lshl X), (sd_lshr X), (sd_lushr X)⟩,
   ⟨(sd_lcmp X), (sd_i2l X), (sd_l2i X), (sd_dup X), (sd_dup2 X), (sd_pop X), (sd_goto X), (sd_ifeq X)⟩,
   ⟨(sd_ifne X), (sd_iflt X), (sd_ifge X), (sd_ifgt X), (sd_ifle X), (sd_iceq X), (sd_icne X), (sd_iclt X)⟩,
   ⟨(sd_icge X), (sd_icgt X), (sd_icle X), (sd_ifnullR X), (sd_ifnullN X), (sd_ifnonR X), (sd_ifnonN X), (sd_sw X)⟩,
   ⟨(sd_get X), (sd_put X), (sd_putF X), (sd_gets X), (sd_iald X), (sd_lald X), (sd_bald X), (sd_aald X)⟩,
   ⟨(sd_iast X), (sd_last X), (sd_bast X), (sd_aast X), (sd_aastA X), (sd_alen X), (sd_new X), (sd_newa X)⟩,
   ⟨(sd_anew X), (sd_mnew X), (sd_inv X hC), (sd_ins X hC), (sd_insN X hC), (sd_inp X hC), (sd_inpN X hC), (sd_obj X)⟩,
   ⟨(sd_acpy X), (sd_mmax X), (sd_mmin X), (sd_iret X hRt), (sd_zret X hRt), (sd_lret X hRt), (sd_aret X hRt), (sd_aretN X hRt)⟩,
   (sd_vret X hRt)⟩
end SD5
theorem v_met (l : Launch) (G : vG) (lt : Nat × Nat) : ∀ (d mc ms mj : Nat) (As : List Value) (h : vHp) (Q : vQ), vCall d mc ms mj As h Q → vMet l G lt d mc ms mj As h Q := by
  intro d
  induction d with
  | zero => intro mc ms mj As h Q k; exact k.elim
  | succ d ih =>
    intro mc ms mj As h Q k r hr hj
    obtain ⟨hlen, hW⟩ := k
    obtain ⟨w1, w2, w3, w4, w5, w6, w7, w8, w9, w10⟩ := vnok_all hj hr
    have hvml : vml mj = r.2.2.1 := by unfold vml; rw [hr]
    rw [hvml] at hlen hW
    refine Met.ofW (cc := r.2.1) (maxL := r.2.2.1) (ret := r.2.2.2.1) w7 rfl ?_
    intro p e s m args below meth c s₁ B hml hv
    obtain ⟨rfl, hH, hw⟩ := hv
    have hlocks := B.notSynchronized
    have X : vCx p (vrm (d + 1) mc ms) s m As.toArray meth c r mj d G lt := ⟨B.exec, B.bytes, hml, findClass_of_methodNamed B.named, fun w hw' => atoms_spec (ws := Cond.code r.1 r.2.1 r.2.2.1 r.2.2.2.1 :: vT1) B.pre w (List.mem_cons_of_mem _ hw'), hw, B.returns, (name_of_methodNamed B.named B.method).1, Nat.lt_of_lt_of_le hj (Nat.sub_le _ _), hr, Nat.le_refl _, by show 60 * d + 60 ≤ 60 * (d + 1); omega, hH.2.2.1⟩
    have hRt : vRt p l e (vrm (d + 1) mc ms) s m As.toArray below meth c (MQ below (vQc G lt Q) As.toArray s mc ms (fun q => lt.1 ≤ q)) G lt Q := by
      intro v h2 H locs ls pc ins hQ hH2 hS hd hk
      have hq : ∀ t : State, t.heap = H → s.WarmedH t.vm → vQc G lt Q As.toArray s (.returned v) t := fun t ht hW' => ⟨⟨v, h2, rfl, hQ, by rw [ht]; exact hH2, by rw [ht]; exact vWd_moved hW' hw (fun q h1 h2 => hS.2.1 q h1 h2)⟩, hS.F ht⟩
      rcases hk with ⟨rfl, x, ty, rfl, g1, g2⟩ | ⟨rfl, x, rfl, g1⟩ | ⟨rfl, w, Cr, rfl, g1, g2⟩ | ⟨rfl, rfl, g1⟩
      · exact W.zret B.exec rfl g1 g2 hq hS.2.2 hd
      · exact W.lret B.exec rfl g1 hq hS.2.2 hd
      · exact W.aret B.exec rfl g2 (Or.inl ⟨_, rfl⟩) g1 hq hS.2.2 hd
      · exact W.vret B.exec rfl g1 hq hS.2.2 hd
    rw [lg_entry_eq]
    exact hW _ (v_rules X (fun mc ms mj As h Q z => ih mc ms mj As h Q z) hRt) (by rw [vpad_len hlen]; exact hml.symm) _ s.heap [] 0 0 (vLv_entry hlen) hH va_S.rf (by show 0 + mc ≤ mc; omega) (by show 0 + ms ≤ ms; omega)
