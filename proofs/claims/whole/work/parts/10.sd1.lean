/-! what the check says, kind by kind -/
theorem vq_1 (own nm : String) (ret : Option FieldType) (pc : Nat) (ins : Instr) (len a b : Nat) (z : Int) (i : Nat) : vchk own nm ret pc ins len 1 a b z i = ((match ins with
    | .iconst n => decide (Int32.ofInt n = iI z ∧ len = 1)
    | .bipush n => decide ((Int8.ofInt n).toInt32 = iI z ∧ len = 2)
    | .sipush n => decide ((Int16.ofInt n).toInt32 = iI z ∧ len = 3)
    | .ldc x => vis i (.constant own x (iI z)) && decide (len = 2)
    | .ldc_w x => vis i (.constant own x (iI z)) && decide (len = 3)
    | _ => false)) := rfl
theorem vq_2 (own nm : String) (ret : Option FieldType) (pc : Nat) (ins : Instr) (len a b : Nat) (z : Int) (i : Nat) : vchk own nm ret pc ins len 2 a b z i = ((match ins with
    | .lconst n => decide (Int64.ofNat (n : Nat) = lZ z ∧ len = 1)
    | .ldc2_w x => vis i (.constantLong own x (lZ z)) && decide (len = 3)
    | _ => false)) := rfl
theorem vq_3 (own nm : String) (ret : Option FieldType) (pc : Nat) (ins : Instr) (len a b : Nat) (z : Int) (i : Nat) : vchk own nm ret pc ins len 3 a b z i = (decide (ins = .aconst_null ∧ len = 1)) := rfl
theorem vq_4 (own nm : String) (ret : Option FieldType) (pc : Nat) (ins : Instr) (len a b : Nat) (z : Int) (i : Nat) : vchk own nm ret pc ins len 4 a b z i = ((match ins with
    | .iload x => decide (x = a ∧ len = 2)
    | .iload_n k => decide ((k : Nat) = a ∧ len = 1)
    | _ => false)) := rfl
theorem vq_5 (own nm : String) (ret : Option FieldType) (pc : Nat) (ins : Instr) (len a b : Nat) (z : Int) (i : Nat) : vchk own nm ret pc ins len 5 a b z i = ((match ins with
    | .lload x => decide (x = a ∧ len = 2)
    | .lload_n k => decide ((k : Nat) = a ∧ len = 1)
    | _ => false)) := rfl
theorem vq_6 (own nm : String) (ret : Option FieldType) (pc : Nat) (ins : Instr) (len a b : Nat) (z : Int) (i : Nat) : vchk own nm ret pc ins len 6 a b z i = ((match ins with
    | .aload x => decide (x = a ∧ len = 2)
    | .aload_n k => decide ((k : Nat) = a ∧ len = 1)
    | _ => false)) := rfl
theorem vq_7 (own nm : String) (ret : Option FieldType) (pc : Nat) (ins : Instr) (len a b : Nat) (z : Int) (i : Nat) : vchk own nm ret pc ins len 7 a b z i = ((match ins with
    | .istore x => decide (x = a ∧ len = 2)
    | .istore_n k => decide ((k : Nat) = a ∧ len = 1)
    | _ => false)) := rfl
theorem vq_8 (own nm : String) (ret : Option FieldType) (pc : Nat) (ins : Instr) (len a b : Nat) (z : Int) (i : Nat) : vchk own nm ret pc ins len 8 a b z i = ((match ins with
    | .lstore x => decide (x = a ∧ len = 2)
    | .lstore_n k => decide ((k : Nat) = a ∧ len = 1)
    | _ => false)) := rfl
theorem vq_9 (own nm : String) (ret : Option FieldType) (pc : Nat) (ins : Instr) (len a b : Nat) (z : Int) (i : Nat) : vchk own nm ret pc ins len 9 a b z i = ((match ins with
    | .astore x => decide (x = a ∧ len = 2)
    | .astore_n k => decide ((k : Nat) = a ∧ len = 1)
    | _ => false)) := rfl
theorem vq_10 (own nm : String) (ret : Option FieldType) (pc : Nat) (ins : Instr) (len a b : Nat) (z : Int) (i : Nat) : vchk own nm ret pc ins len 10 a b z i = (decide (ins = .iinc a z ∧ len = 3)) := rfl
theorem vq_11 (own nm : String) (ret : Option FieldType) (pc : Nat) (ins : Instr) (len a b : Nat) (z : Int) (i : Nat) : vchk own nm ret pc ins len 11 a b z i = (decide (ins = .iadd ∧ len = 1)) := rfl
theorem vq_12 (own nm : String) (ret : Option FieldType) (pc : Nat) (ins : Instr) (len a b : Nat) (z : Int) (i : Nat) : vchk own nm ret pc ins len 12 a b z i = (decide (ins = .isub ∧ len = 1)) := rfl
theorem vq_13 (own nm : String) (ret : Option FieldType) (pc : Nat) (ins : Instr) (len a b : Nat) (z : Int) (i : Nat) : vchk own nm ret pc ins len 13 a b z i = (decide (ins = .imul ∧ len = 1)) := rfl
theorem vq_14 (own nm : String) (ret : Option FieldType) (pc : Nat) (ins : Instr) (len a b : Nat) (z : Int) (i : Nat) : vchk own nm ret pc ins len 14 a b z i = (decide (ins = .idiv ∧ len = 1)) := rfl
theorem vq_15 (own nm : String) (ret : Option FieldType) (pc : Nat) (ins : Instr) (len a b : Nat) (z : Int) (i : Nat) : vchk own nm ret pc ins len 15 a b z i = (decide (ins = .irem ∧ len = 1)) := rfl
theorem vq_16 (own nm : String) (ret : Option FieldType) (pc : Nat) (ins : Instr) (len a b : Nat) (z : Int) (i : Nat) : vchk own nm ret pc ins len 16 a b z i = (decide (ins = .ineg ∧ len = 1)) := rfl
theorem vq_17 (own nm : String) (ret : Option FieldType) (pc : Nat) (ins : Instr) (len a b : Nat) (z : Int) (i : Nat) : vchk own nm ret pc ins len 17 a b z i = (decide (ins = .iand ∧ len = 1)) := rfl
theorem vq_18 (own nm : String) (ret : Option FieldType) (pc : Nat) (ins : Instr) (len a b : Nat) (z : Int) (i : Nat) : vchk own nm ret pc ins len 18 a b z i = (decide (ins = .ior ∧ len = 1)) := rfl
theorem vq_19 (own nm : String) (ret : Option FieldType) (pc : Nat) (ins : Instr) (len a b : Nat) (z : Int) (i : Nat) : vchk own nm ret pc ins len 19 a b z i = (decide (ins = .ishl ∧ len = 1)) := rfl
theorem vq_20 (own nm : String) (ret : Option FieldType) (pc : Nat) (ins : Instr) (len a b : Nat) (z : Int) (i : Nat) : vchk own nm ret pc ins len 20 a b z i = (decide (ins = .ishr ∧ len = 1)) := rfl
theorem vq_21 (own nm : String) (ret : Option FieldType) (pc : Nat) (ins : Instr) (len a b : Nat) (z : Int) (i : Nat) : vchk own nm ret pc ins len 21 a b z i = (decide (ins = .iushr ∧ len = 1)) := rfl
theorem vq_22 (own nm : String) (ret : Option FieldType) (pc : Nat) (ins : Instr) (len a b : Nat) (z : Int) (i : Nat) : vchk own nm ret pc ins len 22 a b z i = (decide (ins = .ladd ∧ len = 1)) := rfl
theorem vq_23 (own nm : String) (ret : Option FieldType) (pc : Nat) (ins : Instr) (len a b : Nat) (z : Int) (i : Nat) : vchk own nm ret pc ins len 23 a b z i = (decide (ins = .lsub ∧ len = 1)) := rfl
theorem vq_24 (own nm : String) (ret : Option FieldType) (pc : Nat) (ins : Instr) (len a b : Nat) (z : Int) (i : Nat) : vchk own nm ret pc ins len 24 a b z i = (decide (ins = .lmul ∧ len = 1)) := rfl
theorem vq_25 (own nm : String) (ret : Option FieldType) (pc : Nat) (ins : Instr) (len a b : Nat) (z : Int) (i : Nat) : vchk own nm ret pc ins len 25 a b z i = (decide (ins = .land ∧ len = 1)) := rfl
theorem vq_26 (own nm : String) (ret : Option FieldType) (pc : Nat) (ins : Instr) (len a b : Nat) (z : Int) (i : Nat) : vchk own nm ret pc ins len 26 a b z i = (decide (ins = .lor ∧ len = 1)) := rfl
theorem vq_27 (own nm : String) (ret : Option FieldType) (pc : Nat) (ins : Instr) (len a b : Nat) (z : Int) (i : Nat) : vchk own nm ret pc ins len 27 a b z i = (decide (ins = .lxor ∧ len = 1)) := rfl
theorem vq_28 (own nm : String) (ret : Option FieldType) (pc : Nat) (ins : Instr) (len a b : Nat) (z : Int) (i : Nat) : vchk own nm ret pc ins len 28 a b z i = (decide (ins = .lshl ∧ len = 1)) := rfl
theorem vq_29 (own nm : String) (ret : Option FieldType) (pc : Nat) (ins : Instr) (len a b : Nat) (z : Int) (i : Nat) : vchk own nm ret pc ins len 29 a b z i = (decide (ins = .lshr ∧ len = 1)) := rfl
theorem vq_30 (own nm : String) (ret : Option FieldType) (pc : Nat) (ins : Instr) (len a b : Nat) (z : Int) (i : Nat) : vchk own nm ret pc ins len 30 a b z i = (decide (ins = .lushr ∧ len = 1)) := rfl
theorem vq_31 (own nm : String) (ret : Option FieldType) (pc : Nat) (ins : Instr) (len a b : Nat) (z : Int) (i : Nat) : vchk own nm ret pc ins len 31 a b z i = (decide (ins = .lcmp ∧ len = 1)) := rfl
theorem vq_32 (own nm : String) (ret : Option FieldType) (pc : Nat) (ins : Instr) (len a b : Nat) (z : Int) (i : Nat) : vchk own nm ret pc ins len 32 a b z i = (decide (ins = .i2l ∧ len = 1)) := rfl
theorem vq_33 (own nm : String) (ret : Option FieldType) (pc : Nat) (ins : Instr) (len a b : Nat) (z : Int) (i : Nat) : vchk own nm ret pc ins len 33 a b z i = (decide (ins = .l2i ∧ len = 1)) := rfl
theorem vq_34 (own nm : String) (ret : Option FieldType) (pc : Nat) (ins : Instr) (len a b : Nat) (z : Int) (i : Nat) : vchk own nm ret pc ins len 34 a b z i = (decide (ins = .dup ∧ len = 1)) := rfl
theorem vq_35 (own nm : String) (ret : Option FieldType) (pc : Nat) (ins : Instr) (len a b : Nat) (z : Int) (i : Nat) : vchk own nm ret pc ins len 35 a b z i = (decide (ins = .dup2 ∧ len = 1)) := rfl
theorem vq_36 (own nm : String) (ret : Option FieldType) (pc : Nat) (ins : Instr) (len a b : Nat) (z : Int) (i : Nat) : vchk own nm ret pc ins len 36 a b z i = (decide (ins = .pop ∧ len = 1)) := rfl
theorem vq_37 (own nm : String) (ret : Option FieldType) (pc : Nat) (ins : Instr) (len a b : Nat) (z : Int) (i : Nat) : vchk own nm ret pc ins len 37 a b z i = ((match ins with
    | .goto off => decide ((pc : Int) + off = (a : Int) ∧ len = 3)
    | _ => false)) := rfl
theorem vq_40 (own nm : String) (ret : Option FieldType) (pc : Nat) (ins : Instr) (len a b : Nat) (z : Int) (i : Nat) : vchk own nm ret pc ins len 40 a b z i = ((match ins with
    | .ifnull off => decide ((pc : Int) + off = (a : Int) ∧ len = 3)
    | _ => false)) := rfl
theorem vq_41 (own nm : String) (ret : Option FieldType) (pc : Nat) (ins : Instr) (len a b : Nat) (z : Int) (i : Nat) : vchk own nm ret pc ins len 41 a b z i = ((match ins with
    | .ifnonnull off => decide ((pc : Int) + off = (a : Int) ∧ len = 3)
    | _ => false)) := rfl
theorem vq_42 (own nm : String) (ret : Option FieldType) (pc : Nat) (ins : Instr) (len a b : Nat) (z : Int) (i : Nat) : vchk own nm ret pc ins len 42 a b z i = ((match ins with
    | .getfield x => vckc a fun q => decide (b < q.2.2) && decide ((q.2.1 b).1 = q.1) && vis i (.fieldLink own x q.1 (q.2.1 b).2.1 (q.2.1 b).2.2.1) && decide (len = 3)
    | _ => false)) := rfl
theorem vq_43 (own nm : String) (ret : Option FieldType) (pc : Nat) (ins : Instr) (len a b : Nat) (z : Int) (i : Nat) : vchk own nm ret pc ins len 43 a b z i = ((match ins with
    | .putfield x => vckc a fun q => decide (b < q.2.2) && decide ((q.2.1 b).1 = q.1) && vis i (.fieldLink own x q.1 (q.2.1 b).2.1 (q.2.1 b).2.2.1) && decide (len = 3) && decide ((q.2.1 b).2.2.2 = false)
    | _ => false)) := rfl
theorem vq_44 (own nm : String) (ret : Option FieldType) (pc : Nat) (ins : Instr) (len a b : Nat) (z : Int) (i : Nat) : vchk own nm ret pc ins len 44 a b z i = ((match ins with
    | .getstatic x => (if b = 0 then vis i (.fieldLink own x "RecurringDays" "BLOCK_LENGTHS" "[I") else vis i (.fieldLinkNest own x "RecurringDays" "BLOCK_LENGTHS" "[I" "RecurringDays")) && decide (len = 3)
    | _ => false)) := rfl
theorem vq_45 (own nm : String) (ret : Option FieldType) (pc : Nat) (ins : Instr) (len a b : Nat) (z : Int) (i : Nat) : vchk own nm ret pc ins len 45 a b z i = (decide (ins = .iaload ∧ len = 1)) := rfl
theorem vq_46 (own nm : String) (ret : Option FieldType) (pc : Nat) (ins : Instr) (len a b : Nat) (z : Int) (i : Nat) : vchk own nm ret pc ins len 46 a b z i = (decide (ins = .laload ∧ len = 1)) := rfl
theorem vq_47 (own nm : String) (ret : Option FieldType) (pc : Nat) (ins : Instr) (len a b : Nat) (z : Int) (i : Nat) : vchk own nm ret pc ins len 47 a b z i = (decide (ins = .baload ∧ len = 1)) := rfl
theorem vq_48 (own nm : String) (ret : Option FieldType) (pc : Nat) (ins : Instr) (len a b : Nat) (z : Int) (i : Nat) : vchk own nm ret pc ins len 48 a b z i = (decide (ins = .aaload ∧ len = 1)) := rfl
theorem vq_49 (own nm : String) (ret : Option FieldType) (pc : Nat) (ins : Instr) (len a b : Nat) (z : Int) (i : Nat) : vchk own nm ret pc ins len 49 a b z i = (decide (ins = .iastore ∧ len = 1)) := rfl
theorem vq_50 (own nm : String) (ret : Option FieldType) (pc : Nat) (ins : Instr) (len a b : Nat) (z : Int) (i : Nat) : vchk own nm ret pc ins len 50 a b z i = (decide (ins = .lastore ∧ len = 1)) := rfl
theorem vq_51 (own nm : String) (ret : Option FieldType) (pc : Nat) (ins : Instr) (len a b : Nat) (z : Int) (i : Nat) : vchk own nm ret pc ins len 51 a b z i = (decide (ins = .bastore ∧ len = 1)) := rfl
theorem vq_52 (own nm : String) (ret : Option FieldType) (pc : Nat) (ins : Instr) (len a b : Nat) (z : Int) (i : Nat) : vchk own nm ret pc ins len 52 a b z i = (decide (ins = .aastore ∧ len = 1)) := rfl
theorem vq_53 (own nm : String) (ret : Option FieldType) (pc : Nat) (ins : Instr) (len a b : Nat) (z : Int) (i : Nat) : vchk own nm ret pc ins len 53 a b z i = (decide (ins = .arraylength ∧ len = 1)) := rfl
theorem vq_54 (own nm : String) (ret : Option FieldType) (pc : Nat) (ins : Instr) (len a b : Nat) (z : Int) (i : Nat) : vchk own nm ret pc ins len 54 a b z i = ((match ins with
    | .new x => vckc a fun q => decide (b = q.2.2) && vis i (.classLink own x q.1) && decide (len = 3)
    | _ => false)) := rfl
theorem vq_55 (own nm : String) (ret : Option FieldType) (pc : Nat) (ins : Instr) (len a b : Nat) (z : Int) (i : Nat) : vchk own nm ret pc ins len 55 a b z i = ((match ins with
    | .newarray t => decide (newarray.typeOf t = vaty a ∧ a < 3 ∧ len = 2)
    | _ => false)) := rfl
theorem vq_56 (own nm : String) (ret : Option FieldType) (pc : Nat) (ins : Instr) (len a b : Nat) (z : Int) (i : Nat) : vchk own nm ret pc ins len 56 a b z i = ((match ins with
    | .anewarray x => vis i (.classLink own x (vec a)) && decide (3 ≤ a ∧ a < 6 ∧ len = 3)
    | _ => false)) := rfl
theorem vq_57 (own nm : String) (ret : Option FieldType) (pc : Nat) (ins : Instr) (len a b : Nat) (z : Int) (i : Nat) : vchk own nm ret pc ins len 57 a b z i = ((match ins with
    | .multianewarray x k => vis i (.classLink own x "[[I") && decide (k = 2 ∧ len = 4)
    | _ => false)) := rfl
theorem vq_58 (own nm : String) (ret : Option FieldType) (pc : Nat) (ins : Instr) (len a b : Nat) (z : Int) (i : Nat) : vchk own nm ret pc ins len 58 a b z i = ((match ins with
    | .invokevirtual x => vckm a fun r => vis i (.methodLink own x r.1) && decide (len = 3) && !r.2.2.2.2.2.2.1 && vis r.2.2.2.2.2.2.2.2.2.1 (.selects r.1.cls r.1 r.1)
    | _ => false)) := rfl
theorem vq_59 (own nm : String) (ret : Option FieldType) (pc : Nat) (ins : Instr) (len a b : Nat) (z : Int) (i : Nat) : vchk own nm ret pc ins len 59 a b z i = ((match ins with
    | .invokestatic x => vckm a fun r => vis i (.methodLink own x r.1) && decide (len = 3) && r.2.2.2.2.2.2.1
    | _ => false)) := rfl
theorem vq_60 (own nm : String) (ret : Option FieldType) (pc : Nat) (ins : Instr) (len a b : Nat) (z : Int) (i : Nat) : vchk own nm ret pc ins len 60 a b z i = ((match ins with
    | .invokespecial x => vckm a fun r => vis i (.methodLink own x r.1) && decide (len = 3) && !r.2.2.2.2.2.2.1 && decide (r.1.name = "<init>")
    | _ => false)) := rfl
theorem vq_61 (own nm : String) (ret : Option FieldType) (pc : Nat) (ins : Instr) (len a b : Nat) (z : Int) (i : Nat) : vchk own nm ret pc ins len 61 a b z i = ((match ins with
    | .invokespecial x => vis i (.methodLink own x objectInit) && decide (len = 3)
    | _ => false)) := rfl
theorem vq_62 (own nm : String) (ret : Option FieldType) (pc : Nat) (ins : Instr) (len a b : Nat) (z : Int) (i : Nat) : vchk own nm ret pc ins len 62 a b z i = ((match ins with
    | .invokestatic x => vis i (.methodLink own x arraycopyName) && decide (len = 3)
    | _ => false)) := rfl
theorem vq_63 (own nm : String) (ret : Option FieldType) (pc : Nat) (ins : Instr) (len a b : Nat) (z : Int) (i : Nat) : vchk own nm ret pc ins len 63 a b z i = (decide (ins = .ireturn ∧ len = 1 ∧ ret = some (if a = 0 then .int else .boolean))) := rfl
theorem vq_64 (own nm : String) (ret : Option FieldType) (pc : Nat) (ins : Instr) (len a b : Nat) (z : Int) (i : Nat) : vchk own nm ret pc ins len 64 a b z i = (decide (ins = .lreturn ∧ len = 1 ∧ ret = some .long)) := rfl
theorem vq_65 (own nm : String) (ret : Option FieldType) (pc : Nat) (ins : Instr) (len a b : Nat) (z : Int) (i : Nat) : vchk own nm ret pc ins len 65 a b z i = (decide (ins = .areturn ∧ len = 1) && (match ret with
    | some (.object _) => true
    | _ => false)) := rfl
theorem vq_66 (own nm : String) (ret : Option FieldType) (pc : Nat) (ins : Instr) (len a b : Nat) (z : Int) (i : Nat) : vchk own nm ret pc ins len 66 a b z i = (decide (ins = .return_ ∧ len = 1 ∧ ret = none)) := rfl
theorem vq_67 (own nm : String) (ret : Option FieldType) (pc : Nat) (ins : Instr) (len a b : Nat) (z : Int) (i : Nat) : vchk own nm ret pc ins len 67 a b z i = ((match vsw[a]? with
    | some q => (match ins with
      | .tableswitch d lo hi offs => decide (q.1 = vsp pc lo offs.toList ∧ (pc : Int) + d = (q.2 : Int) ∧ hi = lo + offs.toList.length - 1 ∧ (offs.toList.all fun o => decide (0 ≤ (pc : Int) + o)) = true)
      | .lookupswitch d ps => decide (q.1 = vps pc ps.toList ∧ (pc : Int) + d = (q.2 : Int) ∧ (ps.toList.all fun o => decide (0 ≤ (pc : Int) + o.2)) = true ∧ (ps.toList.zip (ps.toList.drop 1)).all (fun (a, next) => a.1 < next.1) = true)
      | _ => false)
    | none => false)) := rfl
theorem vq_68 (own nm : String) (ret : Option FieldType) (pc : Nat) (ins : Instr) (len a b : Nat) (z : Int) (i : Nat) : vchk own nm ret pc ins len 68 a b z i = ((match ins with
    | .putfield x => vckc a fun q => decide (b < q.2.2) && decide ((q.2.1 b).1 = q.1) && vis i (.fieldLink own x q.1 (q.2.1 b).2.1 (q.2.1 b).2.2.1) && decide (len = 3) && decide ((q.2.1 b).2.2.2 = true) && decide (own = q.1) && decide (nm = "<init>")
    | _ => false)) := rfl
theorem vq_70 (own nm : String) (ret : Option FieldType) (pc : Nat) (ins : Instr) (len a b : Nat) (z : Int) (i : Nat) : vchk own nm ret pc ins len 70 a b z i = ((match ins with
    | .ifCond .eq off => decide ((pc : Int) + off = (a : Int) ∧ len = 3)
    | _ => false)) := rfl
theorem vq_71 (own nm : String) (ret : Option FieldType) (pc : Nat) (ins : Instr) (len a b : Nat) (z : Int) (i : Nat) : vchk own nm ret pc ins len 71 a b z i = ((match ins with
    | .ifCond .ne off => decide ((pc : Int) + off = (a : Int) ∧ len = 3)
    | _ => false)) := rfl
theorem vq_72 (own nm : String) (ret : Option FieldType) (pc : Nat) (ins : Instr) (len a b : Nat) (z : Int) (i : Nat) : vchk own nm ret pc ins len 72 a b z i = ((match ins with
    | .ifCond .lt off => decide ((pc : Int) + off = (a : Int) ∧ len = 3)
    | _ => false)) := rfl
theorem vq_73 (own nm : String) (ret : Option FieldType) (pc : Nat) (ins : Instr) (len a b : Nat) (z : Int) (i : Nat) : vchk own nm ret pc ins len 73 a b z i = ((match ins with
    | .ifCond .ge off => decide ((pc : Int) + off = (a : Int) ∧ len = 3)
    | _ => false)) := rfl
theorem vq_74 (own nm : String) (ret : Option FieldType) (pc : Nat) (ins : Instr) (len a b : Nat) (z : Int) (i : Nat) : vchk own nm ret pc ins len 74 a b z i = ((match ins with
    | .ifCond .gt off => decide ((pc : Int) + off = (a : Int) ∧ len = 3)
    | _ => false)) := rfl
theorem vq_75 (own nm : String) (ret : Option FieldType) (pc : Nat) (ins : Instr) (len a b : Nat) (z : Int) (i : Nat) : vchk own nm ret pc ins len 75 a b z i = ((match ins with
    | .ifCond .le off => decide ((pc : Int) + off = (a : Int) ∧ len = 3)
    | _ => false)) := rfl
theorem vq_76 (own nm : String) (ret : Option FieldType) (pc : Nat) (ins : Instr) (len a b : Nat) (z : Int) (i : Nat) : vchk own nm ret pc ins len 76 a b z i = ((match ins with
    | .if_icmp .eq off => decide ((pc : Int) + off = (a : Int) ∧ len = 3)
    | _ => false)) := rfl
theorem vq_77 (own nm : String) (ret : Option FieldType) (pc : Nat) (ins : Instr) (len a b : Nat) (z : Int) (i : Nat) : vchk own nm ret pc ins len 77 a b z i = ((match ins with
    | .if_icmp .ne off => decide ((pc : Int) + off = (a : Int) ∧ len = 3)
    | _ => false)) := rfl
theorem vq_78 (own nm : String) (ret : Option FieldType) (pc : Nat) (ins : Instr) (len a b : Nat) (z : Int) (i : Nat) : vchk own nm ret pc ins len 78 a b z i = ((match ins with
    | .if_icmp .lt off => decide ((pc : Int) + off = (a : Int) ∧ len = 3)
    | _ => false)) := rfl
theorem vq_79 (own nm : String) (ret : Option FieldType) (pc : Nat) (ins : Instr) (len a b : Nat) (z : Int) (i : Nat) : vchk own nm ret pc ins len 79 a b z i = ((match ins with
    | .if_icmp .ge off => decide ((pc : Int) + off = (a : Int) ∧ len = 3)
    | _ => false)) := rfl
theorem vq_80 (own nm : String) (ret : Option FieldType) (pc : Nat) (ins : Instr) (len a b : Nat) (z : Int) (i : Nat) : vchk own nm ret pc ins len 80 a b z i = ((match ins with
    | .if_icmp .gt off => decide ((pc : Int) + off = (a : Int) ∧ len = 3)
    | _ => false)) := rfl
theorem vq_81 (own nm : String) (ret : Option FieldType) (pc : Nat) (ins : Instr) (len a b : Nat) (z : Int) (i : Nat) : vchk own nm ret pc ins len 81 a b z i = ((match ins with
    | .if_icmp .le off => decide ((pc : Int) + off = (a : Int) ∧ len = 3)
    | _ => false)) := rfl
theorem vq_82 (own nm : String) (ret : Option FieldType) (pc : Nat) (ins : Instr) (len a b : Nat) (z : Int) (i : Nat) : vchk own nm ret pc ins len 82 a b z i = ((match ins with
    | .invokestatic x => vckm a fun r => vis i (.methodLinkNest own x r.1 "RecurringDays") && decide (len = 3) && r.2.2.2.2.2.2.1
    | _ => false)) := rfl
theorem vq_83 (own nm : String) (ret : Option FieldType) (pc : Nat) (ins : Instr) (len a b : Nat) (z : Int) (i : Nat) : vchk own nm ret pc ins len 83 a b z i = ((match ins with
    | .invokespecial x => vckm a fun r => vis i (.methodLinkNest own x r.1 "RecurringDays") && decide (len = 3) && !r.2.2.2.2.2.2.1 && decide (r.1.name = "<init>")
    | _ => false)) := rfl
theorem vq_84 (own nm : String) (ret : Option FieldType) (pc : Nat) (ins : Instr) (len a b : Nat) (z : Int) (i : Nat) : vchk own nm ret pc ins len 84 a b z i = ((match ins with
    | .invokestatic x => vis i (.methodLink own x Lib.Math.max.name) && decide (len = 3)
    | _ => false)) := rfl
theorem vq_85 (own nm : String) (ret : Option FieldType) (pc : Nat) (ins : Instr) (len a b : Nat) (z : Int) (i : Nat) : vchk own nm ret pc ins len 85 a b z i = ((match ins with
    | .invokestatic x => vis i (.methodLink own x Lib.Math.min.name) && decide (len = 3)
    | _ => false)) := rfl
abbrev vSm (p : Program) (l : Launch) (e : Env) (Rm : Room) (s : State) (mid : MethodId) (args : Array Value) (below : List Frame) (meth : Method) (c : Code) (Qf : State → Prop) (G : vG) (lt : Nat × Nat) : vP := fun pc lv st h bc bs =>
  lv.length = c.maxLocals → ∀ (ls : Array Slot) (H : Heap) (locs : List Loc) (cells slots : Nat), vLv ls lv → vHl G lt h H → va_S (fun q => lt.1 ≤ q) s.heap H locs → cells + bc ≤ Rm.cells → slots + bs ≤ Rm.slots → W p l e Rm s mid args below meth c H locs cells slots Qf (F0 mid pc ls st)
def vCx (p : Program) (Rm : Room) (s : State) (mid : MethodId) (args : Array Value) (meth : Method) (c : Code) (r : vNr) (m d : Nat) (G : vG) (lt : Nat × Nat) : Prop :=
  p.tables.exec = Jvm.exec ∧ c.code = r.2.1 ∧ c.maxLocals = r.2.2.1 ∧ s.vm.findClass r.1.cls = some mid.cls ∧ (∀ w ∈ vT1, w.before args s = true) ∧ vWd G lt s s.heap ∧ meth.sig.returnType = r.2.2.2.1 ∧ meth.name = r.1.name ∧ m < vNum ∧ vN[m]? = some r ∧ d + 1 ≤ Rm.frames ∧ 60 * d + 60 ≤ Rm.locals ∧ lt.1 ≤ s.heap.size
section SD1
variable {p : Program} {l : Launch} {e : Env} {Rm : Room} {s : State} {mid : MethodId} {args : Array Value} {below : List Frame} {meth : Method} {c : Code} {Qf : State → Prop} {G : vG} {lt : Nat × Nat} {r : vNr} {m d : Nat} {C : vCt} {R : vQ}
theorem sd_null (X : vCx p Rm s mid args meth c r m d G lt) : vk_null C m R (vSm p l e Rm s mid args below meth c Qf G lt) := by
  obtain ⟨hx, hb, hml, hown, hts, hw, hrt, hnm, hm, hr, hfr, hlo, hsz⟩ := X
  intro pc nx lv st h bc bs  hc  k0 hlen ls H locs cells slots hv0 hH hS hbc hbs
  obtain ⟨ins, len, i, hd, hk, rfl⟩ := vlk_ok hm hr hc
  rw [vq_3] at hk
  obtain ⟨rfl, rfl⟩ := of_decide_eq_true hk
  exact lv_null hx hb hd (k0 hlen ls H locs cells slots hv0 hH hS hbc hbs)
theorem sd_ci (X : vCx p Rm s mid args meth c r m d G lt) : vk_ci C m R (vSm p l e Rm s mid args below meth c Qf G lt) := by
  obtain ⟨hx, hb, hml, hown, hts, hw, hrt, hnm, hm, hr, hfr, hlo, hsz⟩ := X
  intro pc nx lv st h bc bs z hc  k0 hlen ls H locs cells slots hv0 hH hS hbc hbs
  obtain ⟨ins, len, i, hd, hk, rfl⟩ := vlk_ok hm hr hc
  rw [vq_1] at hk
  split at hk
  · obtain ⟨hv, rfl⟩ := of_decide_eq_true hk
    exact lv_iconst hx hb hd hv (k0 hlen ls H locs cells slots hv0 hH hS hbc hbs)
  · obtain ⟨hv, rfl⟩ := of_decide_eq_true hk
    exact lv_bipush hx hb hd hv (k0 hlen ls H locs cells slots hv0 hH hS hbc hbs)
  · obtain ⟨hv, rfl⟩ := of_decide_eq_true hk
    exact lv_sipush hx hb hd hv (k0 hlen ls H locs cells slots hv0 hH hS hbc hbs)
  · obtain ⟨hv, hl⟩ := Bool.and_eq_true_iff.mp hk
    have hl := of_decide_eq_true hl
    subst hl
    exact lv_ldc hx hb hown (hts _ (vT1_of (vis_eq hv) rfl)) hd (k0 hlen ls H locs cells slots hv0 hH hS hbc hbs)
  · obtain ⟨hv, hl⟩ := Bool.and_eq_true_iff.mp hk
    have hl := of_decide_eq_true hl
    subst hl
    exact lv_ldcw hx hb hown (hts _ (vT1_of (vis_eq hv) rfl)) hd (k0 hlen ls H locs cells slots hv0 hH hS hbc hbs)
  · cases hk
theorem sd_cl (X : vCx p Rm s mid args meth c r m d G lt) : vk_cl C m R (vSm p l e Rm s mid args below meth c Qf G lt) := by
  obtain ⟨hx, hb, hml, hown, hts, hw, hrt, hnm, hm, hr, hfr, hlo, hsz⟩ := X
  intro pc nx lv st h bc bs z hc  k0 hlen ls H locs cells slots hv0 hH hS hbc hbs
  obtain ⟨ins, len, i, hd, hk, rfl⟩ := vlk_ok hm hr hc
  rw [vq_2] at hk
  split at hk
  · obtain ⟨hv, rfl⟩ := of_decide_eq_true hk
    exact lv_lconst hx hb hd hv (k0 hlen ls H locs cells slots hv0 hH hS hbc hbs)
  · obtain ⟨hv, hl⟩ := Bool.and_eq_true_iff.mp hk
    have hl := of_decide_eq_true hl
    subst hl
    exact lv_ldc2 hx hb hown (hts _ (vT1_of (vis_eq hv) rfl)) hd (k0 hlen ls H locs cells slots hv0 hH hS hbc hbs)
  · cases hk
theorem sd_iload (X : vCx p Rm s mid args meth c r m d G lt) : vk_iload C m R (vSm p l e Rm s mid args below meth c Qf G lt) := by
  obtain ⟨hx, hb, hml, hown, hts, hw, hrt, hnm, hm, hr, hfr, hlo, hsz⟩ := X
  intro pc nx lv st h bc bs a X hc hlp k0 hlen ls H locs cells slots hv0 hH hS hbc hbs
  obtain ⟨ins, len, i, hd, hk, rfl⟩ := vlk_ok hm hr hc
  have hg := vLv_get hv0 hlp (by intro q; cases q)
  rw [vq_4] at hk
  split at hk
  · obtain ⟨rfl, rfl⟩ := of_decide_eq_true hk
    exact lv_iload hx hb hd hg (k0 hlen ls H locs cells slots hv0 hH hS hbc hbs)
  · obtain ⟨ha, rfl⟩ := of_decide_eq_true hk
    exact lv_iload_n hx hb hd ha hg (k0 hlen ls H locs cells slots hv0 hH hS hbc hbs)
  · cases hk
theorem sd_lload (X : vCx p Rm s mid args meth c r m d G lt) : vk_lload C m R (vSm p l e Rm s mid args below meth c Qf G lt) := by
  obtain ⟨hx, hb, hml, hown, hts, hw, hrt, hnm, hm, hr, hfr, hlo, hsz⟩ := X
  intro pc nx lv st h bc bs a L hc hlp k0 hlen ls H locs cells slots hv0 hH hS hbc hbs
  obtain ⟨ins, len, i, hd, hk, rfl⟩ := vlk_ok hm hr hc
  have hg := vLv_get hv0 hlp (by intro q; cases q)
  rw [vq_5] at hk
  split at hk
  · obtain ⟨rfl, rfl⟩ := of_decide_eq_true hk
    exact lv_lload hx hb hd hg (k0 hlen ls H locs cells slots hv0 hH hS hbc hbs)
  · obtain ⟨ha, rfl⟩ := of_decide_eq_true hk
    exact lv_lload_n hx hb hd ha hg (k0 hlen ls H locs cells slots hv0 hH hS hbc hbs)
  · cases hk
theorem sd_aload (X : vCx p Rm s mid args meth c r m d G lt) : vk_aload C m R (vSm p l e Rm s mid args below meth c Qf G lt) := by
  obtain ⟨hx, hb, hml, hown, hts, hw, hrt, hnm, hm, hr, hfr, hlo, hsz⟩ := X
  intro pc nx lv st h bc bs a r hc hlp k0 hlen ls H locs cells slots hv0 hH hS hbc hbs
  obtain ⟨ins, len, i, hd, hk, rfl⟩ := vlk_ok hm hr hc
  have hg := vLv_get hv0 hlp (by intro q; cases q)
  rw [vq_6] at hk
  split at hk
  · obtain ⟨rfl, rfl⟩ := of_decide_eq_true hk
    exact lv_aload hx hb hd hg (k0 hlen ls H locs cells slots hv0 hH hS hbc hbs)
  · obtain ⟨ha, rfl⟩ := of_decide_eq_true hk
    exact lv_aload_n hx hb hd ha hg (k0 hlen ls H locs cells slots hv0 hH hS hbc hbs)
  · cases hk
theorem sd_aloadN (X : vCx p Rm s mid args meth c r m d G lt) : vk_aloadN C m R (vSm p l e Rm s mid args below meth c Qf G lt) := by
  obtain ⟨hx, hb, hml, hown, hts, hw, hrt, hnm, hm, hr, hfr, hlo, hsz⟩ := X
  intro pc nx lv st h bc bs a hc hlp k0 hlen ls H locs cells slots hv0 hH hS hbc hbs
  obtain ⟨ins, len, i, hd, hk, rfl⟩ := vlk_ok hm hr hc
  have hg := vLv_get hv0 hlp (by intro q; cases q)
  rw [vq_6] at hk
  split at hk
  · obtain ⟨rfl, rfl⟩ := of_decide_eq_true hk
    exact lv_aloadN hx hb hd hg (k0 hlen ls H locs cells slots hv0 hH hS hbc hbs)
  · obtain ⟨ha, rfl⟩ := of_decide_eq_true hk
    exact lv_aload_nN hx hb hd ha hg (k0 hlen ls H locs cells slots hv0 hH hS hbc hbs)
  · cases hk
theorem sd_istore (X : vCx p Rm s mid args meth c r m d G lt) : vk_istore C m R (vSm p l e Rm s mid args below meth c Qf G lt) := by
  obtain ⟨hx, hb, hml, hown, hts, hw, hrt, hnm, hm, hr, hfr, hlo, hsz⟩ := X
  intro pc nx lv st h bc bs a X hc hpp k0 hlen ls H locs cells slots hv0 hH hS hbc hbs
  obtain ⟨ins, len, i, hd, hk, rfl⟩ := vlk_ok hm hr hc
  rw [vq_7] at hk
  split at hk
  · obtain ⟨rfl, rfl⟩ := of_decide_eq_true hk
    exact lv_istore hx hb hd hv0 (vpo_lt hpp) rfl (fun ls' h' => k0 ((vst_len _ _ _).trans hlen) ls' H locs cells slots (vLv_st1 hv0 hpp rfl h') hH hS hbc hbs)
  · obtain ⟨ha, rfl⟩ := of_decide_eq_true hk
    exact lv_istore_n hx hb hd ha hv0 (vpo_lt hpp) rfl (fun ls' h' => k0 ((vst_len _ _ _).trans hlen) ls' H locs cells slots (vLv_st1 hv0 hpp rfl h') hH hS hbc hbs)
  · cases hk
theorem sd_astore (X : vCx p Rm s mid args meth c r m d G lt) : vk_astore C m R (vSm p l e Rm s mid args below meth c Qf G lt) := by
  obtain ⟨hx, hb, hml, hown, hts, hw, hrt, hnm, hm, hr, hfr, hlo, hsz⟩ := X
  intro pc nx lv st h bc bs a r hc hpp k0 hlen ls H locs cells slots hv0 hH hS hbc hbs
  obtain ⟨ins, len, i, hd, hk, rfl⟩ := vlk_ok hm hr hc
  rw [vq_9] at hk
  split at hk
  · obtain ⟨rfl, rfl⟩ := of_decide_eq_true hk
    exact lv_astore hx hb hd hv0 (vpo_lt hpp) rfl (fun ls' h' => k0 ((vst_len _ _ _).trans hlen) ls' H locs cells slots (vLv_st1 hv0 hpp rfl h') hH hS hbc hbs)
  · obtain ⟨ha, rfl⟩ := of_decide_eq_true hk
    exact lv_astore_n hx hb hd ha hv0 (vpo_lt hpp) rfl (fun ls' h' => k0 ((vst_len _ _ _).trans hlen) ls' H locs cells slots (vLv_st1 hv0 hpp rfl h') hH hS hbc hbs)
  · cases hk
theorem sd_astoreN (X : vCx p Rm s mid args meth c r m d G lt) : vk_astoreN C m R (vSm p l e Rm s mid args below meth c Qf G lt) := by
  obtain ⟨hx, hb, hml, hown, hts, hw, hrt, hnm, hm, hr, hfr, hlo, hsz⟩ := X
  intro pc nx lv st h bc bs a hc hpp k0 hlen ls H locs cells slots hv0 hH hS hbc hbs
  obtain ⟨ins, len, i, hd, hk, rfl⟩ := vlk_ok hm hr hc
  rw [vq_9] at hk
  split at hk
  · obtain ⟨rfl, rfl⟩ := of_decide_eq_true hk
    exact lv_astoreN hx hb hd hv0 (vpo_lt hpp) rfl (fun ls' h' => k0 ((vst_len _ _ _).trans hlen) ls' H locs cells slots (vLv_st1 hv0 hpp rfl h') hH hS hbc hbs)
  · obtain ⟨ha, rfl⟩ := of_decide_eq_true hk
    exact lv_astore_nN hx hb hd ha hv0 (vpo_lt hpp) rfl (fun ls' h' => k0 ((vst_len _ _ _).trans hlen) ls' H locs cells slots (vLv_st1 hv0 hpp rfl h') hH hS hbc hbs)
  · cases hk
theorem sd_lstore (X : vCx p Rm s mid args meth c r m d G lt) : vk_lstore C m R (vSm p l e Rm s mid args below meth c Qf G lt) := by
  obtain ⟨hx, hb, hml, hown, hts, hw, hrt, hnm, hm, hr, hfr, hlo, hsz⟩ := X
  intro pc nx lv st h bc bs a L hc hpp hp2p k0 hlen ls H locs cells slots hv0 hH hS hbc hbs
  obtain ⟨ins, len, i, hd, hk, rfl⟩ := vlk_ok hm hr hc
  have hl2 : a + 1 < lv.length := by
    obtain ⟨u, hu⟩ := Option.isSome_iff_exists.mp hp2p
    exact vgt_lt hu
  rw [vq_8] at hk
  split at hk
  · obtain ⟨rfl, rfl⟩ := of_decide_eq_true hk
    exact lv_lstore hx hb hd hv0 hl2 rfl (fun ls' h' => k0 ((vst_len _ _ _).trans ((vst_len _ _ _).trans hlen)) ls' H locs cells slots (vLv_st2 hv0 hpp hp2p h') hH hS hbc hbs)
  · obtain ⟨ha, rfl⟩ := of_decide_eq_true hk
    exact lv_lstore_n hx hb hd ha hv0 hl2 rfl (fun ls' h' => k0 ((vst_len _ _ _).trans ((vst_len _ _ _).trans hlen)) ls' H locs cells slots (vLv_st2 hv0 hpp hp2p h') hH hS hbc hbs)
  · cases hk
theorem sd_iinc (X : vCx p Rm s mid args meth c r m d G lt) : vk_iinc C m R (vSm p l e Rm s mid args below meth c Qf G lt) := by
  obtain ⟨hx, hb, hml, hown, hts, hw, hrt, hnm, hm, hr, hfr, hlo, hsz⟩ := X
  intro pc nx lv st h bc bs a z x hc hlp hpp k0 hlen ls H locs cells slots hv0 hH hS hbc hbs
  obtain ⟨ins, len, i, hd, hk, rfl⟩ := vlk_ok hm hr hc
  rw [vq_10] at hk
  obtain ⟨rfl, rfl⟩ := of_decide_eq_true hk
  obtain ⟨j, hj⟩ := List.getElem?_of_mem (vas_mem.mpr ⟨hlp, by intro q; cases q⟩)
  exact lv_iinc hx hb hd hv0 hj (iI_add x z) (vpo_lt hpp) rfl (fun ls' h' => k0 ((vst_len _ _ _).trans hlen) ls' H locs cells slots (vLv_st1 hv0 hpp rfl h') hH hS hbc hbs)
theorem sd_iadd (X : vCx p Rm s mid args meth c r m d G lt) : vk_iadd C m R (vSm p l e Rm s mid args below meth c Qf G lt) := by
  obtain ⟨hx, hb, hml, hown, hts, hw, hrt, hnm, hm, hr, hfr, hlo, hsz⟩ := X
  intro pc nx lv st h bc bs x y hc  k0 hlen ls H locs cells slots hv0 hH hS hbc hbs
  obtain ⟨ins, len, i, hd, hk, rfl⟩ := vlk_ok hm hr hc
  rw [vq_11] at hk
  obtain ⟨rfl, rfl⟩ := of_decide_eq_true hk
  refine lv_iadd hx hb hd ?_
  rw [iI_add x y]
  exact k0 hlen ls H locs cells slots hv0 hH hS hbc hbs
theorem sd_isub (X : vCx p Rm s mid args meth c r m d G lt) : vk_isub C m R (vSm p l e Rm s mid args below meth c Qf G lt) := by
  obtain ⟨hx, hb, hml, hown, hts, hw, hrt, hnm, hm, hr, hfr, hlo, hsz⟩ := X
  intro pc nx lv st h bc bs x y hc  k0 hlen ls H locs cells slots hv0 hH hS hbc hbs
  obtain ⟨ins, len, i, hd, hk, rfl⟩ := vlk_ok hm hr hc
  rw [vq_12] at hk
  obtain ⟨rfl, rfl⟩ := of_decide_eq_true hk
  refine lv_isub hx hb hd ?_
  rw [iI_sub x y]
  exact k0 hlen ls H locs cells slots hv0 hH hS hbc hbs
theorem sd_imul (X : vCx p Rm s mid args meth c r m d G lt) : vk_imul C m R (vSm p l e Rm s mid args below meth c Qf G lt) := by
  obtain ⟨hx, hb, hml, hown, hts, hw, hrt, hnm, hm, hr, hfr, hlo, hsz⟩ := X
  intro pc nx lv st h bc bs x y hc  k0 hlen ls H locs cells slots hv0 hH hS hbc hbs
  obtain ⟨ins, len, i, hd, hk, rfl⟩ := vlk_ok hm hr hc
  rw [vq_13] at hk
  obtain ⟨rfl, rfl⟩ := of_decide_eq_true hk
  refine lv_imul hx hb hd ?_
  rw [iI_mul x y]
  exact k0 hlen ls H locs cells slots hv0 hH hS hbc hbs
theorem sd_iand (X : vCx p Rm s mid args meth c r m d G lt) : vk_iand C m R (vSm p l e Rm s mid args below meth c Qf G lt) := by
  obtain ⟨hx, hb, hml, hown, hts, hw, hrt, hnm, hm, hr, hfr, hlo, hsz⟩ := X
  intro pc nx lv st h bc bs x y hc  k0 hlen ls H locs cells slots hv0 hH hS hbc hbs
  obtain ⟨ins, len, i, hd, hk, rfl⟩ := vlk_ok hm hr hc
  rw [vq_17] at hk
  obtain ⟨rfl, rfl⟩ := of_decide_eq_true hk
  refine lv_iand hx hb hd ?_
  have e1 : iI x &&& iI y = iI (vandI x y) := (iI_of _).symm
  rw [e1]
  exact k0 hlen ls H locs cells slots hv0 hH hS hbc hbs
theorem sd_ior (X : vCx p Rm s mid args meth c r m d G lt) : vk_ior C m R (vSm p l e Rm s mid args below meth c Qf G lt) := by
  obtain ⟨hx, hb, hml, hown, hts, hw, hrt, hnm, hm, hr, hfr, hlo, hsz⟩ := X
  intro pc nx lv st h bc bs x y hc  k0 hlen ls H locs cells slots hv0 hH hS hbc hbs
  obtain ⟨ins, len, i, hd, hk, rfl⟩ := vlk_ok hm hr hc
  rw [vq_18] at hk
  obtain ⟨rfl, rfl⟩ := of_decide_eq_true hk
  refine lv_ior hx hb hd ?_
  have e1 : iI x ||| iI y = iI (vorI x y) := (iI_of _).symm
  rw [e1]
  exact k0 hlen ls H locs cells slots hv0 hH hS hbc hbs
theorem sd_ishl (X : vCx p Rm s mid args meth c r m d G lt) : vk_ishl C m R (vSm p l e Rm s mid args below meth c Qf G lt) := by
  obtain ⟨hx, hb, hml, hown, hts, hw, hrt, hnm, hm, hr, hfr, hlo, hsz⟩ := X
  intro pc nx lv st h bc bs x y hc  k0 hlen ls H locs cells slots hv0 hH hS hbc hbs
  obtain ⟨ins, len, i, hd, hk, rfl⟩ := vlk_ok hm hr hc
  rw [vq_19] at hk
  obtain ⟨rfl, rfl⟩ := of_decide_eq_true hk
  refine lv_ishl hx hb hd ?_
  have e1 : iI x <<< (iI y &&& 31) = iI (vshlI x y) := (iI_of _).symm
  rw [e1]
  exact k0 hlen ls H locs cells slots hv0 hH hS hbc hbs
theorem sd_ishr (X : vCx p Rm s mid args meth c r m d G lt) : vk_ishr C m R (vSm p l e Rm s mid args below meth c Qf G lt) := by
  obtain ⟨hx, hb, hml, hown, hts, hw, hrt, hnm, hm, hr, hfr, hlo, hsz⟩ := X
  intro pc nx lv st h bc bs x y hc  k0 hlen ls H locs cells slots hv0 hH hS hbc hbs
  obtain ⟨ins, len, i, hd, hk, rfl⟩ := vlk_ok hm hr hc
  rw [vq_20] at hk
  obtain ⟨rfl, rfl⟩ := of_decide_eq_true hk
  refine lv_ishr hx hb hd ?_
  have e1 : iI x >>> (iI y &&& 31) = iI (vshrI x y) := (iI_of _).symm
  rw [e1]
  exact k0 hlen ls H locs cells slots hv0 hH hS hbc hbs
theorem sd_iushr (X : vCx p Rm s mid args meth c r m d G lt) : vk_iushr C m R (vSm p l e Rm s mid args below meth c Qf G lt) := by
  obtain ⟨hx, hb, hml, hown, hts, hw, hrt, hnm, hm, hr, hfr, hlo, hsz⟩ := X
  intro pc nx lv st h bc bs x y hc  k0 hlen ls H locs cells slots hv0 hH hS hbc hbs
  obtain ⟨ins, len, i, hd, hk, rfl⟩ := vlk_ok hm hr hc
  rw [vq_21] at hk
  obtain ⟨rfl, rfl⟩ := of_decide_eq_true hk
  exact lv_iushr hx hb hd (v := iI (vushrI x y)) (iI_of _).symm (k0 hlen ls H locs cells slots hv0 hH hS hbc hbs)
theorem sd_ineg (X : vCx p Rm s mid args meth c r m d G lt) : vk_ineg C m R (vSm p l e Rm s mid args below meth c Qf G lt) := by
  obtain ⟨hx, hb, hml, hown, hts, hw, hrt, hnm, hm, hr, hfr, hlo, hsz⟩ := X
  intro pc nx lv st h bc bs x hc  k0 hlen ls H locs cells slots hv0 hH hS hbc hbs
  obtain ⟨ins, len, i, hd, hk, rfl⟩ := vlk_ok hm hr hc
  rw [vq_16] at hk
  obtain ⟨rfl, rfl⟩ := of_decide_eq_true hk
  refine lv_ineg hx hb hd ?_
  rw [iI_neg]
  exact k0 hlen ls H locs cells slots hv0 hH hS hbc hbs
theorem sd_idiv (X : vCx p Rm s mid args meth c r m d G lt) : vk_idiv C m R (vSm p l e Rm s mid args below meth c Qf G lt) := by
  obtain ⟨hx, hb, hml, hown, hts, hw, hrt, hnm, hm, hr, hfr, hlo, hsz⟩ := X
  intro pc nx lv st h bc bs x y hc h1p h2p h3p h4p k0 hlen ls H locs cells slots hv0 hH hS hbc hbs
  obtain ⟨ins, len, i, hd, hk, rfl⟩ := vlk_ok hm hr hc
  rw [vq_14] at hk
  obtain ⟨rfl, rfl⟩ := of_decide_eq_true hk
  refine lv_idiv hx hb hd (fun q => by rw [iI_eq0 (by omega) h4p] at q; omega) ?_
  rw [iI_div h1p h2p h3p h4p]
  exact k0 hlen ls H locs cells slots hv0 hH hS hbc hbs
theorem sd_irem (X : vCx p Rm s mid args meth c r m d G lt) : vk_irem C m R (vSm p l e Rm s mid args below meth c Qf G lt) := by
  obtain ⟨hx, hb, hml, hown, hts, hw, hrt, hnm, hm, hr, hfr, hlo, hsz⟩ := X
  intro pc nx lv st h bc bs x y hc h1p h2p h3p h4p k0 hlen ls H locs cells slots hv0 hH hS hbc hbs
  obtain ⟨ins, len, i, hd, hk, rfl⟩ := vlk_ok hm hr hc
  rw [vq_15] at hk
  obtain ⟨rfl, rfl⟩ := of_decide_eq_true hk
  refine lv_irem hx hb hd (fun q => by rw [iI_eq0 (by omega) h4p] at q; omega) ?_
  rw [iI_rem h1p h2p h3p h4p]
  exact k0 hlen ls H locs cells slots hv0 hH hS hbc hbs
theorem sd_ladd (X : vCx p Rm s mid args meth c r m d G lt) : vk_ladd C m R (vSm p l e Rm s mid args below meth c Qf G lt) := by
  obtain ⟨hx, hb, hml, hown, hts, hw, hrt, hnm, hm, hr, hfr, hlo, hsz⟩ := X
  intro pc nx lv st h bc bs x y hc  k0 hlen ls H locs cells slots hv0 hH hS hbc hbs
  obtain ⟨ins, len, i, hd, hk, rfl⟩ := vlk_ok hm hr hc
  rw [vq_22] at hk
  obtain ⟨rfl, rfl⟩ := of_decide_eq_true hk
  refine lv_ladd hx hb hd ?_
  rw [lZ_add x y]
  exact k0 hlen ls H locs cells slots hv0 hH hS hbc hbs
theorem sd_lsub (X : vCx p Rm s mid args meth c r m d G lt) : vk_lsub C m R (vSm p l e Rm s mid args below meth c Qf G lt) := by
  obtain ⟨hx, hb, hml, hown, hts, hw, hrt, hnm, hm, hr, hfr, hlo, hsz⟩ := X
  intro pc nx lv st h bc bs x y hc  k0 hlen ls H locs cells slots hv0 hH hS hbc hbs
  obtain ⟨ins, len, i, hd, hk, rfl⟩ := vlk_ok hm hr hc
  rw [vq_23] at hk
  obtain ⟨rfl, rfl⟩ := of_decide_eq_true hk
  refine lv_lsub hx hb hd ?_
  rw [lZ_sub x y]
  exact k0 hlen ls H locs cells slots hv0 hH hS hbc hbs
theorem sd_lmul (X : vCx p Rm s mid args meth c r m d G lt) : vk_lmul C m R (vSm p l e Rm s mid args below meth c Qf G lt) := by
  obtain ⟨hx, hb, hml, hown, hts, hw, hrt, hnm, hm, hr, hfr, hlo, hsz⟩ := X
  intro pc nx lv st h bc bs x y hc  k0 hlen ls H locs cells slots hv0 hH hS hbc hbs
  obtain ⟨ins, len, i, hd, hk, rfl⟩ := vlk_ok hm hr hc
  rw [vq_24] at hk
  obtain ⟨rfl, rfl⟩ := of_decide_eq_true hk
  refine lv_lmul hx hb hd ?_
  rw [lZ_mul x y]
  exact k0 hlen ls H locs cells slots hv0 hH hS hbc hbs
theorem sd_land (X : vCx p Rm s mid args meth c r m d G lt) : vk_land C m R (vSm p l e Rm s mid args below meth c Qf G lt) := by
  obtain ⟨hx, hb, hml, hown, hts, hw, hrt, hnm, hm, hr, hfr, hlo, hsz⟩ := X
  intro pc nx lv st h bc bs x y hc  k0 hlen ls H locs cells slots hv0 hH hS hbc hbs
  obtain ⟨ins, len, i, hd, hk, rfl⟩ := vlk_ok hm hr hc
  rw [vq_25] at hk
  obtain ⟨rfl, rfl⟩ := of_decide_eq_true hk
  refine lv_land hx hb hd ?_
  have e1 : lZ x &&& lZ y = lZ (vandL x y) := (lZ_of _).symm
  rw [e1]
  exact k0 hlen ls H locs cells slots hv0 hH hS hbc hbs
theorem sd_lor (X : vCx p Rm s mid args meth c r m d G lt) : vk_lor C m R (vSm p l e Rm s mid args below meth c Qf G lt) := by
  obtain ⟨hx, hb, hml, hown, hts, hw, hrt, hnm, hm, hr, hfr, hlo, hsz⟩ := X
  intro pc nx lv st h bc bs x y hc  k0 hlen ls H locs cells slots hv0 hH hS hbc hbs
  obtain ⟨ins, len, i, hd, hk, rfl⟩ := vlk_ok hm hr hc
  rw [vq_26] at hk
  obtain ⟨rfl, rfl⟩ := of_decide_eq_true hk
  refine lv_lor hx hb hd ?_
  have e1 : lZ x ||| lZ y = lZ (vorL x y) := (lZ_of _).symm
  rw [e1]
  exact k0 hlen ls H locs cells slots hv0 hH hS hbc hbs
theorem sd_lxor (X : vCx p Rm s mid args meth c r m d G lt) : vk_lxor C m R (vSm p l e Rm s mid args below meth c Qf G lt) := by
  obtain ⟨hx, hb, hml, hown, hts, hw, hrt, hnm, hm, hr, hfr, hlo, hsz⟩ := X
  intro pc nx lv st h bc bs x y hc  k0 hlen ls H locs cells slots hv0 hH hS hbc hbs
  obtain ⟨ins, len, i, hd, hk, rfl⟩ := vlk_ok hm hr hc
  rw [vq_27] at hk
  obtain ⟨rfl, rfl⟩ := of_decide_eq_true hk
  refine lv_lxor hx hb hd ?_
  have e1 : lZ x ^^^ lZ y = lZ (vxorL x y) := (lZ_of _).symm
  rw [e1]
  exact k0 hlen ls H locs cells slots hv0 hH hS hbc hbs
theorem sd_lshl (X : vCx p Rm s mid args meth c r m d G lt) : vk_lshl C m R (vSm p l e Rm s mid args below meth c Qf G lt) := by
  obtain ⟨hx, hb, hml, hown, hts, hw, hrt, hnm, hm, hr, hfr, hlo, hsz⟩ := X
  intro pc nx lv st h bc bs x y hc  k0 hlen ls H locs cells slots hv0 hH hS hbc hbs
  obtain ⟨ins, len, i, hd, hk, rfl⟩ := vlk_ok hm hr hc
  rw [vq_28] at hk
  obtain ⟨rfl, rfl⟩ := of_decide_eq_true hk
  exact lv_lshl hx hb hd (v := lZ (vshlL x y)) (lZ_of _).symm (k0 hlen ls H locs cells slots hv0 hH hS hbc hbs)
theorem sd_lshr (X : vCx p Rm s mid args meth c r m d G lt) : vk_lshr C m R (vSm p l e Rm s mid args below meth c Qf G lt) := by
  obtain ⟨hx, hb, hml, hown, hts, hw, hrt, hnm, hm, hr, hfr, hlo, hsz⟩ := X
  intro pc nx lv st h bc bs x y hc  k0 hlen ls H locs cells slots hv0 hH hS hbc hbs
  obtain ⟨ins, len, i, hd, hk, rfl⟩ := vlk_ok hm hr hc
  rw [vq_29] at hk
  obtain ⟨rfl, rfl⟩ := of_decide_eq_true hk
  exact lv_lshr hx hb hd (v := lZ (vshrL x y)) (lZ_of _).symm (k0 hlen ls H locs cells slots hv0 hH hS hbc hbs)
theorem sd_lushr (X : vCx p Rm s mid args meth c r m d G lt) : vk_lushr C m R (vSm p l e Rm s mid args below meth c Qf G lt) := by
  obtain ⟨hx, hb, hml, hown, hts, hw, hrt, hnm, hm, hr, hfr, hlo, hsz⟩ := X
  intro pc nx lv st h bc bs x y hc  k0 hlen ls H locs cells slots hv0 hH hS hbc hbs
  obtain ⟨ins, len, i, hd, hk, rfl⟩ := vlk_ok hm hr hc
  rw [vq_30] at hk
  obtain ⟨rfl, rfl⟩ := of_decide_eq_true hk
  exact lv_lushr hx hb hd (v := lZ (vushrL x y)) (lZ_of _).symm (k0 hlen ls H locs cells slots hv0 hH hS hbc hbs)
theorem sd_lcmp (X : vCx p Rm s mid args meth c r m d G lt) : vk_lcmp C m R (vSm p l e Rm s mid args below meth c Qf G lt) := by
  obtain ⟨hx, hb, hml, hown, hts, hw, hrt, hnm, hm, hr, hfr, hlo, hsz⟩ := X
  intro pc nx lv st h bc bs x y hc h1p h2p h3p h4p k0 hlen ls H locs cells slots hv0 hH hS hbc hbs
  obtain ⟨ins, len, i, hd, hk, rfl⟩ := vlk_ok hm hr hc
  rw [vq_31] at hk
  obtain ⟨rfl, rfl⟩ := of_decide_eq_true hk
  refine W.lcmp hx hb hd ?_
  rw [lZ_cmp h1p h2p h3p h4p]
  exact k0 hlen ls H locs cells slots hv0 hH hS hbc hbs
theorem sd_i2l (X : vCx p Rm s mid args meth c r m d G lt) : vk_i2l C m R (vSm p l e Rm s mid args below meth c Qf G lt) := by
  obtain ⟨hx, hb, hml, hown, hts, hw, hrt, hnm, hm, hr, hfr, hlo, hsz⟩ := X
  intro pc nx lv st h bc bs x hc h1p h2p k0 hlen ls H locs cells slots hv0 hH hS hbc hbs
  obtain ⟨ins, len, i, hd, hk, rfl⟩ := vlk_ok hm hr hc
  rw [vq_32] at hk
  obtain ⟨rfl, rfl⟩ := of_decide_eq_true hk
  exact lv_i2l hx hb hd (iI_l h1p h2p) (k0 hlen ls H locs cells slots hv0 hH hS hbc hbs)
theorem sd_l2i (X : vCx p Rm s mid args meth c r m d G lt) : vk_l2i C m R (vSm p l e Rm s mid args below meth c Qf G lt) := by
  obtain ⟨hx, hb, hml, hown, hts, hw, hrt, hnm, hm, hr, hfr, hlo, hsz⟩ := X
  intro pc nx lv st h bc bs x hc  k0 hlen ls H locs cells slots hv0 hH hS hbc hbs
  obtain ⟨ins, len, i, hd, hk, rfl⟩ := vlk_ok hm hr hc
  rw [vq_33] at hk
  obtain ⟨rfl, rfl⟩ := of_decide_eq_true hk
  exact lv_l2i hx hb hd (lZ_i x) (k0 hlen ls H locs cells slots hv0 hH hS hbc hbs)
theorem sd_dup (X : vCx p Rm s mid args meth c r m d G lt) : vk_dup C m R (vSm p l e Rm s mid args below meth c Qf G lt) := by
  obtain ⟨hx, hb, hml, hown, hts, hw, hrt, hnm, hm, hr, hfr, hlo, hsz⟩ := X
  intro pc nx lv st h bc bs v hc hvp k0 hlen ls H locs cells slots hv0 hH hS hbc hbs
  obtain ⟨ins, len, i, hd, hk, rfl⟩ := vlk_ok hm hr hc
  rw [vq_34] at hk
  obtain ⟨rfl, rfl⟩ := of_decide_eq_true hk
  exact lv_dup hx hb hd hvp (k0 hlen ls H locs cells slots hv0 hH hS hbc hbs)
theorem sd_dup2 (X : vCx p Rm s mid args meth c r m d G lt) : vk_dup2 C m R (vSm p l e Rm s mid args below meth c Qf G lt) := by
  obtain ⟨hx, hb, hml, hown, hts, hw, hrt, hnm, hm, hr, hfr, hlo, hsz⟩ := X
  intro pc nx lv st h bc bs v u hc hvp hup k0 hlen ls H locs cells slots hv0 hH hS hbc hbs
  obtain ⟨ins, len, i, hd, hk, rfl⟩ := vlk_ok hm hr hc
  rw [vq_35] at hk
  obtain ⟨rfl, rfl⟩ := of_decide_eq_true hk
  exact lv_dup2_11 hx hb hd hvp hup (k0 hlen ls H locs cells slots hv0 hH hS hbc hbs)
theorem sd_pop (X : vCx p Rm s mid args meth c r m d G lt) : vk_pop C m R (vSm p l e Rm s mid args below meth c Qf G lt) := by
  obtain ⟨hx, hb, hml, hown, hts, hw, hrt, hnm, hm, hr, hfr, hlo, hsz⟩ := X
  intro pc nx lv st h bc bs v hc hvp k0 hlen ls H locs cells slots hv0 hH hS hbc hbs
  obtain ⟨ins, len, i, hd, hk, rfl⟩ := vlk_ok hm hr hc
  rw [vq_36] at hk
  obtain ⟨rfl, rfl⟩ := of_decide_eq_true hk
  exact lv_pop hx hb hd hvp (k0 hlen ls H locs cells slots hv0 hH hS hbc hbs)
theorem sd_goto (X : vCx p Rm s mid args meth c r m d G lt) : vk_goto C m R (vSm p l e Rm s mid args below meth c Qf G lt) := by
  obtain ⟨hx, hb, hml, hown, hts, hw, hrt, hnm, hm, hr, hfr, hlo, hsz⟩ := X
  intro pc nx lv st h bc bs a hc  k0 hlen ls H locs cells slots hv0 hH hS hbc hbs
  obtain ⟨ins, len, i, hd, hk, rfl⟩ := vlk_ok hm hr hc
  rw [vq_37] at hk
  split at hk
  · obtain ⟨ha, rfl⟩ := of_decide_eq_true hk
    exact lv_goto hx hb hd ha (k0 hlen ls H locs cells slots hv0 hH hS hbc hbs)
  · cases hk
theorem sd_ifnullR (X : vCx p Rm s mid args meth c r m d G lt) : vk_ifnullR C m R (vSm p l e Rm s mid args below meth c Qf G lt) := by
  obtain ⟨hx, hb, hml, hown, hts, hw, hrt, hnm, hm, hr, hfr, hlo, hsz⟩ := X
  intro pc nx lv st h bc bs a r hc  k0 hlen ls H locs cells slots hv0 hH hS hbc hbs
  obtain ⟨ins, len, i, hd, hk, rfl⟩ := vlk_ok hm hr hc
  rw [vq_40] at hk
  split at hk
  · obtain ⟨ha, rfl⟩ := of_decide_eq_true hk
    exact lv_ifnull hx hb hd (k0 hlen ls H locs cells slots hv0 hH hS hbc hbs)
  · cases hk
theorem sd_ifnullN (X : vCx p Rm s mid args meth c r m d G lt) : vk_ifnullN C m R (vSm p l e Rm s mid args below meth c Qf G lt) := by
  obtain ⟨hx, hb, hml, hown, hts, hw, hrt, hnm, hm, hr, hfr, hlo, hsz⟩ := X
  intro pc nx lv st h bc bs a hc  k0 hlen ls H locs cells slots hv0 hH hS hbc hbs
  obtain ⟨ins, len, i, hd, hk, rfl⟩ := vlk_ok hm hr hc
  rw [vq_40] at hk
  split at hk
  · obtain ⟨ha, rfl⟩ := of_decide_eq_true hk
    exact lv_ifnullN hx hb hd ha (k0 hlen ls H locs cells slots hv0 hH hS hbc hbs)
  · cases hk
theorem sd_ifnonR (X : vCx p Rm s mid args meth c r m d G lt) : vk_ifnonR C m R (vSm p l e Rm s mid args below meth c Qf G lt) := by
  obtain ⟨hx, hb, hml, hown, hts, hw, hrt, hnm, hm, hr, hfr, hlo, hsz⟩ := X
  intro pc nx lv st h bc bs a r hc  k0 hlen ls H locs cells slots hv0 hH hS hbc hbs
  obtain ⟨ins, len, i, hd, hk, rfl⟩ := vlk_ok hm hr hc
  rw [vq_41] at hk
  split at hk
  · obtain ⟨ha, rfl⟩ := of_decide_eq_true hk
    exact lv_ifnonnull hx hb hd ha (k0 hlen ls H locs cells slots hv0 hH hS hbc hbs)
  · cases hk
theorem sd_ifnonN (X : vCx p Rm s mid args meth c r m d G lt) : vk_ifnonN C m R (vSm p l e Rm s mid args below meth c Qf G lt) := by
  obtain ⟨hx, hb, hml, hown, hts, hw, hrt, hnm, hm, hr, hfr, hlo, hsz⟩ := X
  intro pc nx lv st h bc bs a hc  k0 hlen ls H locs cells slots hv0 hH hS hbc hbs
  obtain ⟨ins, len, i, hd, hk, rfl⟩ := vlk_ok hm hr hc
  rw [vq_41] at hk
  split at hk
  · obtain ⟨ha, rfl⟩ := of_decide_eq_true hk
    exact lv_ifnonnullN hx hb hd (k0 hlen ls H locs cells slots hv0 hH hS hbc hbs)
  · cases hk
theorem sd_ifeq (X : vCx p Rm s mid args meth c r m d G lt) : vk_ifeq C m R (vSm p l e Rm s mid args below meth c Qf G lt) := by
  obtain ⟨hx, hb, hml, hown, hts, hw, hrt, hnm, hm, hr, hfr, hlo, hsz⟩ := X
  intro pc nx lv st h bc bs a x hc h1p h2p k0 k1 hlen ls H locs cells slots hv0 hH hS hbc hbs
  obtain ⟨ins, len, i, hd, hk, rfl⟩ := vlk_ok hm hr hc
  rw [vq_70] at hk
  split at hk
  · obtain ⟨ha, rfl⟩ := of_decide_eq_true hk
    exact lv_if_eq hx hb hd ha (fun q => k0 ((iI_eq0 h1p h2p).mp q) hlen ls H locs cells slots hv0 hH hS hbc hbs) (fun q => k1 (id fun z => q ((iI_eq0 h1p h2p).mpr z)) hlen ls H locs cells slots hv0 hH hS hbc hbs)
  · cases hk
theorem sd_ifne (X : vCx p Rm s mid args meth c r m d G lt) : vk_ifne C m R (vSm p l e Rm s mid args below meth c Qf G lt) := by
  obtain ⟨hx, hb, hml, hown, hts, hw, hrt, hnm, hm, hr, hfr, hlo, hsz⟩ := X
  intro pc nx lv st h bc bs a x hc h1p h2p k0 k1 hlen ls H locs cells slots hv0 hH hS hbc hbs
  obtain ⟨ins, len, i, hd, hk, rfl⟩ := vlk_ok hm hr hc
  rw [vq_71] at hk
  split at hk
  · obtain ⟨ha, rfl⟩ := of_decide_eq_true hk
    exact lv_if_ne hx hb hd ha (fun q => k0 (fun z => q ((iI_eq0 h1p h2p).mpr z)) hlen ls H locs cells slots hv0 hH hS hbc hbs) (fun q => k1 ((iI_eq0 h1p h2p).mp q) hlen ls H locs cells slots hv0 hH hS hbc hbs)
  · cases hk
theorem sd_iflt (X : vCx p Rm s mid args meth c r m d G lt) : vk_iflt C m R (vSm p l e Rm s mid args below meth c Qf G lt) := by
  obtain ⟨hx, hb, hml, hown, hts, hw, hrt, hnm, hm, hr, hfr, hlo, hsz⟩ := X
  intro pc nx lv st h bc bs a x hc h1p h2p k0 k1 hlen ls H locs cells slots hv0 hH hS hbc hbs
  obtain ⟨ins, len, i, hd, hk, rfl⟩ := vlk_ok hm hr hc
  rw [vq_72] at hk
  split at hk
  · obtain ⟨ha, rfl⟩ := of_decide_eq_true hk
    exact lv_if_lt hx hb hd ha (fun q => k0 ((iI_lt0 h1p h2p).mp q) hlen ls H locs cells slots hv0 hH hS hbc hbs) (fun q => k1 (Int.not_lt.mp fun z => q ((iI_lt0 h1p h2p).mpr z)) hlen ls H locs cells slots hv0 hH hS hbc hbs)
  · cases hk
theorem sd_ifge (X : vCx p Rm s mid args meth c r m d G lt) : vk_ifge C m R (vSm p l e Rm s mid args below meth c Qf G lt) := by
  obtain ⟨hx, hb, hml, hown, hts, hw, hrt, hnm, hm, hr, hfr, hlo, hsz⟩ := X
  intro pc nx lv st h bc bs a x hc h1p h2p k0 k1 hlen ls H locs cells slots hv0 hH hS hbc hbs
  obtain ⟨ins, len, i, hd, hk, rfl⟩ := vlk_ok hm hr hc
  rw [vq_73] at hk
  split at hk
  · obtain ⟨ha, rfl⟩ := of_decide_eq_true hk
    exact lv_if_ge hx hb hd ha (fun q => k0 ((iI_ge0 h1p h2p).mp q) hlen ls H locs cells slots hv0 hH hS hbc hbs) (fun q => k1 (Int.not_le.mp fun z => q ((iI_ge0 h1p h2p).mpr z)) hlen ls H locs cells slots hv0 hH hS hbc hbs)
  · cases hk
theorem sd_ifgt (X : vCx p Rm s mid args meth c r m d G lt) : vk_ifgt C m R (vSm p l e Rm s mid args below meth c Qf G lt) := by
  obtain ⟨hx, hb, hml, hown, hts, hw, hrt, hnm, hm, hr, hfr, hlo, hsz⟩ := X
  intro pc nx lv st h bc bs a x hc h1p h2p k0 k1 hlen ls H locs cells slots hv0 hH hS hbc hbs
  obtain ⟨ins, len, i, hd, hk, rfl⟩ := vlk_ok hm hr hc
  rw [vq_74] at hk
  split at hk
  · obtain ⟨ha, rfl⟩ := of_decide_eq_true hk
    exact lv_if_gt hx hb hd ha (fun q => k0 ((iI_gt0 h1p h2p).mp q) hlen ls H locs cells slots hv0 hH hS hbc hbs) (fun q => k1 (Int.not_lt.mp fun z => q ((iI_gt0 h1p h2p).mpr z)) hlen ls H locs cells slots hv0 hH hS hbc hbs)
  · cases hk
theorem sd_ifle (X : vCx p Rm s mid args meth c r m d G lt) : vk_ifle C m R (vSm p l e Rm s mid args below meth c Qf G lt) := by
  obtain ⟨hx, hb, hml, hown, hts, hw, hrt, hnm, hm, hr, hfr, hlo, hsz⟩ := X
  intro pc nx lv st h bc bs a x hc h1p h2p k0 k1 hlen ls H locs cells slots hv0 hH hS hbc hbs
  obtain ⟨ins, len, i, hd, hk, rfl⟩ := vlk_ok hm hr hc
  rw [vq_75] at hk
  split at hk
  · obtain ⟨ha, rfl⟩ := of_decide_eq_true hk
    exact lv_if_le hx hb hd ha (fun q => k0 ((iI_le0 h1p h2p).mp q) hlen ls H locs cells slots hv0 hH hS hbc hbs) (fun q => k1 (Int.not_le.mp fun z => q ((iI_le0 h1p h2p).mpr z)) hlen ls H locs cells slots hv0 hH hS hbc hbs)
  · cases hk
theorem sd_iceq (X : vCx p Rm s mid args meth c r m d G lt) : vk_iceq C m R (vSm p l e Rm s mid args below meth c Qf G lt) := by
  obtain ⟨hx, hb, hml, hown, hts, hw, hrt, hnm, hm, hr, hfr, hlo, hsz⟩ := X
  intro pc nx lv st h bc bs a x y hc h1p h2p h3p h4p k0 k1 hlen ls H locs cells slots hv0 hH hS hbc hbs
  obtain ⟨ins, len, i, hd, hk, rfl⟩ := vlk_ok hm hr hc
  rw [vq_76] at hk
  split at hk
  · obtain ⟨ha, rfl⟩ := of_decide_eq_true hk
    exact lv_icmp_eq hx hb hd ha (fun q => k0 ((iI_eq h1p h2p h3p h4p).mp q) hlen ls H locs cells slots hv0 hH hS hbc hbs) (fun q => k1 (id fun z => q ((iI_eq h1p h2p h3p h4p).mpr z)) hlen ls H locs cells slots hv0 hH hS hbc hbs)
  · cases hk
theorem sd_icne (X : vCx p Rm s mid args meth c r m d G lt) : vk_icne C m R (vSm p l e Rm s mid args below meth c Qf G lt) := by
  obtain ⟨hx, hb, hml, hown, hts, hw, hrt, hnm, hm, hr, hfr, hlo, hsz⟩ := X
  intro pc nx lv st h bc bs a x y hc h1p h2p h3p h4p k0 k1 hlen ls H locs cells slots hv0 hH hS hbc hbs
  obtain ⟨ins, len, i, hd, hk, rfl⟩ := vlk_ok hm hr hc
  rw [vq_77] at hk
  split at hk
  · obtain ⟨ha, rfl⟩ := of_decide_eq_true hk
    exact lv_icmp_ne hx hb hd ha (fun q => k0 (fun z => q ((iI_eq h1p h2p h3p h4p).mpr z)) hlen ls H locs cells slots hv0 hH hS hbc hbs) (fun q => k1 ((iI_eq h1p h2p h3p h4p).mp q) hlen ls H locs cells slots hv0 hH hS hbc hbs)
  · cases hk
theorem sd_iclt (X : vCx p Rm s mid args meth c r m d G lt) : vk_iclt C m R (vSm p l e Rm s mid args below meth c Qf G lt) := by
  obtain ⟨hx, hb, hml, hown, hts, hw, hrt, hnm, hm, hr, hfr, hlo, hsz⟩ := X
  intro pc nx lv st h bc bs a x y hc h1p h2p h3p h4p k0 k1 hlen ls H locs cells slots hv0 hH hS hbc hbs
  obtain ⟨ins, len, i, hd, hk, rfl⟩ := vlk_ok hm hr hc
  rw [vq_78] at hk
  split at hk
  · obtain ⟨ha, rfl⟩ := of_decide_eq_true hk
    exact lv_icmp_lt hx hb hd ha (fun q => k0 ((iI_lt h1p h2p h3p h4p).mp q) hlen ls H locs cells slots hv0 hH hS hbc hbs) (fun q => k1 (Int.not_lt.mp fun z => q ((iI_lt h1p h2p h3p h4p).mpr z)) hlen ls H locs cells slots hv0 hH hS hbc hbs)
  · cases hk
theorem sd_icge (X : vCx p Rm s mid args meth c r m d G lt) : vk_icge C m R (vSm p l e Rm s mid args below meth c Qf G lt) := by
  obtain ⟨hx, hb, hml, hown, hts, hw, hrt, hnm, hm, hr, hfr, hlo, hsz⟩ := X
  intro pc nx lv st h bc bs a x y hc h1p h2p h3p h4p k0 k1 hlen ls H locs cells slots hv0 hH hS hbc hbs
  obtain ⟨ins, len, i, hd, hk, rfl⟩ := vlk_ok hm hr hc
  rw [vq_79] at hk
  split at hk
  · obtain ⟨ha, rfl⟩ := of_decide_eq_true hk
    exact lv_icmp_ge hx hb hd ha (fun q => k0 ((iI_le h3p h4p h1p h2p).mp q) hlen ls H locs cells slots hv0 hH hS hbc hbs) (fun q => k1 (Int.not_le.mp fun z => q ((iI_le h3p h4p h1p h2p).mpr z)) hlen ls H locs cells slots hv0 hH hS hbc hbs)
  · cases hk
theorem sd_icgt (X : vCx p Rm s mid args meth c r m d G lt) : vk_icgt C m R (vSm p l e Rm s mid args below meth c Qf G lt) := by
  obtain ⟨hx, hb, hml, hown, hts, hw, hrt, hnm, hm, hr, hfr, hlo, hsz⟩ := X
  intro pc nx lv st h bc bs a x y hc h1p h2p h3p h4p k0 k1 hlen ls H locs cells slots hv0 hH hS hbc hbs
  obtain ⟨ins, len, i, hd, hk, rfl⟩ := vlk_ok hm hr hc
  rw [vq_80] at hk
  split at hk
  · obtain ⟨ha, rfl⟩ := of_decide_eq_true hk
    exact lv_icmp_gt hx hb hd ha (fun q => k0 ((iI_lt h3p h4p h1p h2p).mp q) hlen ls H locs cells slots hv0 hH hS hbc hbs) (fun q => k1 (Int.not_lt.mp fun z => q ((iI_lt h3p h4p h1p h2p).mpr z)) hlen ls H locs cells slots hv0 hH hS hbc hbs)
  · cases hk
theorem sd_icle (X : vCx p Rm s mid args meth c r m d G lt) : vk_icle C m R (vSm p l e Rm s mid args below meth c Qf G lt) := by
  obtain ⟨hx, hb, hml, hown, hts, hw, hrt, hnm, hm, hr, hfr, hlo, hsz⟩ := X
  intro pc nx lv st h bc bs a x y hc h1p h2p h3p h4p k0 k1 hlen ls H locs cells slots hv0 hH hS hbc hbs
  obtain ⟨ins, len, i, hd, hk, rfl⟩ := vlk_ok hm hr hc
  rw [vq_81] at hk
  split at hk
  · obtain ⟨ha, rfl⟩ := of_decide_eq_true hk
    exact lv_icmp_le hx hb hd ha (fun q => k0 ((iI_le h1p h2p h3p h4p).mp q) hlen ls H locs cells slots hv0 hH hS hbc hbs) (fun q => k1 (Int.not_le.mp fun z => q ((iI_le h1p h2p h3p h4p).mpr z)) hlen ls H locs cells slots hv0 hH hS hbc hbs)
  · cases hk
theorem vsp_in : ∀ (pc : Nat) (lo : Int) (offs : List Int) (d : Nat) (x : Int), (offs.all fun o => decide (0 ≤ (pc : Int) + o)) = true → lo ≤ x → x < lo + offs.length → ∃ off, offs[(x - lo).toNat]? = some off ∧ (pc : Int) + off = (vfd (vsp pc lo offs) d x : Int)
  | pc, lo, [], d, x, _, h1, h2 => by simp at h2; omega
  | pc, lo, o :: l, d, x, h, h1, h2 => by
    simp only [List.all_cons, Bool.and_eq_true, decide_eq_true_eq] at h
    by_cases e : x = lo
    · subst e
      refine ⟨o, by simp, ?_⟩
      show _ = ((if x = x then ((pc : Int) + o).toNat else _ : Nat) : Int)
      rw [if_pos rfl]; omega
    · obtain ⟨off, g1, g2⟩ := vsp_in pc (lo + 1) l d x h.2 (by omega) (by simp at h2; omega)
      refine ⟨off, ?_, ?_⟩
      · rw [show (x - lo).toNat = (x - (lo + 1)).toNat + 1 by omega]
        simpa using g1
      · show _ = ((if x = lo then _ else vfd (vsp pc (lo + 1) l) d x : Nat) : Int)
        rw [if_neg e]; exact g2
theorem vsp_out : ∀ (pc : Nat) (lo : Int) (offs : List Int) (d : Nat) (x : Int), (x < lo ∨ lo + offs.length ≤ x) → vfd (vsp pc lo offs) d x = d
  | _, _, [], _, _, _ => rfl
  | pc, lo, o :: l, d, x, h => by
    show (if x = lo then _ else vfd (vsp pc (lo + 1) l) d x) = d
    rw [if_neg (by simp at h; omega)]
    exact vsp_out pc (lo + 1) l d x (by simp at h; omega)
theorem vps_of : ∀ (pc : Nat) (ps : List (Int × Int)) (d : Nat) (dd : Int) (x : Int), (ps.all fun o => decide (0 ≤ (pc : Int) + o.2)) = true → (pc : Int) + dd = (d : Int) → (pc : Int) + Op.lookupswitch.offset ps dd x = (vfd (vps pc ps) d x : Int)
  | pc, [], d, dd, x, _, hd => by simpa [vps, vfd, Op.lookupswitch.offset] using hd
  | pc, (k, o) :: l, d, dd, x, h, hd => by
    simp only [List.all_cons, Bool.and_eq_true, decide_eq_true_eq] at h
    rw [Op.lookupswitch.offset_cons]
    show _ = ((if x = k then ((pc : Int) + o).toNat else vfd (vps pc l) d x : Nat) : Int)
    by_cases e : x = k
    · rw [if_pos e, if_pos e.symm]; omega
    · rw [if_neg e, if_neg (fun q => e q.symm)]
      exact vps_of pc l d dd x h.2 hd
theorem sd_sw (X : vCx p Rm s mid args meth c r m d G lt) : vk_sw C m R (vSm p l e Rm s mid args below meth c Qf G lt) := by
  obtain ⟨hx, hb, hml, hown, hts, hw, hrt, hnm, hm, hr, hfr, hlo, hsz⟩ := X
  intro pc nx lv st h bc bs a b x ps d hc hsp h1p h2p k0 hlen ls H locs cells slots hv0 hH hS hbc hbs
  obtain ⟨ins, len, i, hd, hk, rfl⟩ := vlk_ok hm hr hc
  rw [vq_67, hsp] at hk
  have e1 := iI_toInt h1p h2p
  simp only at hk
  split at hk
  · rename_i dd lo hi offs
    obtain ⟨q1, q2, q3, q4⟩ := of_decide_eq_true hk
    by_cases hin : lo ≤ x ∧ x < lo + offs.toList.length
    · obtain ⟨off, g1, g2⟩ := vsp_in pc lo offs.toList d x q4 hin.1 hin.2
      rw [← q1] at g2
      exact lv_tableIn hx hb hd (by rw [e1]; omega) (by rw [e1]; omega) (by rw [e1]; simpa using g1) g2 (k0 hlen ls H locs cells slots hv0 hH hS hbc hbs)
    · have g := vsp_out pc lo offs.toList d x (by omega)
      rw [← q1] at g
      rw [g] at k0
      exact lv_tableOut hx hb hd (by rw [e1]; omega) q2 (k0 hlen ls H locs cells slots hv0 hH hS hbc hbs)
  · rename_i dd qs
    obtain ⟨q1, q2, q3, q4⟩ := of_decide_eq_true hk
    have g := vps_of pc qs.toList d dd x q3 q2
    rw [← q1] at g
    exact lv_lookup hx hb hd q4 (by rw [e1]) g (k0 hlen ls H locs cells slots hv0 hH hS hbc hbs)
  · cases hk
end SD1
