
def iI (z : Int) : Int32 := Int32.ofInt z
def lZ (z : Int) : Int64 := Int64.ofInt z
/-- element class of a kind of row -/
def vec : Nat → String
  | 3 => "RecurringDays$Plan"
  | 4 => "RecurringDays$Days"
  | _ => "RecurringDays$Row"
def vaty : Nat → FieldType
  | 0 => .int
  | 1 => .long
  | _ => .boolean
def vtyx : Nat → Nat → FieldType
  | 0 => tyX0
  | 1 => tyX1
  | 2 => tyX2
  | 3 => tyX3
  | 4 => tyX4
  | 5 => tyX5
  | _ => tyX6
def vat (i : Nat) : Option Jvm.Cond := lw_tbl[i]?
def vis (i : Nat) (w : Jvm.Cond) : Bool := decide (vat i = some w)
def vckm (a : Nat) (f : vNr → Bool) : Bool := match vN[a]? with
  | some r => f r
  | none => false
def vckc (a : Nat) (f : vw_C → Bool) : Bool := match vwCl[a]? with
  | some r => f r
  | none => false
/-- a switch's pairs out of its offsets -/
def vsp (pc : Nat) (lo : Int) : List Int → List (Int × Nat)
  | [] => []
  | o :: l => (lo, ((pc : Int) + o).toNat) :: vsp pc (lo + 1) l
def vps (pc : Nat) : List (Int × Int) → List (Int × Nat)
  | [] => []
  | (k, o) :: l => (k, ((pc : Int) + o).toNat) :: vps pc l
/-- the short form of an instruction says what the instruction is -/
def vchk (own nm : String) (ret : Option FieldType) (pc : Nat) (ins : Instr) (len o a b : Nat) (z : Int) (i : Nat) : Bool :=
  match o with
  | 1 => (match ins with
    | .iconst n => decide (Int32.ofInt n = iI z ∧ len = 1)
    | .bipush n => decide ((Int8.ofInt n).toInt32 = iI z ∧ len = 2)
    | .sipush n => decide ((Int16.ofInt n).toInt32 = iI z ∧ len = 3)
    | .ldc x => vis i (.constant own x (iI z)) && decide (len = 2)
    | .ldc_w x => vis i (.constant own x (iI z)) && decide (len = 3)
    | _ => false)
  | 2 => (match ins with
    | .lconst n => decide (Int64.ofNat (n : Nat) = lZ z ∧ len = 1)
    | .ldc2_w x => vis i (.constantLong own x (lZ z)) && decide (len = 3)
    | _ => false)
  | 3 => decide (ins = .aconst_null ∧ len = 1)
  | 4 => (match ins with
    | .iload x => decide (x = a ∧ len = 2)
    | .iload_n k => decide ((k : Nat) = a ∧ len = 1)
    | _ => false)
  | 5 => (match ins with
    | .lload x => decide (x = a ∧ len = 2)
    | .lload_n k => decide ((k : Nat) = a ∧ len = 1)
    | _ => false)
  | 6 => (match ins with
    | .aload x => decide (x = a ∧ len = 2)
    | .aload_n k => decide ((k : Nat) = a ∧ len = 1)
    | _ => false)
  | 7 => (match ins with
    | .istore x => decide (x = a ∧ len = 2)
    | .istore_n k => decide ((k : Nat) = a ∧ len = 1)
    | _ => false)
  | 8 => (match ins with
    | .lstore x => decide (x = a ∧ len = 2)
    | .lstore_n k => decide ((k : Nat) = a ∧ len = 1)
    | _ => false)
  | 9 => (match ins with
    | .astore x => decide (x = a ∧ len = 2)
    | .astore_n k => decide ((k : Nat) = a ∧ len = 1)
    | _ => false)
  | 10 => decide (ins = .iinc a z ∧ len = 3)
  | 11 => decide (ins = .iadd ∧ len = 1)
  | 12 => decide (ins = .isub ∧ len = 1)
  | 13 => decide (ins = .imul ∧ len = 1)
  | 14 => decide (ins = .idiv ∧ len = 1)
  | 15 => decide (ins = .irem ∧ len = 1)
  | 16 => decide (ins = .ineg ∧ len = 1)
  | 17 => decide (ins = .iand ∧ len = 1)
  | 18 => decide (ins = .ior ∧ len = 1)
  | 19 => decide (ins = .ishl ∧ len = 1)
  | 20 => decide (ins = .ishr ∧ len = 1)
  | 21 => decide (ins = .iushr ∧ len = 1)
  | 22 => decide (ins = .ladd ∧ len = 1)
  | 23 => decide (ins = .lsub ∧ len = 1)
  | 24 => decide (ins = .lmul ∧ len = 1)
  | 25 => decide (ins = .land ∧ len = 1)
  | 26 => decide (ins = .lor ∧ len = 1)
  | 27 => decide (ins = .lxor ∧ len = 1)
  | 28 => decide (ins = .lshl ∧ len = 1)
  | 29 => decide (ins = .lshr ∧ len = 1)
  | 30 => decide (ins = .lushr ∧ len = 1)
  | 31 => decide (ins = .lcmp ∧ len = 1)
  | 32 => decide (ins = .i2l ∧ len = 1)
  | 33 => decide (ins = .l2i ∧ len = 1)
  | 34 => decide (ins = .dup ∧ len = 1)
  | 35 => decide (ins = .dup2 ∧ len = 1)
  | 36 => decide (ins = .pop ∧ len = 1)
  | 37 => (match ins with
    | .goto off => decide ((pc : Int) + off = (a : Int) ∧ len = 3)
    | _ => false)
  | 40 => (match ins with
    | .ifnull off => decide ((pc : Int) + off = (a : Int) ∧ len = 3)
    | _ => false)
  | 41 => (match ins with
    | .ifnonnull off => decide ((pc : Int) + off = (a : Int) ∧ len = 3)
    | _ => false)
  | 42 => (match ins with
    | .getfield x => vckc a fun q => decide (b < q.2.2) && decide ((q.2.1 b).1 = q.1) && vis i (.fieldLink own x q.1 (q.2.1 b).2.1 (q.2.1 b).2.2.1) && decide (len = 3)
    | _ => false)
  | 43 => (match ins with
    | .putfield x => vckc a fun q => decide (b < q.2.2) && decide ((q.2.1 b).1 = q.1) && vis i (.fieldLink own x q.1 (q.2.1 b).2.1 (q.2.1 b).2.2.1) && decide (len = 3) && decide ((q.2.1 b).2.2.2 = false)
    | _ => false)
  | 68 => (match ins with
    | .putfield x => vckc a fun q => decide (b < q.2.2) && decide ((q.2.1 b).1 = q.1) && vis i (.fieldLink own x q.1 (q.2.1 b).2.1 (q.2.1 b).2.2.1) && decide (len = 3) && decide ((q.2.1 b).2.2.2 = true) && decide (own = q.1) && decide (nm = "<init>")
    | _ => false)
  | 44 => (match ins with
    | .getstatic x => (if b = 0 then vis i (.fieldLink own x "RecurringDays" "BLOCK_LENGTHS" "[I") else vis i (.fieldLinkNest own x "RecurringDays" "BLOCK_LENGTHS" "[I" "RecurringDays")) && decide (len = 3)
    | _ => false)
  | 45 => decide (ins = .iaload ∧ len = 1)
  | 46 => decide (ins = .laload ∧ len = 1)
  | 47 => decide (ins = .baload ∧ len = 1)
  | 48 => decide (ins = .aaload ∧ len = 1)
  | 49 => decide (ins = .iastore ∧ len = 1)
  | 50 => decide (ins = .lastore ∧ len = 1)
  | 51 => decide (ins = .bastore ∧ len = 1)
  | 52 => decide (ins = .aastore ∧ len = 1)
  | 53 => decide (ins = .arraylength ∧ len = 1)
  | 54 => (match ins with
    | .new x => vckc a fun q => decide (b = q.2.2) && vis i (.classLink own x q.1) && decide (len = 3)
    | _ => false)
  | 55 => (match ins with
    | .newarray t => decide (newarray.typeOf t = vaty a ∧ a < 3 ∧ len = 2)
    | _ => false)
  | 56 => (match ins with
    | .anewarray x => vis i (.classLink own x (vec a)) && decide (3 ≤ a ∧ a < 6 ∧ len = 3)
    | _ => false)
  | 57 => (match ins with
    | .multianewarray x k => vis i (.classLink own x "[[I") && decide (k = 2 ∧ len = 4)
    | _ => false)
  | 58 => (match ins with
    | .invokevirtual x => vckm a fun r => vis i (.methodLink own x r.1) && decide (len = 3) && !r.2.2.2.2.2.2.1 && vis r.2.2.2.2.2.2.2.2.2.1 (.selects r.1.cls r.1 r.1)
    | _ => false)
  | 59 => (match ins with
    | .invokestatic x => vckm a fun r => vis i (.methodLink own x r.1) && decide (len = 3) && r.2.2.2.2.2.2.1
    | _ => false)
  | 82 => (match ins with
    | .invokestatic x => vckm a fun r => vis i (.methodLinkNest own x r.1 "RecurringDays") && decide (len = 3) && r.2.2.2.2.2.2.1
    | _ => false)
  | 60 => (match ins with
    | .invokespecial x => vckm a fun r => vis i (.methodLink own x r.1) && decide (len = 3) && !r.2.2.2.2.2.2.1 && decide (r.1.name = "<init>")
    | _ => false)
  | 83 => (match ins with
    | .invokespecial x => vckm a fun r => vis i (.methodLinkNest own x r.1 "RecurringDays") && decide (len = 3) && !r.2.2.2.2.2.2.1 && decide (r.1.name = "<init>")
    | _ => false)
  | 61 => (match ins with
    | .invokespecial x => vis i (.methodLink own x objectInit) && decide (len = 3)
    | _ => false)
  | 62 => (match ins with
    | .invokestatic x => vis i (.methodLink own x arraycopyName) && decide (len = 3)
    | _ => false)
  | 84 => (match ins with
    | .invokestatic x => vis i (.methodLink own x Lib.Math.max.name) && decide (len = 3)
    | _ => false)
  | 85 => (match ins with
    | .invokestatic x => vis i (.methodLink own x Lib.Math.min.name) && decide (len = 3)
    | _ => false)
  | 63 => decide (ins = .ireturn ∧ len = 1 ∧ ret = some (if a = 0 then .int else .boolean))
  | 64 => decide (ins = .lreturn ∧ len = 1 ∧ ret = some .long)
  | 65 => decide (ins = .areturn ∧ len = 1) && (match ret with
    | some (.object _) => true
    | _ => false)
  | 66 => decide (ins = .return_ ∧ len = 1 ∧ ret = none)
  | 67 => (match vsw[a]? with
    | some q => (match ins with
      | .tableswitch d lo hi offs => decide (q.1 = vsp pc lo offs.toList ∧ (pc : Int) + d = (q.2 : Int) ∧ hi = lo + offs.toList.length - 1 ∧ (offs.toList.all fun o => decide (0 ≤ (pc : Int) + o)) = true)
      | .lookupswitch d ps => decide (q.1 = vps pc ps.toList ∧ (pc : Int) + d = (q.2 : Int) ∧ (ps.toList.all fun o => decide (0 ≤ (pc : Int) + o.2)) = true ∧ (ps.toList.zip (ps.toList.drop 1)).all (fun (a, next) => a.1 < next.1) = true)
      | _ => false)
    | none => false)
  | 70 => (match ins with
    | .ifCond .eq off => decide ((pc : Int) + off = (a : Int) ∧ len = 3)
    | _ => false)
  | 71 => (match ins with
    | .ifCond .ne off => decide ((pc : Int) + off = (a : Int) ∧ len = 3)
    | _ => false)
  | 72 => (match ins with
    | .ifCond .lt off => decide ((pc : Int) + off = (a : Int) ∧ len = 3)
    | _ => false)
  | 73 => (match ins with
    | .ifCond .ge off => decide ((pc : Int) + off = (a : Int) ∧ len = 3)
    | _ => false)
  | 74 => (match ins with
    | .ifCond .gt off => decide ((pc : Int) + off = (a : Int) ∧ len = 3)
    | _ => false)
  | 75 => (match ins with
    | .ifCond .le off => decide ((pc : Int) + off = (a : Int) ∧ len = 3)
    | _ => false)
  | 76 => (match ins with
    | .if_icmp .eq off => decide ((pc : Int) + off = (a : Int) ∧ len = 3)
    | _ => false)
  | 77 => (match ins with
    | .if_icmp .ne off => decide ((pc : Int) + off = (a : Int) ∧ len = 3)
    | _ => false)
  | 78 => (match ins with
    | .if_icmp .lt off => decide ((pc : Int) + off = (a : Int) ∧ len = 3)
    | _ => false)
  | 79 => (match ins with
    | .if_icmp .ge off => decide ((pc : Int) + off = (a : Int) ∧ len = 3)
    | _ => false)
  | 80 => (match ins with
    | .if_icmp .gt off => decide ((pc : Int) + off = (a : Int) ∧ len = 3)
    | _ => false)
  | 81 => (match ins with
    | .if_icmp .le off => decide ((pc : Int) + off = (a : Int) ∧ len = 3)
    | _ => false)
  | _ => false
def vche (r : vNr) (e : vent) : Bool := decide (decode r.2.1 e.1 = .ok (e.2.1, e.2.2.1)) && vchk r.1.cls r.1.name r.2.2.2.1 e.1 e.2.1 e.2.2.1 e.2.2.2.1 e.2.2.2.2.1 e.2.2.2.2.2.1 e.2.2.2.2.2.2.1 e.2.2.2.2.2.2.2
def vrow (m : Nat) : Bool := match vN[m]?, vC[m]? with
  | some r, some l => l.all (vche r)
  | _, _ => false
/-- a method's row of the table -/
def vnok (r : vNr) : Bool :=
  vis r.2.2.2.2.2.2.2.2.1 (if r.2.2.2.2.2.2.1 then .static r.1 else .instanceMethod r.1) && vis r.2.2.2.2.2.2.2.2.2.2 (.initialized r.1.cls)
  && decide (r.1.cls ≠ "java/lang/invoke/MethodHandle" ∧ r.1.cls ≠ "java/lang/invoke/VarHandle" ∧ (parseMethodDescriptor r.1.desc).map (fun d => d.parameters.length) = some r.2.2.2.2.2.1 ∧ plainName r.1.cls = true ∧ r.2.2.1 ≤ 30)
  && (r.2.2.2.2.2.2.1 || decide ((vwCl[r.2.2.2.2.1]?).map (fun q => q.1) = some r.1.cls))

def vcw (r : vNr) : Prop := vat r.2.2.2.2.2.2.2.1 = some (.code r.1 r.2.1 r.2.2.1 r.2.2.2.1)

