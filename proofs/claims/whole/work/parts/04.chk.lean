/-! The tables are right: decided, method by method -/
abbrev kO : Type := Instr × Nat × Nat × Nat × Nat × Int
def fty (ci k : Nat) : FieldType := (parseFieldDescriptor (((vwCl.getD ci ("", fun _ => ("", "", "", false), 0)).2.1 k).2.2.1)).getD .int
def wAt (p : Nat) (c : Jvm.Cond) : Bool := decide (lw_tbl[p]? = some c) && goodWord c
def wNt (p : Nat) (c : Jvm.Cond) : Bool := decide (lw_tbl[p]? = some c)
/-- the words that every contract asks for -/
def kWs : List Jvm.Cond := lw_tbl.filter goodWord
theorem wAt_in {p : Nat} {c : Jvm.Cond} (h : wAt p c = true) : c ∈ kWs := by
  simp only [wAt, Bool.and_eq_true, decide_eq_true_eq] at h
  exact List.mem_filter.mpr ⟨List.mem_of_getElem? h.1, h.2⟩
theorem wNt_in {p : Nat} {c : Jvm.Cond} (h : wNt p c = true) : c ∈ lw_tbl := List.mem_of_getElem? (of_decide_eq_true h)
def ilen : Instr → Nat
  | .iconst _ => 1
  | .lconst _ => 1
  | .iload_n _ => 1
  | .lload_n _ => 1
  | .aload_n _ => 1
  | .istore_n _ => 1
  | .lstore_n _ => 1
  | .astore_n _ => 1
  | .iadd => 1
  | .isub => 1
  | .imul => 1
  | .idiv => 1
  | .irem => 1
  | .iand => 1
  | .ior => 1
  | .ixor => 1
  | .ishl => 1
  | .ishr => 1
  | .iushr => 1
  | .ladd => 1
  | .lsub => 1
  | .lmul => 1
  | .ldiv => 1
  | .lrem => 1
  | .lcmp => 1
  | .i2l => 1
  | .l2i => 1
  | .dup => 1
  | .dup2 => 1
  | .pop => 1
  | .iaload => 1
  | .iastore => 1
  | .baload => 1
  | .bastore => 1
  | .laload => 1
  | .lastore => 1
  | .arraylength => 1
  | .ireturn => 1
  | .lreturn => 1
  | .areturn => 1
  | .return_ => 1
  | .bipush _ => 2
  | .ldc _ => 2
  | .iload _ => 2
  | .lload _ => 2
  | .istore _ => 2
  | .lstore _ => 2
  | .newarray _ => 2
  | .tableswitch _ _ _ _ => 0
  | .lookupswitch _ _ => 0
  | _ => 3
def kOwn (mi : Nat) : String := (kM mi).1.cls
def rmOK (mi b : Nat) : Bool := Nat.ble ((kR b).1 + 1) (kR mi).1 && Nat.ble (8 + ((kM b).2.2.1 + 11) + (kR b).2.1) (kR mi).2.1
def pOK (mi : Nat) (e : kO) : Bool := match e.1 with
  | .getfield i => match vwCl[e.2.2.1]? with
    | some q => Nat.blt e.2.2.2.1 q.2.2 && wAt e.2.2.2.2.1 (.fieldLink (kOwn mi) i q.1 (q.2.1 e.2.2.2.1).2.1 (q.2.1 e.2.2.2.1).2.2.1) && decide ((q.2.1 e.2.2.2.1).1 = q.1)
    | none => false
  | .putfield i => match vwCl[e.2.2.1]? with
    | some q => Nat.blt e.2.2.2.1 q.2.2 && wAt e.2.2.2.2.1 (.fieldLink (kOwn mi) i q.1 (q.2.1 e.2.2.2.1).2.1 (q.2.1 e.2.2.2.1).2.2.1) && decide ((q.2.1 e.2.2.2.1).1 = q.1)
    | none => false
  | .invokevirtual i => Nat.beq (kR e.2.2.2.1).2.2.2.2.2.2.2.2 0 && Nat.blt e.2.2.2.1 kN && wAt e.2.2.2.2.1 (.methodLink (kOwn mi) i (kM e.2.2.2.1).1) && rmOK mi e.2.2.2.1
  | .invokestatic i => bif Nat.beq e.2.2.1 7 then wAt e.2.2.2.2.1 (.methodLink (kOwn mi) i arraycopyName) && Nat.ble 1 (kR mi).1 && Nat.ble 26 (kR mi).2.1
    else bif Nat.beq e.2.2.1 8 then wAt e.2.2.2.2.1 (.methodLink (kOwn mi) i Lib.Math.max.name) && Nat.ble 1 (kR mi).1 && Nat.ble 21 (kR mi).2.1
    else bif Nat.beq e.2.2.1 9 then wAt e.2.2.2.2.1 (.methodLink (kOwn mi) i Lib.Math.min.name) && Nat.ble 1 (kR mi).1 && Nat.ble 21 (kR mi).2.1
    else Nat.beq (kR e.2.2.2.1).2.2.2.2.2.2.2.2 1 && Nat.blt e.2.2.2.1 kN && (bif Nat.beq e.2.2.1 1 then wAt e.2.2.2.2.1 (.methodLink (kOwn mi) i (kM e.2.2.2.1).1) else wNt e.2.2.2.2.1 (.methodLinkNest (kOwn mi) i (kM e.2.2.2.1).1 "TrustedPause")) && rmOK mi e.2.2.2.1
  | .invokespecial i => bif Nat.beq e.2.2.1 6 then wAt e.2.2.2.2.1 (.methodLink (kOwn mi) i objectInit) && Nat.ble 1 (kR mi).1 && Nat.ble 20 (kR mi).2.1
    else Nat.beq (kR e.2.2.2.1).2.2.2.2.2.2.2.2 2 && Nat.blt e.2.2.2.1 kN && (bif Nat.beq e.2.2.1 2 then wAt e.2.2.2.2.1 (.methodLink (kOwn mi) i (kM e.2.2.2.1).1) else wNt e.2.2.2.2.1 (.methodLinkNest (kOwn mi) i (kM e.2.2.2.1).1 "TrustedPause")) && rmOK mi e.2.2.2.1
  | .new i => match vwCl[e.2.2.1]? with
    | some q => wAt e.2.2.2.2.1 (.classLink (kOwn mi) i q.1)
    | none => false
  | .ldc i => wAt e.2.2.2.2.1 (.constant (kOwn mi) i (Int32.ofInt e.2.2.2.2.2))
  | .ldc_w i => wAt e.2.2.2.2.1 (.constant (kOwn mi) i (Int32.ofInt e.2.2.2.2.2))
  | .ldc2_w i => wAt e.2.2.2.2.1 (.constantLong (kOwn mi) i (Int64.ofInt e.2.2.2.2.2))
  | .lookupswitch _ ps => (ps.toList.zip (ps.toList.drop 1)).all (fun (a, next) => a.1 < next.1)
  | _ => true
def eOK (mi : Nat) (q : kE) : Bool := decide (decode (kM mi).2.1 q.1 = .ok (q.2.1, q.2.2.1)) && (Nat.beq (ilen q.2.1) 0 || Nat.beq (ilen q.2.1) q.2.2.1) && pOK mi q.2
def mOK (mi : Nat) : Bool :=
  wAt (kR mi).2.2.2.2.1 (.code (kM mi).1 (kM mi).2.1 (kM mi).2.2.1 (kM mi).2.2.2) && wAt (kR mi).2.2.2.2.2.2.2.1 (.initialized (kM mi).1.cls)
  && decide ((kM mi).1.cls ≠ "java/lang/invoke/MethodHandle" ∧ (kM mi).1.cls ≠ "java/lang/invoke/VarHandle" ∧ (parseMethodDescriptor (kM mi).1.desc).map (fun d => d.parameters.length) = some (kR mi).2.2.1)
  && plainName (kM mi).1.cls
  && (match (kR mi).2.2.2.2.2.2.2.2 with
    | 0 => wAt (kR mi).2.2.2.2.2.1 (.instanceMethod (kM mi).1) && wAt (kR mi).2.2.2.2.2.2.1 (.selects (kM mi).1.cls (kM mi).1 (kM mi).1)
    | 1 => wAt (kR mi).2.2.2.2.2.1 (.static (kM mi).1)
    | 2 => wAt (kR mi).2.2.2.2.2.1 (.instanceMethod (kM mi).1) && decide ((kM mi).1.name = "<init>") && decide ((kM mi).2.2.2 = none)
    | _ => false)
  && (match vwCl[(kR mi).2.2.2.1]? with
    | some q => decide (q.1 = (kM mi).1.cls)
    | none => !Nat.beq (kR mi).2.2.2.2.2.2.2.2 0 && !Nat.blt (kR mi).2.2.2.1 10)
def cOK (ci : Nat) : Bool := match vwCl[ci]? with
  | some q => wAt (kD ci).1 (.instantiable q.1 q.2.2) && wAt (kD ci).2.1 (.initialized q.1) && (u_ws q.1 q.2.1 q.2.2).all (fun w => decide (w ∈ lw_tbl) && goodWord w)
    && (List.range q.2.2).all (fun k => decide (parseFieldDescriptor (q.2.1 k).2.2.1 = some (fty ci k)) && decide (defaultValue (fty ci k) = vp_V (kD ci).2.2 k))
    && (List.range q.2.2).all (fun a => (List.range q.2.2).all (fun b => Nat.beq a b || decide ((q.2.1 a).2.1 ≠ (q.2.1 b).2.1))) && Nat.beq (kD ci).2.2.length q.2.2
  | none => true
set_option maxRecDepth 100000 in
theorem cOK_all : (List.range 10).all cOK = true := by decide +kernel
set_option maxRecDepth 100000 in
theorem mOK_0 : (List.range' 0 12).all mOK = true := by decide +kernel
set_option maxRecDepth 100000 in
theorem mOK_12 : (List.range' 12 12).all mOK = true := by decide +kernel
set_option maxRecDepth 100000 in
theorem mOK_24 : (List.range' 24 12).all mOK = true := by decide +kernel
set_option maxRecDepth 100000 in
theorem mOK_36 : (List.range' 36 12).all mOK = true := by decide +kernel
set_option maxRecDepth 100000 in
theorem mOK_48 : (List.range' 48 12).all mOK = true := by decide +kernel
set_option maxRecDepth 100000 in
theorem mOK_60 : (List.range' 60 12).all mOK = true := by decide +kernel
set_option maxRecDepth 100000 in
theorem mOK_72 : (List.range' 72 12).all mOK = true := by decide +kernel
set_option maxRecDepth 100000 in
theorem mOK_84 : (List.range' 84 12).all mOK = true := by decide +kernel
set_option maxRecDepth 100000 in
theorem mOK_96 : (List.range' 96 12).all mOK = true := by decide +kernel
set_option maxRecDepth 100000 in
theorem mOK_108 : (List.range' 108 12).all mOK = true := by decide +kernel
set_option maxRecDepth 100000 in
theorem mOK_120 : (List.range' 120 12).all mOK = true := by decide +kernel
set_option maxRecDepth 100000 in
theorem mOK_132 : (List.range' 132 12).all mOK = true := by decide +kernel
set_option maxRecDepth 100000 in
theorem mOK_144 : (List.range' 144 12).all mOK = true := by decide +kernel
set_option maxRecDepth 100000 in
theorem mOK_156 : (List.range' 156 12).all mOK = true := by decide +kernel
