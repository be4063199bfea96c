/-! The machine's picture as a program that runs: a world is a list of cells, a reference is a cell's number in it; .retAddr 0 is the script, .retAddr 1 an unset local, .retAddr 2 the second word of a long -/
abbrev AC : Type := (FieldType × vp_A) ⊕ (Nat × List Value)
abbrev AW : Type := List AC
def lk : Nat → List kE → Option kO
  | _, [] => none
  | p, q :: r => bif Nat.beq p q.1 then some q.2 else lk p r
def kI (mi pc : Nat) : Option kO := lk pc (kLt mi)
def uns : Value := .retAddr 1
def sec : Value := .retAddr 2
def isSec : Value → Bool
  | .retAddr n => Nat.beq n 2
  | _ => false
def isLong : Value → Bool
  | .long _ => true
  | _ => false
def fok (w : AW) (f ci k : Nat) : Bool := match w[f]? with
  | some (.inr o) => Nat.beq o.1 ci && Nat.blt k o.2.length
  | _ => false
def cok (w : AW) (f ci : Nat) : Bool := match w[f]? with
  | some (.inr o) => Nat.beq o.1 ci
  | _ => false
def fget (w : AW) (f k : Nat) : Value := match w[f]? with
  | some (.inr o) => o.2.getD k .null
  | _ => .null
def fset (w : AW) (f k : Nat) (v : Value) : AW := match w[f]? with
  | some (.inr o) => w.set f (.inr (o.1, o.2.set k v))
  | _ => w
def alen (w : AW) (a : Nat) : Nat := match w[a]? with
  | some (.inl x) => x.2.1
  | _ => 0
def arr (w : AW) (a : Nat) : Bool := match w[a]? with
  | some (.inl x) => x.1 == .int || x.1 == .long || x.1 == .boolean
  | _ => false
def aok (w : AW) (a : Nat) : Bool := match w[a]? with
  | some (.inl (.int, _, .inl _)) => true
  | _ => false
def aget (w : AW) (a : Nat) : Nat → Int32 := match w[a]? with
  | some (.inl (_, _, .inl g)) => g
  | _ => fun _ => 0
def aset (w : AW) (a : Nat) (g : Nat → Int32) : AW := match w[a]? with
  | some (.inl (t, n, .inl _)) => w.set a (.inl (t, n, .inl g))
  | _ => w
def zok (w : AW) (a : Nat) : Bool := match w[a]? with
  | some (.inl (.boolean, _, .inl _)) => true
  | _ => false
def jok (w : AW) (a : Nat) : Bool := match w[a]? with
  | some (.inl (.long, _, .inr (.inl _))) => true
  | _ => false
def jget (w : AW) (a : Nat) : Nat → Int64 := match w[a]? with
  | some (.inl (_, _, .inr (.inl g))) => g
  | _ => fun _ => 0
def jset (w : AW) (a : Nat) (g : Nat → Int64) : AW := match w[a]? with
  | some (.inl (t, n, .inr (.inl _))) => w.set a (.inl (t, n, .inr (.inl g)))
  | _ => w
def inB (i : Int32) (n : Nat) : Bool := decide (0 ≤ i.toInt) && decide (i.toInt < n)
def tk : Nat → List Value → Option (List Value × List Value)
  | 0, S => some ([], S)
  | n + 1, v :: S => match tk n S with
    | some (a, r) => some (a ++ [v], r)
    | none => none
  | _ + 1, [] => none
def isC2 : Value → Bool
  | .long _ => true
  | .double _ => true
  | _ => false
def locs2 : List Value → List Value
  | [] => []
  | v :: r => bif isC2 v then v :: sec :: locs2 r else v :: locs2 r
def entryL (nL : Nat) (As : List Value) : List Value := locs2 As ++ List.replicate (nL - (locs2 As).length) uns
/-- the script: its length and values -/
abbrev Scr : Type := Nat × (Nat → Int32)
def cmpI (c : ClassFile.Cond) (x y : Int32) : Bool := match c with
  | .eq => decide (x = y)
  | .ne => decide (x ≠ y)
  | .lt => decide (x < y)
  | .ge => decide (x ≥ y)
  | .gt => decide (x > y)
  | .le => decide (x ≤ y)
def stL (L : List Value) (i : Nat) (v : Value) : Option (List Value) := bif Nat.blt i L.length && !isSec (L.getD i uns) then some (L.set i v) else none
def stL2 (L : List Value) (i : Nat) (v : Value) : Option (List Value) := bif Nat.blt (i + 1) L.length && !isSec (L.getD i uns) then some ((L.set i v).set (i + 1) sec) else none
abbrev Cfg : Type := Nat × List Value × List Value × AW
def tgt (pc : Nat) (off : Int) : Nat := (Int.ofNat pc + off).toNat
def tgtOk (pc : Nat) (off : Int) : Bool := decide (0 ≤ Int.ofNat pc + off)
def ld (L : List Value) (i : Nat) (S : List Value) (w : AW) (pc : Nat) (t : Nat) : Option Cfg := match L[i]? with
  | some (.int x) => bif Nat.beq t 0 then some (pc, L, .int x :: S, w) else none
  | some (.long x) => bif Nat.beq t 1 then some (pc, L, .long x :: S, w) else none
  | some (.ref x) => bif Nat.beq t 2 then some (pc, L, .ref x :: S, w) else none
  | some (.retAddr n) => bif Nat.beq t 2 && Nat.beq n 0 then some (pc, L, .retAddr 0 :: S, w) else none
  | _ => none
def st (L : List Value) (i : Nat) (S : List Value) (w : AW) (pc : Nat) (t : Nat) : Option Cfg := match S with
  | .int x :: S => bif Nat.beq t 0 then (stL L i (.int x)).map (fun L => (pc, L, S, w)) else none
  | .ref x :: S => bif Nat.beq t 2 then (stL L i (.ref x)).map (fun L => (pc, L, S, w)) else none
  | .long x :: S => bif Nat.beq t 1 then (stL2 L i (.long x)).map (fun L => (pc, L, S, w)) else none
  | _ => none
def i2 (f : Int32 → Int32 → Int32) (pc : Nat) (L S : List Value) (w : AW) : Option Cfg := match S with
  | .int y :: .int x :: S => some (pc, L, .int (f x y) :: S, w)
  | _ => none
def l2 (f : Int64 → Int64 → Int64) (pc : Nat) (L S : List Value) (w : AW) : Option Cfg := match S with
  | .long y :: .long x :: S => some (pc, L, .long (f x y) :: S, w)
  | _ => none
def ffin (ci k : Nat) : Bool := ((vwCl.getD ci ("", fun _ => ("", "", "", false), 0)).2.1 k).2.2.2
def okF (ci k mi : Nat) : Bool := !ffin ci k || (Nat.beq (kR mi).2.2.2.1 ci && Nat.beq (kR mi).2.2.2.2.2.2.2.2 2)
def okV : FieldType → Value → Bool
  | .int, .int _ => true
  | .boolean, .int v => v == 0 || v == 1
  | .long, .long _ => true
  | .object _, .ref _ => true
  | .array _, .ref _ => true
  | _, _ => false
def okR : Option FieldType → Value → Bool
  | some .int, .int _ => true
  | some .boolean, .int v => v == 0 || v == 1
  | some .long, .long _ => true
  | some (.object _), .ref _ => true
  | _, _ => false
def newA (t : ClassFile.ArrayType) (n : Nat) : Option AC := match t with
  | .int => some (.inl (.int, n, .inl (fun _ => 0)))
  | .boolean => some (.inl (.boolean, n, .inl (fun _ => 0)))
  | .long => some (.inl (.long, n, .inr (.inl (fun _ => 0))))
  | _ => none
def sw (pc : Nat) (off : Int) (L S : List Value) (w : AW) : Option Cfg := bif tgtOk pc off then some (tgt pc off, L, S, w) else none
def stepI (X : Scr) (mi pc : Nat) (e : kO) (L S : List Value) (w : AW) : Option Cfg := match e.1 with
  | .iconst n => some (pc + 1, L, .int (Int32.ofInt n) :: S, w)
  | .bipush n => some (pc + 2, L, .int (Int8.ofInt n).toInt32 :: S, w)
  | .sipush n => some (pc + 3, L, .int (Int16.ofInt n).toInt32 :: S, w)
  | .lconst n => some (pc + 1, L, .long (Int64.ofNat n.val) :: S, w)
  | .ldc _ => some (pc + 2, L, .int (Int32.ofInt e.2.2.2.2.2) :: S, w)
  | .ldc_w _ => some (pc + 3, L, .int (Int32.ofInt e.2.2.2.2.2) :: S, w)
  | .ldc2_w _ => some (pc + 3, L, .long (Int64.ofInt e.2.2.2.2.2) :: S, w)
  | .iload_n k => ld L k.val S w (pc + 1) 0
  | .iload i => ld L i S w (pc + 2) 0
  | .lload_n k => ld L k.val S w (pc + 1) 1
  | .lload i => ld L i S w (pc + 2) 1
  | .aload_n k => ld L k.val S w (pc + 1) 2
  | .istore_n k => st L k.val S w (pc + 1) 0
  | .istore i => st L i S w (pc + 2) 0
  | .lstore_n k => st L k.val S w (pc + 1) 1
  | .lstore i => st L i S w (pc + 2) 1
  | .astore_n k => st L k.val S w (pc + 1) 2
  | .iinc i n => match L[i]? with
    | some (.int x) => some (pc + 3, L.set i (.int (x + Int32.ofInt n)), S, w)
    | _ => none
  | .iadd => i2 (fun x y => x + y) (pc + 1) L S w
  | .isub => i2 (fun x y => x - y) (pc + 1) L S w
  | .imul => i2 (fun x y => x * y) (pc + 1) L S w
  | .iand => i2 (fun x y => x &&& y) (pc + 1) L S w
  | .ior => i2 (fun x y => x ||| y) (pc + 1) L S w
  | .ixor => i2 (fun x y => x ^^^ y) (pc + 1) L S w
  | .ishl => i2 (fun x y => x <<< (y &&& 31)) (pc + 1) L S w
  | .ishr => i2 (fun x y => x >>> (y &&& 31)) (pc + 1) L S w
  | .iushr => i2 (fun x y => (x.toUInt32 >>> (y.toUInt32 &&& Int32.toUInt32 31)).toInt32) (pc + 1) L S w
  | .idiv => match S with
    | .int y :: .int x :: S => bif decide (y = 0) then none else some (pc + 1, L, .int (x / y) :: S, w)
    | _ => none
  | .irem => match S with
    | .int y :: .int x :: S => bif decide (y = 0) then none else some (pc + 1, L, .int (x - x / y * y) :: S, w)
    | _ => none
  | .ladd => l2 (fun x y => x + y) (pc + 1) L S w
  | .lsub => l2 (fun x y => x - y) (pc + 1) L S w
  | .lmul => l2 (fun x y => x * y) (pc + 1) L S w
  | .ldiv => match S with
    | .long y :: .long x :: S => bif decide (y = 0) then none else some (pc + 1, L, .long (x / y) :: S, w)
    | _ => none
  | .lrem => match S with
    | .long y :: .long x :: S => bif decide (y = 0) then none else some (pc + 1, L, .long (x - x / y * y) :: S, w)
    | _ => none
  | .lcmp => match S with
    | .long y :: .long x :: S => some (pc + 1, L, .int (lg_cmp x y) :: S, w)
    | _ => none
  | .i2l => match S with
    | .int x :: S => some (pc + 1, L, .long x.toInt64 :: S, w)
    | _ => none
  | .l2i => match S with
    | .long x :: S => some (pc + 1, L, .int x.toInt32 :: S, w)
    | _ => none
  | .dup => match S with
    | .int x :: S => some (pc + 1, L, .int x :: .int x :: S, w)
    | .ref x :: S => some (pc + 1, L, .ref x :: .ref x :: S, w)
    | _ => none
  | .pop => match S with
    | .int _ :: S => some (pc + 1, L, S, w)
    | _ => none
  | .dup2 => match S with
    | .int x :: .ref y :: S => some (pc + 1, L, .int x :: .ref y :: .int x :: .ref y :: S, w)
    | _ => none
  | .goto off => sw pc off L S w
  | .ifCond c off => match S with
    | .int x :: S => bif tgtOk pc off then some (bif cmpI c x 0 then (tgt pc off, L, S, w) else (pc + 3, L, S, w)) else none
    | _ => none
  | .if_icmp c off => match S with
    | .int y :: .int x :: S => bif tgtOk pc off then some (bif cmpI c x y then (tgt pc off, L, S, w) else (pc + 3, L, S, w)) else none
    | _ => none
  | .tableswitch d lo hi offs => match S with
    | .int x :: S => bif decide (x.toInt < lo) || decide (hi < x.toInt) then sw pc d L S w else match offs[(x.toInt - lo).toNat]? with
      | some o => sw pc o L S w
      | none => none
    | _ => none
  | .lookupswitch d ps => match S with
    | .int x :: S => sw pc (Op.lookupswitch.offset ps.toList d x.toInt) L S w
    | _ => none
  | .getfield _ => match S with
    | .ref f :: S => bif fok w f e.2.2.1 e.2.2.2.1 then some (pc + 3, L, fget w f e.2.2.2.1 :: S, w) else none
    | _ => none
  | .putfield _ => match S with
    | v :: .ref f :: S => bif fok w f e.2.2.1 e.2.2.2.1 && okF e.2.2.1 e.2.2.2.1 mi && okV (fty e.2.2.1 e.2.2.2.1) v then some (pc + 3, L, S, fset w f e.2.2.2.1 v) else none
    | _ => none
  | .iaload => match S with
    | .int i :: .ref a :: S => bif aok w a && inB i (alen w a) then some (pc + 1, L, .int (aget w a i.toNatClampNeg) :: S, w) else none
    | .int i :: .retAddr n :: S => bif Nat.beq n 0 && inB i X.1 then some (pc + 1, L, .int (X.2 i.toNatClampNeg) :: S, w) else none
    | _ => none
  | .iastore => match S with
    | .int x :: .int i :: .ref a :: S => bif aok w a && inB i (alen w a) then some (pc + 1, L, S, aset w a (upd (aget w a) i.toNatClampNeg x)) else none
    | _ => none
  | .baload => match S with
    | .int i :: .ref a :: S => bif zok w a && inB i (alen w a) then some (pc + 1, L, .int (aget w a i.toNatClampNeg) :: S, w) else none
    | _ => none
  | .bastore => match S with
    | .int x :: .int i :: .ref a :: S => bif zok w a && inB i (alen w a) then some (pc + 1, L, S, aset w a (upd (aget w a) i.toNatClampNeg (x &&& 1))) else none
    | _ => none
  | .laload => match S with
    | .int i :: .ref a :: S => bif jok w a && inB i (alen w a) then some (pc + 1, L, .long (jget w a i.toNatClampNeg) :: S, w) else none
    | _ => none
  | .lastore => match S with
    | .long x :: .int i :: .ref a :: S => bif jok w a && inB i (alen w a) then some (pc + 1, L, S, jset w a (vp_updL (jget w a) i.toNatClampNeg x)) else none
    | _ => none
  | .arraylength => match S with
    | .ref a :: S => bif arr w a then some (pc + 1, L, .int (Int32.ofNat (alen w a)) :: S, w) else none
    | .retAddr n :: S => bif Nat.beq n 0 then some (pc + 1, L, .int (Int32.ofNat X.1) :: S, w) else none
    | _ => none
  | .newarray t => match S with
    | .int n :: S => bif inB n 4000 then (newA t n.toNatClampNeg).map (fun c => (pc + 2, L, .ref w.length :: S, w ++ [c])) else none
    | _ => none
  | .new _ => some (pc + 3, L, .ref w.length :: S, w ++ [.inr (e.2.2.1, (kD e.2.2.1).2.2)])
  | _ => none
/-- a call: whom (none: the callee's body is the kit's: Object's constructor, arraycopy), with what, what stays on the stack, the world -/
def callE (e : kO) (S : List Value) (w : AW) : Option (Option (Nat × List Value) × List Value × AW) := match e.1 with
  | .invokevirtual _ => match tk (kR e.2.2.2.1).2.2.1 S with
    | some (As, .ref o :: S) => bif Nat.beq e.2.2.1 0 && cok w o (kR e.2.2.2.1).2.2.2.1 && Nat.ble (locs2 (.ref o :: As)).length (kM e.2.2.2.1).2.2.1 && Nat.ble S.length 4 then some (some (e.2.2.2.1, .ref o :: As), S, w) else none
    | _ => none
  | .invokestatic _ => bif Nat.beq e.2.2.1 7 then match S with
      | .int n :: .int dp :: .ref a :: .int sp :: .ref a0 :: S => bif aok w a0 && aok w a && decide (0 ≤ sp.toInt) && decide (0 ≤ dp.toInt) && decide (0 ≤ n.toInt) && Nat.ble (sp.toNatClampNeg + n.toNatClampNeg) (alen w a0) && Nat.ble (dp.toNatClampNeg + n.toNatClampNeg) (alen w a) && Nat.ble S.length 4 then
          some (none, S, aset w a (va_cpy (aget w a0) (aget w a) sp.toNatClampNeg dp.toNatClampNeg n.toNatClampNeg)) else none
      | _ => none
    else bif Nat.beq e.2.2.1 8 then match S with
      | .int y :: .int x :: S => bif Nat.ble S.length 4 then some (none, .int (if x < y then y else x) :: S, w) else none
      | _ => none
    else bif Nat.beq e.2.2.1 9 then match S with
      | .int y :: .int x :: S => bif Nat.ble S.length 4 then some (none, .int (if y < x then y else x) :: S, w) else none
      | _ => none
    else match tk (kR e.2.2.2.1).2.2.1 S with
    | some (As, S) => bif (Nat.beq e.2.2.1 1 || Nat.beq e.2.2.1 4) && Nat.ble (locs2 As).length (kM e.2.2.2.1).2.2.1 && Nat.ble S.length 4 then some (some (e.2.2.2.1, As), S, w) else none
    | _ => none
  | .invokespecial _ => bif Nat.beq e.2.2.1 6 then match S with
      | .ref _ :: S => bif Nat.ble S.length 4 then some (none, S, w) else none
      | _ => none
    else match tk (kR e.2.2.2.1).2.2.1 S with
    | some (As, .ref o :: S) => bif (Nat.beq e.2.2.1 2 || Nat.beq e.2.2.1 5) && Nat.ble (locs2 (.ref o :: As)).length (kM e.2.2.2.1).2.2.1 && Nat.ble S.length 4 then some (some (e.2.2.2.1, .ref o :: As), S, w) else none
    | _ => none
  | _ => none
def retI (mi : Nat) (e : kO) (S : List Value) : Option (Option Value) := match e.1 with
  | .ireturn => match S with
    | [.int x] => bif okR (kM mi).2.2.2 (.int x) then some (some (.int x)) else none
    | _ => none
  | .lreturn => match S with
    | [.long x] => bif okR (kM mi).2.2.2 (.long x) then some (some (.long x)) else none
    | _ => none
  | .areturn => match S with
    | [.ref x] => bif okR (kM mi).2.2.2 (.ref x) then some (some (.ref x)) else none
    | _ => none
  | .return_ => match S with
    | [] => bif (kM mi).2.2.2.isNone then some none else none
    | _ => none
  | _ => none
def ev (X : Scr) : Nat → Nat → Nat → List Value → List Value → AW → Option (Option Value × AW)
  | 0, _, _, _, _, _ => none
  | n + 1, mi, pc, L, S, w => match kI mi pc with
    | none => none
    | some e => match stepI X mi pc e L S w with
      | some c => ev X n mi c.1 c.2.1 c.2.2.1 c.2.2.2
      | none => match callE e S w with
        | some (some (y, As), S1, w1) => match ev X n y 0 (entryL (kM y).2.2.1 As) [] w1 with
          | some q => ev X n mi (pc + 3) L (q.1.toList ++ S1) q.2
          | none => none
        | some (none, S1, w1) => ev X n mi (pc + 3) L S1 w1
        | none => match retI mi e S with
          | some r => some (r, w)
          | none => none
theorem ev_mono (X : Scr) : ∀ (n mi pc : Nat) (L S : List Value) (w : AW) (q : Option Value × AW), ev X n mi pc L S w = some q → ev X (n + 1) mi pc L S w = some q := by
  intro n
  induction n with
  | zero => intro mi pc L S w q h; simp [ev] at h
  | succ n ih =>
    intro mi pc L S w q h
    rw [ev] at h ⊢
    cases hk : kI mi pc with
    | none => rw [hk] at h; exact h
    | some e =>
      rw [hk] at h
      dsimp only at h ⊢
      cases hs : stepI X mi pc e L S w with
      | some c => rw [hs] at h; dsimp only at h ⊢; exact ih _ _ _ _ _ _ h
      | none =>
        rw [hs] at h
        dsimp only at h ⊢
        cases hc : callE e S w with
        | none => rw [hc] at h; exact h
        | some c =>
          rw [hc] at h
          obtain ⟨_ | ⟨y, As⟩, S1, w1⟩ := c
          · dsimp only at h ⊢; exact ih _ _ _ _ _ _ h
          · dsimp only at h ⊢
            cases hy : ev X n y 0 (entryL (kM y).2.2.1 As) [] w1 with
            | none => rw [hy] at h; simp at h
            | some r =>
              rw [hy] at h
              rw [ih _ _ _ _ _ _ hy]
              exact ih _ _ _ _ _ _ h
theorem ev_le {X : Scr} {n k mi pc : Nat} {L S : List Value} {w : AW} {q : Option Value × AW} (h : ev X n mi pc L S w = some q) (hk : n ≤ k) : ev X k mi pc L S w = some q := by
  induction hk with
  | refl => exact h
  | step _ ih => exact ev_mono X _ _ _ _ _ _ _ ih
/-- what a configuration comes to, if it comes to an end -/
noncomputable def Z (X : Scr) (mi pc : Nat) (L S : List Value) (w : AW) : Option (Option Value × AW) := Classical.epsilon (fun o => ∀ q, o = some q ↔ ∃ n, ev X n mi pc L S w = some q)
theorem Z_iff {X : Scr} {mi pc : Nat} {L S : List Value} {w : AW} {q : Option Value × AW} : Z X mi pc L S w = some q ↔ ∃ n, ev X n mi pc L S w = some q := by
  have h : ∃ o : Option (Option Value × AW), ∀ q, o = some q ↔ ∃ n, ev X n mi pc L S w = some q := by
    rcases Classical.em (∃ q, ∃ n, ev X n mi pc L S w = some q) with ⟨q, n, hq⟩ | hn
    · refine ⟨some q, fun r => ⟨fun h => ⟨n, by rw [hq, h]⟩, fun ⟨k, hk⟩ => ?_⟩⟩
      have h1 := ev_le hq (Nat.le_add_right n k)
      have h2 := ev_le hk (Nat.le_add_left k n)
      rw [← h1, h2]
    · exact ⟨none, fun r => ⟨fun h => by simp at h, fun h => absurd ⟨r, h⟩ hn⟩⟩
  exact Classical.epsilon_spec (p := fun o => ∀ q, o = some q ↔ ∃ n, ev X n mi pc L S w = some q) h q
theorem Z_ext {X : Scr} {mi pc mi' pc' : Nat} {L S L' S' : List Value} {w w' : AW} (h : ∀ q, (∃ n, ev X n mi pc L S w = some q) ↔ ∃ n, ev X n mi' pc' L' S' w' = some q) : Z X mi pc L S w = Z X mi' pc' L' S' w' := by
  apply Option.ext
  intro q
  rw [Z_iff, Z_iff]
  exact h q
theorem Z_step {X : Scr} {mi pc : Nat} {L S : List Value} {w : AW} {e : kO} {c : Cfg} (hk : kI mi pc = some e) (hs : stepI X mi pc e L S w = some c) : Z X mi pc L S w = Z X mi c.1 c.2.1 c.2.2.1 c.2.2.2 := by
  refine Z_ext fun q => ⟨fun ⟨n, h⟩ => ?_, fun ⟨n, h⟩ => ⟨n + 1, ?_⟩⟩
  · cases n with
    | zero => simp [ev] at h
    | succ n => rw [ev, hk] at h; dsimp only at h; rw [hs] at h; exact ⟨n, h⟩
  · rw [ev, hk]; dsimp only; rw [hs]; exact h
theorem Z_go {X : Scr} {mi pc : Nat} {L S S1 : List Value} {w w1 : AW} {e : kO} (hk : kI mi pc = some e) (hs : stepI X mi pc e L S w = none) (hc : callE e S w = some (none, S1, w1)) : Z X mi pc L S w = Z X mi (pc + 3) L S1 w1 := by
  refine Z_ext fun q => ⟨fun ⟨n, h⟩ => ?_, fun ⟨n, h⟩ => ⟨n + 1, ?_⟩⟩
  · cases n with
    | zero => simp [ev] at h
    | succ n => rw [ev, hk] at h; dsimp only at h; rw [hs] at h; dsimp only at h; rw [hc] at h; exact ⟨n, h⟩
  · rw [ev, hk]; dsimp only; rw [hs]; dsimp only; rw [hc]; exact h
theorem Z_call {X : Scr} {mi pc y : Nat} {L S S1 As : List Value} {w w1 : AW} {e : kO} (hk : kI mi pc = some e) (hs : stepI X mi pc e L S w = none) (hc : callE e S w = some (some (y, As), S1, w1)) :
    Z X mi pc L S w = (Z X y 0 (entryL (kM y).2.2.1 As) [] w1).bind (fun q => Z X mi (pc + 3) L (q.1.toList ++ S1) q.2) := by
  apply Option.ext
  intro q
  rw [Z_iff, Option.bind_eq_some_iff]
  refine ⟨fun ⟨n, h⟩ => ?_, fun ⟨r, hr, h⟩ => ?_⟩
  · cases n with
    | zero => simp [ev] at h
    | succ n =>
      rw [ev, hk] at h; dsimp only at h; rw [hs] at h; dsimp only at h; rw [hc] at h; dsimp only at h
      cases hy : ev X n y 0 (entryL (kM y).2.2.1 As) [] w1 with
      | none => rw [hy] at h; simp at h
      | some r => rw [hy] at h; exact ⟨r, Z_iff.mpr ⟨n, hy⟩, Z_iff.mpr ⟨n, h⟩⟩
  · obtain ⟨n, hn⟩ := Z_iff.mp hr
    obtain ⟨k, hk2⟩ := Z_iff.mp h
    refine ⟨n + k + 1, ?_⟩
    rw [ev, hk]; dsimp only; rw [hs]; dsimp only; rw [hc]; dsimp only
    rw [ev_le hn (Nat.le_add_right n k)]
    exact ev_le hk2 (Nat.le_add_left k n)
theorem Z_ret {X : Scr} {mi pc : Nat} {L S : List Value} {w : AW} {e : kO} {r : Option Value} (hk : kI mi pc = some e) (hs : stepI X mi pc e L S w = none) (hc : callE e S w = none) (hr : retI mi e S = some r) : Z X mi pc L S w = some (r, w) := by
  refine Z_iff.mpr ⟨1, ?_⟩
  rw [ev, hk]; dsimp only; rw [hs]; dsimp only; rw [hc]; dsimp only; rw [hr]
