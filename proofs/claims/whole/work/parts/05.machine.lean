/-! THE ABSTRACT MACHINE. Cells are numbered: 0 the script, 1 the text constant, 2 its bytes, from 3 on what is made, in order. A call of a method is a function: zcall d y args h, d the depth left. -/
abbrev zC : Type := (FieldType × vp_A) ⊕ (Nat × List Value)
/-- how many cells, how many places in them, what they hold -/
abbrev zH : Type := Nat × Nat × (Nat → zC)
abbrev zL : Type := List (Option Value)
def zdum : zC := .inr (99, [])
def zup (f : Nat → zC) (a : Nat) (c : zC) : Nat → zC := fun j => if j = a then c else f j
def zow (y : Nat) : Nat := match zP[y]? with
  | some m => m.1.1
  | none => 0
def zml (y : Nat) : Nat := match zP[y]? with
  | some m => m.1.2.2.1
  | none => 0
def zrt (y : Nat) : Option FieldType := match zP[y]? with
  | some m => m.1.2.2.2.1
  | none => none
def zpn (y : Nat) : Nat := match zP[y]? with
  | some m => m.1.2.2.2.2.2
  | none => 0
def zini (y : Nat) : Bool := match zP[y]? with
  | some m => m.1.2.1.name == "<init>"
  | none => false
def zat (y pc : Nat) : Option (Instr × Nat) := match zP[y]? with
  | some m => m.2.lookup pc
  | none => none
def zfT (ci k : Nat) : FieldType := (zTy.getD ci (fun _ => .int)) k
def zfF (ci k : Nat) : Bool := match zCl[ci]? with
  | some c => (c.2.1 k).2.2.2
  | none => false
def zfN (ci : Nat) : Nat := match zCl[ci]? with
  | some c => c.2.2
  | none => 0
def zcN (ci : Nat) : String := match zCl[ci]? with
  | some c => c.1
  | none => ""
def zfit : FieldType → Value → Bool
  | .int, .int _ => true
  | .long, .long _ => true
  | .object _, .ref _ => true
  | .array _, .ref _ => true
  | .boolean, .int v => v == 0 || v == 1
  | .byte, .int v => v.toInt8.toInt32 == v
  | .char, .int v => (v.toUInt32 % 65536).toInt32 == v
  | _, _ => false
/-! what is read -/
def zcls (h : zH) (a : Nat) : Nat := match h.2.2 a with
  | .inr o => o.1
  | .inl _ => 98
def zgf (h : zH) (a ci k : Nat) : Option Value := match h.2.2 a with
  | .inr o => if o.1 = ci then o.2[k]? else none
  | .inl _ => none
def zig (h : zH) (a k : Nat) : Option Int32 := match h.2.2 a with
  | .inl (.int, n, .inl g) => if k < n then some (g k) else none
  | _ => none
def zbg (h : zH) (a k : Nat) : Option Int32 := match h.2.2 a with
  | .inl (.byte, n, .inl g) => if k < n then some (g k) else none
  | _ => none
def zlg (h : zH) (a k : Nat) : Option Int64 := match h.2.2 a with
  | .inl (.long, n, .inr (.inl g)) => if k < n then some (g k) else none
  | _ => none
def zTs : List FieldType := [.int, .long, .byte, .object "NineNames$Town", .object "NineNames$Script", .array .long]
def zag (h : zH) (a k : Nat) : Option Nat := match h.2.2 a with
  | .inl (t, n, .inr (.inr (.inr (.inr g)))) => if (t ∈ zTs ∧ t.isReference = true) ∧ k < n then g k else none
  | _ => none
def zsc (h : zH) (a k : Nat) : Option Int32 := match h.2.2 a with
  | .inl (.short, n, .inl g) => if a = 0 ∧ k < n then some (g k) else none
  | _ => none
def zsb (h : zH) (a k : Nat) : Option Int32 := match h.2.2 a with
  | .inl (.char, n, .inl g) => if a = 2 ∧ k < n then some (g k) else none
  | _ => none
def zld (h : zH) (a : Nat) (i : Int32) : Option Int32 := if i < 0 then none else match zig h a i.toNatClampNeg with
  | some v => some v
  | none => zsc h a i.toNatClampNeg
def zbd (h : zH) (a : Nat) (i : Int32) : Option Int32 := if i < 0 then none else match zbg h a i.toNatClampNeg with
  | some v => some v
  | none => zsb h a i.toNatClampNeg
def zlen (h : zH) (a : Nat) : Option Nat := match h.2.2 a with
  | .inl (.int, n, .inl _) => some n
  | .inl (.byte, n, .inl _) => some n
  | .inl (.long, n, .inr (.inl _)) => some n
  | .inl (.short, n, .inl _) => if a = 0 then some n else none
  | .inl (.char, n, .inl _) => if a = 2 then some n else none
  | _ => none
/-! what is written -/
def zpf (h : zH) (a k : Nat) (v : Value) : zH := match h.2.2 a with
  | .inr o => (h.1, h.2.1, zup h.2.2 a (.inr (o.1, o.2.set k v)))
  | .inl _ => h
def zpi (h : zH) (a k : Nat) (x : Int32) : zH := match h.2.2 a with
  | .inl (t, n, .inl g) => (h.1, h.2.1, zup h.2.2 a (.inl (t, n, .inl (upd g k x))))
  | _ => h
def zpl (h : zH) (a k : Nat) (x : Int64) : zH := match h.2.2 a with
  | .inl (t, n, .inr (.inl g)) => (h.1, h.2.1, zup h.2.2 a (.inl (t, n, .inr (.inl (vp_updL g k x)))))
  | _ => h
def zpa (h : zH) (a k : Nat) (x : Nat) : zH := match h.2.2 a with
  | .inl (t, n, .inr (.inr (.inr (.inr g)))) => (h.1, h.2.1, zup h.2.2 a (.inl (t, n, .inr (.inr (.inr (.inr (va_up g k (some x))))))))
  | _ => h
def zcpi (h : zH) (a0 a : Nat) (sp dp n : Nat) : zH := match h.2.2 a0, h.2.2 a with
  | .inl (_, _, .inl f), .inl (t, m, .inl g) => (h.1, h.2.1, zup h.2.2 a (.inl (t, m, .inl (va_cpy f g sp dp n))))
  | _, _ => h
def zcpl (h : zH) (a0 a : Nat) (sp dp n : Nat) : zH := match h.2.2 a0, h.2.2 a with
  | .inl (_, _, .inr (.inl f)), .inl (t, m, .inr (.inl g)) => (h.1, h.2.1, zup h.2.2 a (.inl (t, m, .inr (.inl (va_cpy f g sp dp n)))))
  | _, _ => h
def zdef (ci : Nat) : List Value := (List.range (zfN ci)).map (fun k => defaultValue (zfT ci k))
def znew (h : zH) (ci : Nat) : zH := (h.1 + 1, h.2.1 + zfN ci, zup h.2.2 h.1 (.inr (ci, zdef ci)))
def znewi (h : zH) (t : FieldType) (n : Nat) : zH := (h.1 + 1, h.2.1 + n, zup h.2.2 h.1 (.inl (t, n, .inl (fun _ => 0))))
def znewl (h : zH) (n : Nat) : zH := (h.1 + 1, h.2.1 + n, zup h.2.2 h.1 (.inl (.long, n, .inr (.inl (fun _ => 0)))))
def znewa (h : zH) (c : Nat) (n : Nat) : zH := (h.1 + 1, h.2.1 + n, zup h.2.2 h.1 (.inl (.object (zcN c), n, .inr (.inr (.inr (.inr (fun _ => none)))))))
/-- new long[n][k] -/
def znewg (h : zH) (n k : Nat) : zH := (h.1 + (1 + n), h.2.1 + (n + n * k), fun j => if j = h.1 then .inl (.array .long, n, .inr (.inr (.inr (.inr (fun i => if i < n then some (h.1 + 1 + i) else none))))) else if h.1 < j ∧ j < h.1 + 1 + n then .inl (.long, k, .inr (.inl (fun _ => 0))) else h.2.2 j)
/-! instructions that touch the operands alone -/
def zint2 (f : Int32 → Int32 → Int32) : List Value → Option (List Value)
  | .int y :: .int x :: r => some (.int (f x y) :: r)
  | _ => none
def zlong2 (f : Int64 → Int64 → Int64) : List Value → Option (List Value)
  | .long y :: .long x :: r => some (.long (f x y) :: r)
  | _ => none
def zint1 (f : Int32 → Value) : List Value → Option (List Value)
  | .int x :: r => some (f x :: r)
  | _ => none
def zlong1 (f : Int64 → Value) : List Value → Option (List Value)
  | .long x :: r => some (f x :: r)
  | _ => none
def zpure (i : Instr) (st : List Value) : Option (List Value) :=
  match i with
  | .iconst n => some (.int (Int32.ofInt n) :: st)
  | .bipush n => some (.int (Int8.ofInt n).toInt32 :: st)
  | .sipush n => some (.int (Int16.ofInt n).toInt32 :: st)
  | .lconst n => some (.long (Int64.ofNat (n : Nat)) :: st)
  | .iadd => zint2 (fun x y => x + y) st
  | .isub => zint2 (fun x y => x - y) st
  | .imul => zint2 (fun x y => x * y) st
  | .iand => zint2 (fun x y => x &&& y) st
  | .ior => zint2 (fun x y => x ||| y) st
  | .ixor => zint2 (fun x y => x ^^^ y) st
  | .ishl => zint2 (fun x y => x <<< (y &&& 31)) st
  | .ishr => zint2 (fun x y => x >>> (y &&& 31)) st
  | .iushr => zint2 (fun x y => (x.toUInt32 >>> (y.toUInt32 &&& Int32.toUInt32 31)).toInt32) st
  | .idiv => match st with
    | .int y :: .int x :: r => if y = 0 then none else some (.int (x / y) :: r)
    | _ => none
  | .irem => match st with
    | .int y :: .int x :: r => if y = 0 then none else some (.int (x - x / y * y) :: r)
    | _ => none
  | .ladd => zlong2 (fun x y => x + y) st
  | .lsub => zlong2 (fun x y => x - y) st
  | .lmul => zlong2 (fun x y => x * y) st
  | .land => zlong2 (fun x y => x &&& y) st
  | .lor => zlong2 (fun x y => x ||| y) st
  | .ldiv => match st with
    | .long y :: .long x :: r => if y = 0 then none else some (.long (x / y) :: r)
    | _ => none
  | .lrem => match st with
    | .long y :: .long x :: r => if y = 0 then none else some (.long (x - x / y * y) :: r)
    | _ => none
  | .lshl => match st with
    | .int y :: .long x :: r => some (.long (x <<< (y.toInt64 &&& 63)) :: r)
    | _ => none
  | .lcmp => match st with
    | .long y :: .long x :: r => some (.int (lg_cmp x y) :: r)
    | _ => none
  | .lneg => zlong1 (fun x => .long (-x)) st
  | .i2l => zint1 (fun x => .long x.toInt64) st
  | .l2i => zlong1 (fun x => .int x.toInt32) st
  | .i2b => zint1 (fun x => .int x.toInt8.toInt32) st
  | .i2s => zint1 (fun x => .int x.toInt16.toInt32) st
  | .i2c => zint1 (fun x => .int (x.toUInt32 % 65536).toInt32) st
  | .dup => match st with
    | v :: r => if v.category = 1 then some (v :: v :: r) else none
    | _ => none
  | .pop => match st with
    | v :: r => if v.category = 1 then some r else none
    | _ => none
  | .dup2 => match st with
    | .int x :: w :: r => if w.category = 1 then some (.int x :: w :: .int x :: w :: r) else none
    | .long x :: r => some (.long x :: .long x :: r)
    | _ => none
  | _ => none
/-! variables -/
def zclr : Option Value → Option Value
  | some (.long _) => none
  | some (.double _) => none
  | v => v
def zset1 : zL → Nat → Value → zL
  | [], _, _ => []
  | _ :: ls, 0, v => some v :: ls
  | l :: ls, k + 1, v => (if k = 0 then zclr l else l) :: zset1 ls k v
def zset2 : zL → Nat → Value → zL
  | [], _, _ => []
  | [l], _, _ => [l]
  | _ :: _ :: ls, 0, v => some v :: none :: ls
  | l :: m :: ls, k + 1, v => (if k = 0 then zclr l else l) :: zset2 (m :: ls) k v
def zivar (ls : zL) (k : Nat) : Option Int32 := match ls[k]? with
  | some (some (.int x)) => some x
  | _ => none
def zlvar (ls : zL) (k : Nat) : Option Int64 := match ls[k]? with
  | some (some (.long x)) => some x
  | _ => none
def zavar (ls : zL) (k : Nat) : Option Nat := match ls[k]? with
  | some (some (.ref x)) => some x
  | _ => none
def zist (ls : zL) (k : Nat) (st : List Value) : Option (zL × List Value) := match st with
  | .int x :: r => if k < ls.length then some (zset1 ls k (.int x), r) else none
  | _ => none
def zast (ls : zL) (k : Nat) (st : List Value) : Option (zL × List Value) := match st with
  | .ref x :: r => if k < ls.length then some (zset1 ls k (.ref x), r) else none
  | _ => none
def zlst (ls : zL) (k : Nat) (st : List Value) : Option (zL × List Value) := match st with
  | .long x :: r => if k + 1 < ls.length then some (zset2 ls k (.long x), r) else none
  | _ => none
def zloc (i : Instr) (ls : zL) (st : List Value) : Option (zL × List Value) :=
  match i with
  | .iload k => (zivar ls k).map (fun x => (ls, .int x :: st))
  | .iload_n k => (zivar ls k).map (fun x => (ls, .int x :: st))
  | .lload k => (zlvar ls k).map (fun x => (ls, .long x :: st))
  | .lload_n k => (zlvar ls k).map (fun x => (ls, .long x :: st))
  | .aload k => (zavar ls k).map (fun x => (ls, .ref x :: st))
  | .aload_n k => (zavar ls k).map (fun x => (ls, .ref x :: st))
  | .istore k => zist ls k st
  | .istore_n k => zist ls k st
  | .lstore k => zlst ls k st
  | .lstore_n k => zlst ls k st
  | .astore k => zast ls k st
  | .astore_n k => zast ls k st
  | .iinc k n => (zivar ls k).map (fun x => (zset1 ls k (.int (x + Int32.ofInt n)), st))
  | _ => none
/-! branches -/
def ztg (pc : Nat) (off : Int) (st : List Value) : Option (Nat × List Value) := if 0 ≤ (pc : Int) + off then some (((pc : Int) + off).toNat, st) else none
def zbr (c : ClassFile.Cond) (x y : Int32) (t e : Option (Nat × List Value)) : Option (Nat × List Value) :=
  match c with
  | .eq => if x = y then t else e
  | .ne => if x = y then e else t
  | .lt => if x < y then t else e
  | .ge => if y ≤ x then t else e
  | .gt => if y < x then t else e
  | .le => if x ≤ y then t else e
def zjmp (i : Instr) (pc : Nat) (st : List Value) : Option (Nat × List Value) :=
  match i with
  | .goto off => ztg pc off st
  | .ifCond c off => match st with
    | .int x :: r => if 0 ≤ (pc : Int) + off then zbr c x 0 (some (((pc : Int) + off).toNat, r)) (some (pc + 3, r)) else none
    | _ => none
  | .if_icmp c off => match st with
    | .int y :: .int x :: r => if 0 ≤ (pc : Int) + off then zbr c x y (some (((pc : Int) + off).toNat, r)) (some (pc + 3, r)) else none
    | _ => none
  | .tableswitch dflt lo hi offs => match st with
    | .int x :: r => if x.toInt < lo ∨ hi < x.toInt then ztg pc dflt r else match offs[(x.toInt - lo).toNat]? with
      | some off => ztg pc off r
      | none => none
    | _ => none
  | .lookupswitch dflt ps => match st with
    | .int x :: r => if (ps.toList.zip (ps.toList.drop 1)).all (fun (a, next) => a.1 < next.1) = true then ztg pc (Op.lookupswitch.offset ps.toList dflt x.toInt) r else none
    | _ => none
  | _ => none
/-! the heap -/
def zsz (n : Int32) : Bool := !(n < 0) && n.toNatClampNeg ≤ 5000
def zheap (y : Nat) (i : Instr) (st : List Value) (h : zH) : Option (List Value × zH) :=
  match i with
  | .getfield ix => match (zFk.getD (zow y) []).lookup ix, st with
    | some (ci, k), .ref a :: r => if ci < 13 ∨ a = 1 then (zgf h a ci k).map (fun v => (v :: r, h)) else none
    | _, _ => none
  | .putfield ix => match (zFk.getD (zow y) []).lookup ix, st with
    | some (ci, k), v :: .ref a :: r => if ci < 13 ∧ k < zfN ci ∧ (zgf h a ci k).isSome = true ∧ zfit (zfT ci k) v = true ∧ (zfF ci k = true → zini y = true ∧ zow y = ci) then some (r, zpf h a k v) else none
    | _, _ => none
  | .iaload => match st with
    | .int i :: .ref a :: r => (zld h a i).map (fun v => (.int v :: r, h))
    | _ => none
  | .baload => match st with
    | .int i :: .ref a :: r => (zbd h a i).map (fun v => (.int v :: r, h))
    | _ => none
  | .laload => match st with
    | .int i :: .ref a :: r => if i < 0 then none else (zlg h a i.toNatClampNeg).map (fun v => (.long v :: r, h))
    | _ => none
  | .aaload => match st with
    | .int i :: .ref a :: r => if i < 0 then none else (zag h a i.toNatClampNeg).map (fun v => (.ref v :: r, h))
    | _ => none
  | .iastore => match st with
    | .int x :: .int i :: .ref a :: r => if i < 0 then none else if (zig h a i.toNatClampNeg).isSome = true then some (r, zpi h a i.toNatClampNeg x) else none
    | _ => none
  | .bastore => match st with
    | .int x :: .int i :: .ref a :: r => if i < 0 then none else if (zbg h a i.toNatClampNeg).isSome = true then some (r, zpi h a i.toNatClampNeg x.toInt8.toInt32) else none
    | _ => none
  | .lastore => match st with
    | .long x :: .int i :: .ref a :: r => if i < 0 then none else if (zlg h a i.toNatClampNeg).isSome = true then some (r, zpl h a i.toNatClampNeg x) else none
    | _ => none
  | .aastore => match st with
    | .ref x :: .int i :: .ref a :: r => if i < 0 then none else match h.2.2 a with
      | .inl (.object C, n, .inr (.inr (.inr (.inr _)))) => if i.toNatClampNeg < n ∧ zcls h x < 13 ∧ zcN (zcls h x) = C ∧ FieldType.object C ∈ zTs then some (r, zpa h a i.toNatClampNeg x) else none
      | _ => none
    | _ => none
  | .arraylength => match st with
    | .ref a :: r => (zlen h a).map (fun n => (.int (Int32.ofNat n) :: r, h))
    | _ => none
  | .new ix => match (zCk.getD (zow y) []).lookup ix with
    | some ci => if ci < 13 ∧ ci ≠ 1 then some (.ref h.1 :: st, znew h ci) else none
    | none => none
  | .newarray .int => match st with
    | .int n :: r => if zsz n = true then some (.ref h.1 :: r, znewi h .int n.toNatClampNeg) else none
    | _ => none
  | .newarray .byte => match st with
    | .int n :: r => if zsz n = true then some (.ref h.1 :: r, znewi h .byte n.toNatClampNeg) else none
    | _ => none
  | .newarray .long => match st with
    | .int n :: r => if zsz n = true then some (.ref h.1 :: r, znewl h n.toNatClampNeg) else none
    | _ => none
  | .anewarray ix => match (zCk.getD (zow y) []).lookup ix, st with
    | some ci, .int n :: r => if zsz n = true ∧ (ci = 6 ∨ ci = 7) then some (.ref h.1 :: r, znewa h ci n.toNatClampNeg) else none
    | _, _ => none
  | .multianewarray ix 2 => match st with
    | .int k :: .int n :: r => if zsz n = true ∧ zsz k = true ∧ zow y = 9 ∧ ix = 18 then some (.ref h.1 :: r, znewg h n.toNatClampNeg k.toNatClampNeg) else none
    | _ => none
  | .ldc ix => match (zKk.getD (zow y) []).lookup ix with
    | some v => some (.int v :: st, h)
    | none => if zow y = 4 ∧ ix = 26 then some (.ref 1 :: st, h) else none
  | .ldc_w ix => match (zKk.getD (zow y) []).lookup ix with
    | some v => some (.int v :: st, h)
    | none => none
  | .ldc2_w ix => match (zJk.getD (zow y) []).lookup ix with
    | some v => some (.long v :: st, h)
    | none => none
  | .getstatic ix => match (zGk.getD (zow y) []).lookup ix with
    | some 0 => some (.int 1 :: st, h)
    | some 1 => some (.retAddr 0 :: st, h)
    | _ => none
  | .invokespecial ix => match (zMk.getD (zow y) []).lookup ix, st with
    | some (3, _), .ref _ :: r => if r.length ≤ 4 then some (r, h) else none
    | _, _ => none
  | .invokestatic ix => match (zMk.getD (zow y) []).lookup ix, st with
    | some (4, _), .int n :: .int dp :: .ref a :: .int sp :: .ref a0 :: r =>
      if sp < 0 ∨ dp < 0 ∨ n < 0 ∨ 4 < r.length then none else match h.2.2 a0, h.2.2 a with
      | .inl (.int, n0, .inl _), .inl (.int, n1, .inl _) => if sp.toNatClampNeg + n.toNatClampNeg ≤ n0 ∧ dp.toNatClampNeg + n.toNatClampNeg ≤ n1 then some (r, zcpi h a0 a sp.toNatClampNeg dp.toNatClampNeg n.toNatClampNeg) else none
      | .inl (.long, n0, .inr (.inl _)), .inl (.long, n1, .inr (.inl _)) => if sp.toNatClampNeg + n.toNatClampNeg ≤ n0 ∧ dp.toNatClampNeg + n.toNatClampNeg ≤ n1 then some (r, zcpl h a0 a sp.toNatClampNeg dp.toNatClampNeg n.toNatClampNeg) else none
      | _, _ => none
    | _, _ => none
  | _ => none
/-! the end of a method, and calls -/
def zretn (y : Nat) (i : Instr) (st : List Value) : Option (Option Value) :=
  match i with
  | .ireturn => match zrt y, st with
    | some ty, [.int v] => if zfit ty (.int v) = true then some (some (.int v)) else none
    | _, _ => none
  | .lreturn => match zrt y, st with
    | some .long, [.long v] => some (some (.long v))
    | _, _ => none
  | .return_ => match zrt y, st with
    | none, [] => some none
    | _, _ => none
  | _ => none
/-- a method's variables at its entry -/
def zargs : List Value → zL
  | [] => []
  | .long v :: r => some (.long v) :: none :: zargs r
  | .double v :: r => some (.double v) :: none :: zargs r
  | v :: r => some v :: zargs r
def zcal (y : Nat) (i : Instr) (st : List Value) (h : zH) : Option (Nat × List Value × List Value) :=
  match i with
  | .invokevirtual ix => match (zMk.getD (zow y) []).lookup ix with
    | some (0, y') => match st.drop (zpn y') with
      | .ref b :: r => if r.length ≤ 4 ∧ zcls h b = zow y' ∧ (zow y' < 13 ∨ b = 1) ∧ (st.take (zpn y')).length = zpn y' ∧ (zargs (.ref b :: (st.take (zpn y')).reverse)).length ≤ zml y' then some (y', .ref b :: (st.take (zpn y')).reverse, r) else none
      | _ => none
    | _ => none
  | .invokestatic ix => match (zMk.getD (zow y) []).lookup ix with
    | some (1, y') => if zpn y' ≤ st.length ∧ (st.drop (zpn y')).length ≤ 4 ∧ (zargs (st.take (zpn y')).reverse).length ≤ zml y' then some (y', (st.take (zpn y')).reverse, st.drop (zpn y')) else none
    | _ => none
  | .invokespecial ix => match (zMk.getD (zow y) []).lookup ix with
    | some (2, y') => match st.drop (zpn y') with
      | .ref b :: r => if r.length ≤ 4 ∧ (st.take (zpn y')).length = zpn y' ∧ (zargs (.ref b :: (st.take (zpn y')).reverse)).length ≤ zml y' then some (y', .ref b :: (st.take (zpn y')).reverse, r) else none
      | _ => none
    | _ => none
  | _ => none
def zent (y : Nat) (args : List Value) : zL := zargs args ++ List.replicate (zml y - (zargs args).length) none
/-- what an instruction does: on in the frame; the end; a call -/
abbrev zO : Type := (Nat × zL × List Value × zH) ⊕ ((Option Value × zH) ⊕ (Nat × List Value × List Value))
def zstep (y pc : Nat) (i : Instr) (len : Nat) (ls : zL) (st : List Value) (h : zH) : Option zO :=
  match zpure i st with
  | some st' => some (.inl (pc + len, ls, st', h))
  | none => match zloc i ls st with
    | some (ls', st') => some (.inl (pc + len, ls', st', h))
    | none => match zjmp i pc st with
      | some (pc', st') => some (.inl (pc', ls, st', h))
      | none => match zheap y i st h with
        | some (st', h') => some (.inl (pc + len, ls, st', h'))
        | none => match zretn y i st with
          | some r => some (.inr (.inl (r, h)))
          | none => match zcal y i st h with
            | some q => some (.inr (.inr q))
            | none => none
def zrun : Nat → Nat → Nat → Nat → zL → List Value → zH → Option (Option Value × zH)
  | 0, _, _, _, _, _, _ => none
  | n + 1, d, y, pc, ls, st, h => match zat y pc with
    | none => none
    | some (i, len) => match zstep y pc i len ls st h with
      | none => none
      | some (.inl q) => zrun n d y q.1 q.2.1 q.2.2.1 q.2.2.2
      | some (.inr (.inl q)) => some q
      | some (.inr (.inr q)) => match d with
        | 0 => none
        | d' + 1 => match zrun n d' q.1 0 (zent q.1 q.2.1) [] h with
          | none => none
          | some r => zrun n (d' + 1) y (pc + 3) ls (r.1.toList ++ q.2.2) r.2
theorem zrun_more : ∀ (n d y pc : Nat) (ls : zL) (st : List Value) (h : zH) (r : Option Value × zH), zrun n d y pc ls st h = some r → zrun (n + 1) d y pc ls st h = some r := by
  intro n
  induction n with
  | zero => intro d y pc ls st h r e; cases e
  | succ n ih =>
    intro d y pc ls st h r e
    rw [zrun] at e ⊢
    cases ha : zat y pc with
    | none => rw [ha] at e; cases e
    | some il =>
      rw [ha] at e
      obtain ⟨i, len⟩ := il
      dsimp only at e ⊢
      cases hs : zstep y pc i len ls st h with
      | none => rw [hs] at e; cases e
      | some o =>
        rw [hs] at e
        rcases o with q | q | q
        · dsimp only at e ⊢
          exact ih _ _ _ _ _ _ _ e
        · exact e
        · cases d with
          | zero => cases e
          | succ d' =>
            dsimp only at e ⊢
            cases hr : zrun n d' q.1 0 (zent q.1 q.2.1) [] h with
            | none => rw [hr] at e; cases e
            | some r1 =>
              rw [hr] at e
              rw [ih _ _ _ _ _ _ _ hr]
              dsimp only at e ⊢
              exact ih _ _ _ _ _ _ _ e
theorem zrun_le {n m d y pc : Nat} {ls : zL} {st : List Value} {h : zH} {r : Option Value × zH} (hm : n ≤ m) (e : zrun n d y pc ls st h = some r) : zrun m d y pc ls st h = some r := by
  obtain ⟨k, rfl⟩ := Nat.le.dest hm
  clear hm
  induction k with
  | zero => exact e
  | succ k ih => exact zrun_more _ _ _ _ _ _ _ _ ih

/-- what comes of a frame, if it ends -/
noncomputable def zexec (d y pc : Nat) (ls : zL) (st : List Value) (h : zH) : Option (Option Value × zH) :=
  match Classical.propDecidable (∃ r : Option Value × zH, ∃ n, zrun n d y pc ls st h = some r) with
  | .isTrue e => some e.choose
  | .isFalse _ => none
theorem zexec_some {d y pc : Nat} {ls : zL} {st : List Value} {h : zH} {r : Option Value × zH} : zexec d y pc ls st h = some r ↔ ∃ n, zrun n d y pc ls st h = some r := by
  unfold zexec
  cases Classical.propDecidable (∃ r : Option Value × zH, ∃ n, zrun n d y pc ls st h = some r) with
  | isTrue e =>
    dsimp only
    obtain ⟨n, hn⟩ := e.choose_spec
    constructor
    · intro q
      exact ⟨n, by rw [hn]; exact q⟩
    · rintro ⟨m, hm⟩
      have h1 := zrun_le (Nat.le_max_left n m) hn
      have h2 := zrun_le (Nat.le_max_right n m) hm
      rw [h1] at h2
      exact h2
  | isFalse e =>
    dsimp only
    constructor
    · intro q; cases q
    · rintro ⟨m, hm⟩
      exact absurd ⟨r, m, hm⟩ e
theorem zexec_ext {d y pc d' y' pc' : Nat} {ls ls' : zL} {st st' : List Value} {h h' : zH} (e : ∀ r, (∃ n, zrun n d y pc ls st h = some r) ↔ (∃ n, zrun n d' y' pc' ls' st' h' = some r)) : zexec d y pc ls st h = zexec d' y' pc' ls' st' h' := by
  apply Option.ext
  intro r
  rw [zexec_some, zexec_some]
  exact e r
/-- a method's call -/
noncomputable def zcall (d y : Nat) (args : List Value) (h : zH) : Option (Option Value × zH) := zexec d y 0 (zent y args) [] h
noncomputable def zgo (d y pc : Nat) (ls : zL) (h : zH) : Option zO → Option (Option Value × zH)
  | none => none
  | some (.inl q) => zexec d y q.1 q.2.1 q.2.2.1 q.2.2.2
  | some (.inr (.inl q)) => some q
  | some (.inr (.inr q)) => match d with
    | 0 => none
    | d' + 1 => (zcall d' q.1 q.2.1 h).bind (fun r => zexec (d' + 1) y (pc + 3) ls (r.1.toList ++ q.2.2) r.2)
theorem zexec_eq {y pc : Nat} {i : Instr} {len : Nat} (ha : zat y pc = some (i, len)) (d : Nat) (ls : zL) (st : List Value) (h : zH) : zexec d y pc ls st h = zgo d y pc ls h (zstep y pc i len ls st h) := by
  apply Option.ext
  intro r
  rw [zexec_some]
  have un : ∀ n, zrun (n + 1) d y pc ls st h = (match zstep y pc i len ls st h with
      | none => none
      | some (.inl q) => zrun n d y q.1 q.2.1 q.2.2.1 q.2.2.2
      | some (.inr (.inl q)) => some q
      | some (.inr (.inr q)) => match d with
        | 0 => none
        | d' + 1 => match zrun n d' q.1 0 (zent q.1 q.2.1) [] h with
          | none => none
          | some r => zrun n (d' + 1) y (pc + 3) ls (r.1.toList ++ q.2.2) r.2) := fun n => by
    rw [zrun, ha]
  have pos : (∃ n, zrun n d y pc ls st h = some r) ↔ ∃ n, zrun (n + 1) d y pc ls st h = some r := by
    constructor
    · rintro ⟨n, hn⟩; exact ⟨n, zrun_more _ _ _ _ _ _ _ _ hn⟩
    · rintro ⟨n, hn⟩; exact ⟨n + 1, hn⟩
  rw [pos]
  constructor
  · rintro ⟨n, hn⟩
    rw [un] at hn
    cases hs : zstep y pc i len ls st h with
    | none => rw [hs] at hn; cases hn
    | some o =>
      rw [hs] at hn
      rcases o with q | q | q
      · exact zexec_some.mpr ⟨n, hn⟩
      · exact hn
      · cases d with
        | zero => cases hn
        | succ d' =>
          dsimp only at hn
          cases hr : zrun n d' q.1 0 (zent q.1 q.2.1) [] h with
          | none => rw [hr] at hn; cases hn
          | some r1 =>
            rw [hr] at hn
            dsimp only at hn
            have h1 : zcall d' q.1 q.2.1 h = some r1 := zexec_some.mpr ⟨n, hr⟩
            show (zcall d' q.1 q.2.1 h).bind _ = some r
            rw [h1]
            exact zexec_some.mpr ⟨n, hn⟩
  · intro hn
    cases hs : zstep y pc i len ls st h with
    | none => rw [hs] at hn; cases hn
    | some o =>
      rw [hs] at hn
      rcases o with q | q | q
      · obtain ⟨n, e⟩ := zexec_some.mp hn
        exact ⟨n, by rw [un, hs]; exact e⟩
      · exact ⟨0, by rw [un, hs]; exact hn⟩
      · cases d with
        | zero => cases hn
        | succ d' =>
          have hn : (zcall d' q.1 q.2.1 h).bind (fun r => zexec (d' + 1) y (pc + 3) ls (r.1.toList ++ q.2.2) r.2) = some r := hn
          cases hc : zcall d' q.1 q.2.1 h with
          | none => rw [hc] at hn; cases hn
          | some r1 =>
            rw [hc] at hn
            obtain ⟨n1, e1⟩ := zexec_some.mp hc
            obtain ⟨n2, e2⟩ := zexec_some.mp hn
            refine ⟨max n1 n2, ?_⟩
            rw [un, hs]
            dsimp only
            rw [zrun_le (Nat.le_max_left n1 n2) e1]
            exact zrun_le (Nat.le_max_right n1 n2) e2
