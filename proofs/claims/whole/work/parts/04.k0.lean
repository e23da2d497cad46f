/-- the words that a call hands on -/
def zwl : List Cond := lw_tbl.filter goodWord
theorem zwx {x : Cond} (h : x ∈ lw_tbl) (g : goodWord x = true) : x ∈ zwl := List.mem_filter.mpr ⟨h, g⟩
theorem zwm {x : Cond} {p : Nat} (h : lw_tbl[p]? = some x) (g : goodWord x = true) : x ∈ zwl := zwx (List.mem_of_getElem? h) g
/-! CHECKS, by the kernel: the tables hold what the Statement holds -/
def zln : Instr → Nat
  | .bipush _ | .iload _ | .lload _ | .aload _ | .istore _ | .lstore _ | .astore _ | .newarray _ | .ldc _ => 2
  | .sipush _ | .iinc _ _ | .goto _ | .ifCond _ _ | .if_icmp _ _ | .getfield _ | .putfield _ | .getstatic _ | .invokevirtual _ | .invokespecial _ | .invokestatic _ | .new _ | .anewarray _ | .ldc_w _ | .ldc2_w _ => 3
  | .multianewarray _ _ => 4
  | _ => 1
def zlok : Instr → Nat → Bool
  | .tableswitch _ _ _ _, _ => true
  | .lookupswitch _ _, _ => true
  | i, n => n == zln i
def zchk (b : ByteArray) : List (Nat × Instr × Nat) → Bool
  | [] => true
  | q :: l => (match decode b q.1 with
    | .ok r => decide (r = q.2)
    | .error _ => false) && zlok q.2.1 q.2.2 && zchk b l
/-- a method's row, by the places of its words -/
def zrow (q : zMr) (p1 p2 p3 p4 : Nat) : Bool := (match lw_tbl[p1]? with
    | some (.code y b m r) => decide (y = q.1.2.1) && decide (m = q.1.2.2.1) && decide (r = q.1.2.2.2.1) && zchk b q.2
    | _ => false) && decide (lw_tbl[p2]? = some (.initialized q.1.2.1.cls))
  && (if q.1.2.2.2.2.1 then decide (lw_tbl[p3]? = some (.static q.1.2.1)) else decide (lw_tbl[p3]? = some (.instanceMethod q.1.2.1)) && (q.1.2.1.name == "<init>" || decide (lw_tbl[p4]? = some (.selects q.1.2.1.cls q.1.2.1 q.1.2.1))))
  && decide (q.1.2.2.1 ≤ 21) && decide (zOn[q.1.1]? = some q.1.2.1.cls) && plainFor q.1.2.1 && decide (q.1.2.1.cls ≠ "java/lang/invoke/MethodHandle") && decide (q.1.2.1.cls ≠ "java/lang/invoke/VarHandle") && decide ((parseMethodDescriptor q.1.2.1.desc).map (fun d => d.parameters.length) = some q.1.2.2.2.2.2)
def zrowE (q : zMr) : Prop := ∃ p1 p2 p3 p4, zrow q p1 p2 p3 p4 = true
