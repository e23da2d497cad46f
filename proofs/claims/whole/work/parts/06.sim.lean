/-! THE SIMULATION, first half: worlds, operands, variables, branches -/
/-- a world: where the new cells begin; the old cells' addresses; a static that nobody reads; numbers of classes and slots; classes of arrays; the script -/
abbrev zG : Type := Nat × (Nat → Nat) × Value × va_G × (FieldType → ClassId) × (Nat × (Nat → Int32))
def zad (w : zG) (i : Nat) : Nat := if i < 3 then w.2.1 i else w.1 + (i - 3)
def zv (w : zG) : Value → Value
  | .ref i => .ref (zad w i)
  | .retAddr _ => w.2.2.1
  | v => v
def zvs (w : zG) (st : List Value) : List Value := st.map (zv w)
def zce (w : zG) : zC → va_E
  | .inl (t, n, .inr (.inr (.inr (.inr g)))) => .inl (w.2.2.2.2.1 t, n, .inr (.inr (.inr (.inr (fun j => (g j).map (zad w))))))
  | .inl (t, n, .inl g) => .inl (w.2.2.2.2.1 t, n, .inl g)
  | .inl (t, n, .inr (.inl g)) => .inl (w.2.2.2.2.1 t, n, .inr (.inl g))
  | .inl (t, n, .inr (.inr (.inl g))) => .inl (w.2.2.2.2.1 t, n, .inr (.inr (.inl g)))
  | .inl (t, n, .inr (.inr (.inr (.inl g)))) => .inl (w.2.2.2.2.1 t, n, .inr (.inr (.inr (.inl g))))
  | .inr (ci, fs) => .inr (ci, fs.map (zv w))
def zws (w : zG) (h : zH) : va_W := (List.range (h.1 - 3)).map (fun i => (w.1 + i, zce w (h.2.2 (i + 3))))
def ztys (w : zG) : List (ClassId × FieldType) := zTs.map (fun t => (w.2.2.2.2.1 t, t))
def zby : List Int32 := [121, 101, 97, 114, 32, 109, 111, 115, 116, 32, 108, 105, 102, 101, 32, 110, 97, 109, 101, 32, 119, 111, 114, 116, 104, 32, 112, 101, 114, 115, 111, 110, 32, 98, 111, 114, 110, 32, 111, 102, 32, 99, 111, 105, 110, 115, 32, 109, 105, 115, 101, 114, 32, 99, 104, 105, 108, 100, 32, 119, 101, 100, 32, 108, 105, 107, 101, 115, 32, 119, 97, 105, 116, 115, 32, 102, 111, 114, 32, 100, 105, 101, 32, 98, 105, 114, 116, 104, 32, 115, 101, 108, 108, 32, 115, 119, 97, 112, 32, 97, 110, 121, 32, 119, 104, 101, 110, 32, 98, 101, 97, 114, 115, 32, 100, 97, 115, 104, 32, 102, 114, 101, 101, 32, 108, 111, 111, 112, 32, 101, 110, 100, 32, 115, 116, 111, 112, 32]
def zA (w : zG) : Nat → Prop := fun q => w.1 ≤ q
def zPic (w : zG) (h : zH) (H : Heap) : Prop := va_P w.2.2.2.1 zCl (zws w h) H ∧ 3 ≤ h.1 ∧ (∀ a, h.1 ≤ a → h.2.2 a = zdum) ∧ h.2.2 0 = .inl (.short, w.2.2.2.2.2.1, .inl w.2.2.2.2.2.2) ∧ h.2.2 1 = .inr (13, [.ref 2, .int 0]) ∧ h.2.2 2 = .inl (.char, 138, .inl (fun j => zby.getD j 0))
def zAOA (U : State) : Prop := (Cond.arrayOver (.array .long)).before #[] U = true
theorem zAOA_moved {u U : State} (hvm : u.vm.Alike U.vm) (h : zAOA u) : zAOA U := by
  obtain ⟨comp, c, k, h1, h2, h3, h4, h5⟩ := arrayOverA_spec h
  obtain ⟨k', hk', he⟩ := hvm.2.2 _ _ h3
  have hi : (U.vm.classes.findIdx? fun (x : Class) => match x.kind with | .array component _ => component == comp | _ => false) = some c := by
    have e1 := va_idx_bare U.vm comp
    have e2 := va_idx_bare u.vm comp
    have hb : U.vm.bare = u.vm.bare := by first | exact hvm.bare_eq | exact hvm.bare_eq.symm
    rw [hb] at e1
    exact (e1.symm.trans e2).trans h2
  have hkind : k'.kind = .array comp (.array .long) := by rw [he]; exact h4
  have f1 : U.vm.findClass (FieldType.array .long).toString = some comp := by rw [hvm.findClass]; exact h1
  have f2 : U.vm.findClass ("[" ++ (FieldType.array .long).toString) = some c := by rw [hvm.findClass]; exact h5
  unfold zAOA Cond.before Cond.holds
  simp only [Cond.value]
  rw [f1, Option.bind_some]
  refine (congrArg (fun o : Option Nat => (o.bind (fun c => (U.vm.classes[c]?).map fun (k : Class) => match k.kind with | .array _ ty => decide (ty = FieldType.array .long) && decide (U.vm.findClass ("[" ++ (FieldType.array .long).toString) = some c) | _ => false) == some true)) hi).trans ?_
  simp [hk', hkind, f2]
def zU (w : zG) (U : State) (H : Heap) : Prop := va_K w.2.2.2.1 zCl (ztys w) U ∧ w.1 ≤ H.size ∧ w.2.1 0 < w.1 ∧ va_X (w.2.1 0) w.2.2.2.2.2.1 w.2.2.2.2.2.2 U H ∧ vk_S 1 [138] [zby] (fun _ => w.2.1 1) (fun _ => w.2.1 2) (zA w) U H ∧ va_Z "java/lang/String" "COMPACT_STRINGS" "Z" (.int 1) (zA w) U H ∧ va_Z "jdk/internal/util/Preconditions" "SIOOBE_FORMATTER" "Ljava/util/function/BiFunction;" w.2.2.1 (zA w) U H ∧ ((∃ tx, vk_R "NineNames$Reader" 26 tx (w.2.1 1) U) ∧ va_AO "NineNames$Town" U ∧ va_AO "NineNames$Script" U ∧ zAOA U) ∧ w.2.2.1.category = 1
theorem zv_cat {w : zG} (hz : w.2.2.1.category = 1) (v : Value) : (zv w v).category = v.category := by
  cases v <;> first | rfl | exact hz
theorem zvs_cat {w : zG} (hz : w.2.2.1.category = 1) (st : List Value) : ((zvs w st).map fun v => v.category) = st.map fun v => v.category := by
  unfold zvs
  rw [List.map_map]
  exact List.map_congr_left (fun v _ => zv_cat hz v)
theorem zcat_le (st : List Value) : (st.map fun v => v.category).sum ≤ 2 * st.length := by
  induction st with
  | nil => exact Nat.le_refl _
  | cons v st ih =>
    have : v.category ≤ 2 := by cases v <;> simp [Value.category]
    simp only [List.map_cons, List.sum_cons, List.length_cons]
    omega
theorem zchk_at {b : ByteArray} {pc : Nat} {r : Instr × Nat} : ∀ {l : List (Nat × Instr × Nat)}, zchk b l = true → l.lookup pc = some r → decode b pc = .ok r ∧ zlok r.1 r.2 = true
  | [], _, h => by cases h
  | q :: l, h, h2 => by
    simp only [zchk, Bool.and_eq_true] at h
    obtain ⟨k, v⟩ := q
    rw [List.lookup_cons] at h2
    by_cases e : pc = k
    · subst e
      simp at h2
      subst h2
      obtain ⟨⟨h1, h3⟩, -⟩ := h
      dsimp only at h1 h3
      cases hd : decode b pc with
      | ok r =>
        rw [hd] at h1
        simp at h1
        rw [h1]
        exact ⟨rfl, h3⟩
      | error x => rw [hd] at h1; cases h1
    · have e2 : (pc == k) = false := by simp [e]
      rw [e2] at h2
      exact zchk_at h.2 h2
theorem zint2_some {f : Int32 → Int32 → Int32} {st st' : List Value} (h : zint2 f st = some st') : ∃ y x r, st = .int y :: .int x :: r ∧ st' = .int (f x y) :: r := by
  unfold zint2 at h
  split at h
  · cases h; exact ⟨_, _, _, rfl, rfl⟩
  · cases h
theorem zlong2_some {f : Int64 → Int64 → Int64} {st st' : List Value} (h : zlong2 f st = some st') : ∃ y x r, st = .long y :: .long x :: r ∧ st' = .long (f x y) :: r := by
  unfold zlong2 at h
  split at h
  · cases h; exact ⟨_, _, _, rfl, rfl⟩
  · cases h
theorem zint1_some {f : Int32 → Value} {st st' : List Value} (h : zint1 f st = some st') : ∃ x r, st = .int x :: r ∧ st' = f x :: r := by
  unfold zint1 at h
  split at h
  · cases h; exact ⟨_, _, rfl, rfl⟩
  · cases h
theorem zlong1_some {f : Int64 → Value} {st st' : List Value} (h : zlong1 f st = some st') : ∃ x r, st = .long x :: r ∧ st' = f x :: r := by
  unfold zlong1 at h
  split at h
  · cases h; exact ⟨_, _, rfl, rfl⟩
  · cases h
theorem zln_eq {i : Instr} {n : Nat} (h : zlok i n = true) (k : Nat) (hk : zlok i n = (n == k)) : n = k := by
  rw [hk] at h
  exact beq_iff_eq.mp h
section ZS
variable {p : Program} {l : Launch} {e : Env} {R : Room} {s : State} {m : MethodId} {args : Array Value} {below : List Frame} {meth : Method} {c : Code} {H : Heap} {locs : List Loc} {cells slots : Nat} {Q : State → Prop} {cc : ByteArray} {pc : Nat} {ls : Array Slot}
set_option maxHeartbeats 4000000 in
theorem zs_pure {w : zG} (hz : w.2.2.1.category = 1) (hx : p.tables.exec = Jvm.exec) (hb : c.code = cc) {i : Instr} {len : Nat} {st st' : List Value} (hd : decode cc pc = .ok (i, len)) (hl : zlok i len = true) (he : zpure i st = some st')
    (k : W p l e R s m args below meth c H locs cells slots Q (F0 m (pc + len) ls (zvs w st'))) : W p l e R s m args below meth c H locs cells slots Q (F0 m pc ls (zvs w st)) := by
  cases i
  case iconst n => cases he; obtain rfl := zln_eq hl 1 rfl; exact lv_iconst hx hb hd rfl k
  case bipush n => cases he; obtain rfl := zln_eq hl 2 rfl; exact lv_bipush hx hb hd rfl k
  case sipush n => cases he; obtain rfl := zln_eq hl 3 rfl; exact lv_sipush hx hb hd rfl k
  case lconst n => cases he; obtain rfl := zln_eq hl 1 rfl; exact lv_lconst hx hb hd rfl k
  case iadd => obtain ⟨y, x, r, rfl, rfl⟩ := zint2_some he; obtain rfl := zln_eq hl 1 rfl; exact lv_iadd hx hb hd k
  case isub => obtain ⟨y, x, r, rfl, rfl⟩ := zint2_some he; obtain rfl := zln_eq hl 1 rfl; exact lv_isub hx hb hd k
  case imul => obtain ⟨y, x, r, rfl, rfl⟩ := zint2_some he; obtain rfl := zln_eq hl 1 rfl; exact lv_imul hx hb hd k
  case iand => obtain ⟨y, x, r, rfl, rfl⟩ := zint2_some he; obtain rfl := zln_eq hl 1 rfl; exact lv_iand hx hb hd k
  case ior => obtain ⟨y, x, r, rfl, rfl⟩ := zint2_some he; obtain rfl := zln_eq hl 1 rfl; exact lv_ior hx hb hd k
  case ixor => obtain ⟨y, x, r, rfl, rfl⟩ := zint2_some he; obtain rfl := zln_eq hl 1 rfl; exact lv_ixor hx hb hd k
  case ishl => obtain ⟨y, x, r, rfl, rfl⟩ := zint2_some he; obtain rfl := zln_eq hl 1 rfl; exact lv_ishl hx hb hd k
  case ishr => obtain ⟨y, x, r, rfl, rfl⟩ := zint2_some he; obtain rfl := zln_eq hl 1 rfl; exact lv_ishr hx hb hd k
  case iushr => obtain ⟨y, x, r, rfl, rfl⟩ := zint2_some he; obtain rfl := zln_eq hl 1 rfl; exact lv_iushr hx hb hd rfl k
  case ladd => obtain ⟨y, x, r, rfl, rfl⟩ := zlong2_some he; obtain rfl := zln_eq hl 1 rfl; exact lv_ladd hx hb hd k
  case lsub => obtain ⟨y, x, r, rfl, rfl⟩ := zlong2_some he; obtain rfl := zln_eq hl 1 rfl; exact lv_lsub hx hb hd k
  case lmul => obtain ⟨y, x, r, rfl, rfl⟩ := zlong2_some he; obtain rfl := zln_eq hl 1 rfl; exact lv_lmul hx hb hd k
  case land => obtain ⟨y, x, r, rfl, rfl⟩ := zlong2_some he; obtain rfl := zln_eq hl 1 rfl; exact lv_land hx hb hd k
  case lor => obtain ⟨y, x, r, rfl, rfl⟩ := zlong2_some he; obtain rfl := zln_eq hl 1 rfl; exact lv_lor hx hb hd k
  case i2l => obtain ⟨x, r, rfl, rfl⟩ := zint1_some he; obtain rfl := zln_eq hl 1 rfl; exact lv_i2l hx hb hd rfl k
  case i2b => obtain ⟨x, r, rfl, rfl⟩ := zint1_some he; obtain rfl := zln_eq hl 1 rfl; exact lv_i2b hx hb hd rfl k
  case i2s => obtain ⟨x, r, rfl, rfl⟩ := zint1_some he; obtain rfl := zln_eq hl 1 rfl; exact lv_i2s hx hb hd rfl k
  case i2c => obtain ⟨x, r, rfl, rfl⟩ := zint1_some he; obtain rfl := zln_eq hl 1 rfl; exact lv_i2c hx hb hd rfl k
  case l2i => obtain ⟨x, r, rfl, rfl⟩ := zlong1_some he; obtain rfl := zln_eq hl 1 rfl; exact lv_l2i hx hb hd rfl k
  case lneg => obtain ⟨x, r, rfl, rfl⟩ := zlong1_some he; obtain rfl := zln_eq hl 1 rfl; exact lv_lneg hx hb hd k
  case idiv =>
    simp only [zpure] at he
    split at he
    · split at he
      · cases he
      · next hne => cases he; obtain rfl := zln_eq hl 1 rfl; exact lv_idiv hx hb hd hne k
    · cases he
  case irem =>
    simp only [zpure] at he
    split at he
    · split at he
      · cases he
      · next hne => cases he; obtain rfl := zln_eq hl 1 rfl; exact lv_irem hx hb hd hne k
    · cases he
  case ldiv =>
    simp only [zpure] at he
    split at he
    · split at he
      · cases he
      · next hne => cases he; obtain rfl := zln_eq hl 1 rfl; exact lv_ldiv hx hb hd hne k
    · cases he
  case lrem =>
    simp only [zpure] at he
    split at he
    · split at he
      · cases he
      · next hne => cases he; obtain rfl := zln_eq hl 1 rfl; exact lv_lrem hx hb hd hne k
    · cases he
  case lshl =>
    simp only [zpure] at he
    split at he
    · cases he; obtain rfl := zln_eq hl 1 rfl; exact lv_lshl hx hb hd rfl k
    · cases he
  case lcmp =>
    simp only [zpure] at he
    split at he
    · cases he; obtain rfl := zln_eq hl 1 rfl; exact W.lcmp hx hb hd k
    · cases he
  case dup =>
    simp only [zpure] at he
    split at he
    · split at he
      · next hc => cases he; obtain rfl := zln_eq hl 1 rfl; exact lv_dup hx hb hd ((zv_cat hz _).trans hc) k
      · cases he
    · cases he
  case pop =>
    simp only [zpure] at he
    split at he
    · split at he
      · next hc => cases he; obtain rfl := zln_eq hl 1 rfl; exact lv_pop hx hb hd ((zv_cat hz _).trans hc) k
      · cases he
    · cases he
  case dup2 =>
    simp only [zpure] at he
    split at he
    · split at he
      · next hc => cases he; obtain rfl := zln_eq hl 1 rfl; exact lv_dup2_11 hx hb hd rfl ((zv_cat hz _).trans hc) k
      · cases he
    · cases he; obtain rfl := zln_eq hl 1 rfl; exact lv_dup2_2 hx hb hd rfl k
    · cases he
  all_goals cases he
/-! variables -/
def zas (w : zG) (L : zL) : List (Nat × Value) := (List.range L.length).filterMap (fun j => match L[j]? with
  | some (some v) => some (j, zv w v)
  | _ => none)
theorem zas_mem {w : zG} {L : zL} {q : Nat × Value} : q ∈ zas w L ↔ ∃ x, L[q.1]? = some (some x) ∧ q.2 = zv w x := by
  unfold zas
  rw [List.mem_filterMap]
  constructor
  · rintro ⟨j, -, hj⟩
    split at hj
    · next v hv => cases hj; exact ⟨v, hv, rfl⟩
    · cases hj
  · rintro ⟨x, hx, hq⟩
    refine ⟨q.1, List.mem_range.mpr ((List.getElem?_eq_some_iff.mp hx).1), ?_⟩
    rw [hx]
    show some (q.1, zv w x) = some q
    rw [← hq]
theorem zlv_sub {ls : Array Slot} {n : Nat} {l l' : List (Nat × Value)} (h : lv_has ls n l) (hs : ∀ q ∈ l', q ∈ l) : lv_has ls n l' := ⟨h.1, h.2.1, fun q hq => h.2.2 q (hs q hq)⟩
theorem zas_get {w : zG} {ls : Array Slot} {n : Nat} {L : zL} (h : lv_has ls n (zas w L)) {k : Nat} {v : Value} (hk : L[k]? = some (some v)) : ls[k]? = some (.val (zv w v)) := h.2.2 (k, zv w v) (zas_mem.mpr ⟨v, hk, rfl⟩)
theorem zclr_some {l : Option Value} {x : Value} (h : zclr l = some x) : l = some x ∧ ¬ x.category = 2 := by
  unfold zclr at h
  split at h
  · cases h
  · cases h
  · next h1 h2 =>
    subst h
    refine ⟨rfl, fun e => ?_⟩
    cases x with
    | long v => exact h1 v rfl
    | double v => exact h2 v rfl
    | _ => cases e
theorem zset1_mem {v x : Value} : ∀ {L : zL} {k j : Nat}, (zset1 L k v)[j]? = some (some x) → (j = k ∧ x = v) ∨ (j ≠ k ∧ L[j]? = some (some x) ∧ ¬ (j + 1 = k ∧ x.category = 2))
  | [], k, j, h => by simp [zset1] at h
  | a :: L, 0, 0, h => by simp [zset1] at h; exact Or.inl ⟨rfl, h.symm⟩
  | a :: L, 0, j + 1, h => by simp [zset1] at h; exact Or.inr ⟨by omega, by simpa using h, by omega⟩
  | a :: L, k + 1, 0, h => by
    simp [zset1] at h
    refine Or.inr ⟨by omega, ?_⟩
    by_cases hk : k = 0
    · rw [if_pos hk] at h
      have := zclr_some h
      exact ⟨by simp [this.1], fun q => this.2 q.2⟩
    · rw [if_neg hk] at h
      exact ⟨by simp [h], by omega⟩
  | a :: L, k + 1, j + 1, h => by
    simp [zset1] at h
    rcases zset1_mem h with ⟨h1, h2⟩ | ⟨h1, h2, h3⟩
    · exact Or.inl ⟨by omega, h2⟩
    · exact Or.inr ⟨by omega, by simpa using h2, fun q => h3 ⟨by omega, q.2⟩⟩
theorem zset1_len {v : Value} : ∀ {L : zL} {k : Nat}, (zset1 L k v).length = L.length
  | [], _ => rfl
  | _ :: _, 0 => rfl
  | _ :: L, k + 1 => by simp [zset1, zset1_len (L := L)]
theorem zset2_mem {v x : Value} : ∀ {L : zL} {k j : Nat}, k + 1 < L.length → (zset2 L k v)[j]? = some (some x) → (j = k ∧ x = v) ∨ (j ≠ k ∧ j ≠ k + 1 ∧ L[j]? = some (some x) ∧ ¬ (j + 1 = k ∧ x.category = 2))
  | [], k, j, hk, h => by simp at hk
  | [a], k, j, hk, h => by simp at hk
  | a :: b :: L, 0, 0, _, h => by simp [zset2] at h; exact Or.inl ⟨rfl, h.symm⟩
  | a :: b :: L, 0, 1, _, h => by simp [zset2] at h
  | a :: b :: L, 0, j + 2, _, h => by simp [zset2] at h; exact Or.inr ⟨by omega, by omega, by simpa using h, by omega⟩
  | a :: b :: L, k + 1, 0, _, h => by
    simp [zset2] at h
    refine Or.inr ⟨by omega, by omega, ?_⟩
    by_cases hk : k = 0
    · rw [if_pos hk] at h
      have := zclr_some h
      exact ⟨by simp [this.1], fun q => this.2 q.2⟩
    · rw [if_neg hk] at h
      exact ⟨by simp [h], by omega⟩
  | a :: b :: L, k + 1, j + 1, hk, h => by
    simp [zset2] at h
    rcases zset2_mem (by simpa using hk) h with ⟨h1, h2⟩ | ⟨h1, h2, h3, h4⟩
    · exact Or.inl ⟨by omega, h2⟩
    · exact Or.inr ⟨by omega, by omega, by simpa using h3, fun q => h4 ⟨by omega, q.2⟩⟩
theorem zset2_len {v : Value} : ∀ {L : zL} {k : Nat}, (zset2 L k v).length = L.length
  | [], _ => rfl
  | [_], _ => rfl
  | _ :: _ :: _, 0 => rfl
  | _ :: b :: L, k + 1 => by simp [zset2, zset2_len (L := b :: L)]
theorem zas_set1 {w : zG} (hz : w.2.2.1.category = 1) {ls : Array Slot} {n k : Nat} {L : zL} {v : Value} (h : lv_has ls n ((k, zv w v) :: (zas w L).filter (fun q => !(q.1 == k) && !(q.1 + 1 == k && q.2.category == 2)))) : lv_has ls n (zas w (zset1 L k v)) := by
  refine zlv_sub h (fun q hq => ?_)
  obtain ⟨x, hx, hq2⟩ := zas_mem.mp hq
  obtain ⟨j, u⟩ := q
  dsimp only at hx hq2
  subst hq2
  rcases zset1_mem hx with ⟨rfl, rfl⟩ | ⟨h1, h2, h3⟩
  · exact List.mem_cons_self
  · refine List.mem_cons_of_mem _ (List.mem_filter.mpr ⟨zas_mem.mpr ⟨x, h2, rfl⟩, ?_⟩)
    simp only [zv_cat hz]
    simp [h1]
    exact Decidable.not_and_iff_not_or_not.mp h3
theorem zas_set2 {w : zG} (hz : w.2.2.1.category = 1) {ls : Array Slot} {n k : Nat} {L : zL} {v : Value} (hk : k + 1 < L.length) (h : lv_has ls n ((k, zv w v) :: (zas w L).filter (fun q => !(q.1 == k) && (!(q.1 == k + 1) && !(q.1 + 1 == k && q.2.category == 2))))) : lv_has ls n (zas w (zset2 L k v)) := by
  refine zlv_sub h (fun q hq => ?_)
  obtain ⟨x, hx, hq2⟩ := zas_mem.mp hq
  obtain ⟨j, u⟩ := q
  dsimp only at hx hq2
  subst hq2
  rcases zset2_mem hk hx with ⟨rfl, rfl⟩ | ⟨h1, h2, h3, h4⟩
  · exact List.mem_cons_self
  · refine List.mem_cons_of_mem _ (List.mem_filter.mpr ⟨zas_mem.mpr ⟨x, h3, rfl⟩, ?_⟩)
    simp only [zv_cat hz]
    simp [h1, h2]
    exact Decidable.not_and_iff_not_or_not.mp h4
theorem zivar_some {L : zL} {k : Nat} {x : Int32} (h : zivar L k = some x) : L[k]? = some (some (.int x)) := by
  unfold zivar at h
  split at h
  · next y hy => cases h; exact hy
  · cases h
theorem zlvar_some {L : zL} {k : Nat} {x : Int64} (h : zlvar L k = some x) : L[k]? = some (some (.long x)) := by
  unfold zlvar at h
  split at h
  · next y hy => cases h; exact hy
  · cases h
theorem zavar_some {L : zL} {k : Nat} {x : Nat} (h : zavar L k = some x) : L[k]? = some (some (.ref x)) := by
  unfold zavar at h
  split at h
  · next y hy => cases h; exact hy
  · cases h
theorem zist_some {L L' : zL} {k : Nat} {st st' : List Value} (h : zist L k st = some (L', st')) : ∃ x, st = .int x :: st' ∧ k < L.length ∧ L' = zset1 L k (.int x) := by
  unfold zist at h
  split at h
  · split at h
    · next hk => cases h; exact ⟨_, rfl, hk, rfl⟩
    · cases h
  · cases h
theorem zast_some {L L' : zL} {k : Nat} {st st' : List Value} (h : zast L k st = some (L', st')) : ∃ x, st = .ref x :: st' ∧ k < L.length ∧ L' = zset1 L k (.ref x) := by
  unfold zast at h
  split at h
  · split at h
    · next hk => cases h; exact ⟨_, rfl, hk, rfl⟩
    · cases h
  · cases h
theorem zlst_some {L L' : zL} {k : Nat} {st st' : List Value} (h : zlst L k st = some (L', st')) : ∃ x, st = .long x :: st' ∧ k + 1 < L.length ∧ L' = zset2 L k (.long x) := by
  unfold zlst at h
  split at h
  · split at h
    · next hk => cases h; exact ⟨_, rfl, hk, rfl⟩
    · cases h
  · cases h
set_option maxHeartbeats 4000000 in
theorem zs_loc {w : zG} (hz : w.2.2.1.category = 1) (hx : p.tables.exec = Jvm.exec) (hb : c.code = cc) {i : Instr} {len n : Nat} {st st' : List Value} {L L' : zL} (hd : decode cc pc = .ok (i, len)) (hl : zlok i len = true) (he : zloc i L st = some (L', st')) (hL : L.length = n) (hv : lv_has ls n (zas w L))
    (k : ∀ ls' : Array Slot, L'.length = n → lv_has ls' n (zas w L') → W p l e R s m args below meth c H locs cells slots Q (F0 m (pc + len) ls' (zvs w st'))) : W p l e R s m args below meth c H locs cells slots Q (F0 m pc ls (zvs w st)) := by
  cases i
  case iload j =>
    obtain ⟨x, hj, hq⟩ := Option.map_eq_some_iff.mp he
    cases hq; obtain rfl := zln_eq hl 2 rfl
    exact lv_iload hx hb hd (zas_get hv (zivar_some hj)) (k ls hL hv)
  case iload_n j =>
    obtain ⟨x, hj, hq⟩ := Option.map_eq_some_iff.mp he
    cases hq; obtain rfl := zln_eq hl 1 rfl
    exact lv_iload_n hx hb hd rfl (zas_get hv (zivar_some hj)) (k ls hL hv)
  case lload j =>
    obtain ⟨x, hj, hq⟩ := Option.map_eq_some_iff.mp he
    cases hq; obtain rfl := zln_eq hl 2 rfl
    exact lv_lload hx hb hd (zas_get hv (zlvar_some hj)) (k ls hL hv)
  case lload_n j =>
    obtain ⟨x, hj, hq⟩ := Option.map_eq_some_iff.mp he
    cases hq; obtain rfl := zln_eq hl 1 rfl
    exact lv_lload_n hx hb hd rfl (zas_get hv (zlvar_some hj)) (k ls hL hv)
  case aload j =>
    obtain ⟨x, hj, hq⟩ := Option.map_eq_some_iff.mp he
    cases hq; obtain rfl := zln_eq hl 2 rfl
    exact lv_aload hx hb hd (zas_get hv (zavar_some hj)) (k ls hL hv)
  case aload_n j =>
    obtain ⟨x, hj, hq⟩ := Option.map_eq_some_iff.mp he
    cases hq; obtain rfl := zln_eq hl 1 rfl
    exact lv_aload_n hx hb hd rfl (zas_get hv (zavar_some hj)) (k ls hL hv)
  case istore j =>
    obtain ⟨x, rfl, hj, rfl⟩ := zist_some he
    obtain rfl := zln_eq hl 2 rfl
    exact lv_istore hx hb hd hv (hL ▸ hj) rfl (fun ls' h' => k ls' (zset1_len.trans hL) (zas_set1 hz h'))
  case istore_n j =>
    obtain ⟨x, rfl, hj, rfl⟩ := zist_some he
    obtain rfl := zln_eq hl 1 rfl
    exact lv_istore_n hx hb hd rfl hv (hL ▸ hj) rfl (fun ls' h' => k ls' (zset1_len.trans hL) (zas_set1 hz h'))
  case astore j =>
    obtain ⟨x, rfl, hj, rfl⟩ := zast_some he
    obtain rfl := zln_eq hl 2 rfl
    exact lv_astore hx hb hd hv (hL ▸ hj) rfl (fun ls' h' => k ls' (zset1_len.trans hL) (zas_set1 hz h'))
  case astore_n j =>
    obtain ⟨x, rfl, hj, rfl⟩ := zast_some he
    obtain rfl := zln_eq hl 1 rfl
    exact lv_astore_n hx hb hd rfl hv (hL ▸ hj) rfl (fun ls' h' => k ls' (zset1_len.trans hL) (zas_set1 hz h'))
  case lstore j =>
    obtain ⟨x, rfl, hj, rfl⟩ := zlst_some he
    obtain rfl := zln_eq hl 2 rfl
    exact lv_lstore hx hb hd hv (hL ▸ hj) rfl (fun ls' h' => k ls' (zset2_len.trans hL) (zas_set2 hz hj h'))
  case lstore_n j =>
    obtain ⟨x, rfl, hj, rfl⟩ := zlst_some he
    obtain rfl := zln_eq hl 1 rfl
    exact lv_lstore_n hx hb hd rfl hv (hL ▸ hj) rfl (fun ls' h' => k ls' (zset2_len.trans hL) (zas_set2 hz hj h'))
  case iinc j a =>
    obtain ⟨x, hj, hq⟩ := Option.map_eq_some_iff.mp he
    cases hq; obtain rfl := zln_eq hl 3 rfl
    have hj := zivar_some hj
    have hlt : j < L.length := (List.getElem?_eq_some_iff.mp hj).1
    obtain ⟨t, ht⟩ := List.getElem?_of_mem (zas_mem.mpr ⟨_, hj, rfl⟩ : (j, zv w (.int x)) ∈ zas w L)
    exact lv_iinc hx hb hd hv ht rfl (hL ▸ hlt) rfl (fun ls' h' => k ls' (zset1_len.trans hL) (zas_set1 hz h'))
  all_goals cases he
/-! branches -/
theorem ztg_some {pc pc' : Nat} {off : Int} {st st' : List Value} (h : ztg pc off st = some (pc', st')) : (pc : Int) + off = (pc' : Int) ∧ st' = st := by
  unfold ztg at h
  split at h
  · next h0 => cases h; exact ⟨(Int.toNat_of_nonneg h0).symm, rfl⟩
  · cases h
set_option maxHeartbeats 4000000 in
theorem zs_jmp {w : zG} (hx : p.tables.exec = Jvm.exec) (hb : c.code = cc) {i : Instr} {len pc' : Nat} {st st' : List Value} (hd : decode cc pc = .ok (i, len)) (hl : zlok i len = true) (he : zjmp i pc st = some (pc', st'))
    (k : W p l e R s m args below meth c H locs cells slots Q (F0 m pc' ls (zvs w st'))) : W p l e R s m args below meth c H locs cells slots Q (F0 m pc ls (zvs w st)) := by
  cases i
  case goto off =>
    obtain ⟨ht, rfl⟩ := ztg_some he
    obtain rfl := zln_eq hl 3 rfl
    exact lv_goto hx hb hd ht k
  case ifCond cd off =>
    obtain rfl := zln_eq hl 3 (by cases cd <;> rfl)
    simp only [zjmp] at he
    split at he
    · split at he
      · next h0 =>
        have ht : (pc : Int) + off = ((((pc : Int) + off).toNat : Nat) : Int) := (Int.toNat_of_nonneg h0).symm
        cases cd <;> simp only [zbr] at he <;> split at he <;> cases he <;> rename_i hc
        · exact lv_if_eq hx hb hd ht (fun _ => k) (fun q => absurd hc q)
        · exact lv_if_eq hx hb hd ht (fun q => absurd q hc) (fun _ => k)
        · exact lv_if_ne hx hb hd ht (fun q => absurd hc q) (fun _ => k)
        · exact lv_if_ne hx hb hd ht (fun _ => k) (fun q => absurd q hc)
        · exact lv_if_lt hx hb hd ht (fun _ => k) (fun q => absurd hc q)
        · exact lv_if_lt hx hb hd ht (fun q => absurd q hc) (fun _ => k)
        · exact lv_if_ge hx hb hd ht (fun _ => k) (fun q => absurd hc q)
        · exact lv_if_ge hx hb hd ht (fun q => absurd q hc) (fun _ => k)
        · exact lv_if_gt hx hb hd ht (fun _ => k) (fun q => absurd hc q)
        · exact lv_if_gt hx hb hd ht (fun q => absurd q hc) (fun _ => k)
        · exact lv_if_le hx hb hd ht (fun _ => k) (fun q => absurd hc q)
        · exact lv_if_le hx hb hd ht (fun q => absurd q hc) (fun _ => k)
      · cases he
    · cases he
  case if_icmp cd off =>
    obtain rfl := zln_eq hl 3 (by cases cd <;> rfl)
    simp only [zjmp] at he
    split at he
    · split at he
      · next h0 =>
        have ht : (pc : Int) + off = ((((pc : Int) + off).toNat : Nat) : Int) := (Int.toNat_of_nonneg h0).symm
        cases cd <;> simp only [zbr] at he <;> split at he <;> cases he <;> rename_i hc
        · exact lv_icmp_eq hx hb hd ht (fun _ => k) (fun q => absurd hc q)
        · exact lv_icmp_eq hx hb hd ht (fun q => absurd q hc) (fun _ => k)
        · exact lv_icmp_ne hx hb hd ht (fun q => absurd hc q) (fun _ => k)
        · exact lv_icmp_ne hx hb hd ht (fun _ => k) (fun q => absurd q hc)
        · exact lv_icmp_lt hx hb hd ht (fun _ => k) (fun q => absurd hc q)
        · exact lv_icmp_lt hx hb hd ht (fun q => absurd q hc) (fun _ => k)
        · exact lv_icmp_ge hx hb hd ht (fun _ => k) (fun q => absurd hc q)
        · exact lv_icmp_ge hx hb hd ht (fun q => absurd q hc) (fun _ => k)
        · exact lv_icmp_gt hx hb hd ht (fun _ => k) (fun q => absurd hc q)
        · exact lv_icmp_gt hx hb hd ht (fun q => absurd q hc) (fun _ => k)
        · exact lv_icmp_le hx hb hd ht (fun _ => k) (fun q => absurd hc q)
        · exact lv_icmp_le hx hb hd ht (fun q => absurd q hc) (fun _ => k)
      · cases he
    · cases he
  case tableswitch dflt lo hi offs =>
    simp only [zjmp] at he
    split at he
    · split at he
      · next h0 =>
        obtain ⟨ht, rfl⟩ := ztg_some he
        exact lv_tableOut hx hb hd h0 ht k
      · next h0 =>
        split at he
        · next off ho =>
          obtain ⟨ht, rfl⟩ := ztg_some he
          exact lv_tableIn hx hb hd (fun q => h0 (Or.inl q)) (fun q => h0 (Or.inr q)) ho ht k
        · cases he
    · cases he
  case lookupswitch dflt ps =>
    simp only [zjmp] at he
    split at he
    · split at he
      · next h0 =>
        obtain ⟨ht, rfl⟩ := ztg_some he
        exact lv_lookup hx hb hd h0 rfl ht k
      · cases he
    · cases he
  all_goals cases he
end ZS
