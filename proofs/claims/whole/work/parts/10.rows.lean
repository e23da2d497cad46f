/-! ROWS FOR EACH KIND OF INSTRUCTION of the abstract machine -/
def zok (y pc : Nat) (i : Instr) (pc' : Nat) : Bool := match zat y pc with
  | some (j, len) => decide (j = i) && pc + len == pc'
  | none => false
theorem zok_out {y pc : Nat} {i : Instr} {pc' : Nat} (h : zok y pc i pc' = true) : ∃ len, zat y pc = some (i, len) ∧ pc' = pc + len := by
  unfold zok at h
  split at h
  · next j len ha =>
    simp only [Bool.and_eq_true, decide_eq_true_eq, beq_iff_eq] at h
    obtain ⟨rfl, rfl⟩ := h
    exact ⟨len, ha, rfl⟩
  · cases h
def zokj (y pc : Nat) (i : Instr) (off : Int) (pc' tg : Nat) : Bool := zok y pc i pc' && pc + 3 == pc' && decide ((pc : Int) + off = (tg : Int))
theorem zokj_out {y pc : Nat} {i : Instr} {off : Int} {pc' tg : Nat} (h : zokj y pc i off pc' tg = true) : zat y pc = some (i, 3) ∧ pc' = pc + 3 ∧ 0 ≤ (pc : Int) + off ∧ tg = ((pc : Int) + off).toNat := by
  unfold zokj at h
  simp only [Bool.and_eq_true, decide_eq_true_eq, beq_iff_eq] at h
  obtain ⟨⟨h1, h2⟩, h3⟩ := h
  obtain ⟨len, ha, h4⟩ := zok_out h1
  have : len = 3 := by omega
  subst this
  exact ⟨ha, h2.symm, by omega, by omega⟩
/-- writes that look at the kind of the row -/
def zqi (h : zH) (a k : Nat) (x : Int32) : zH := match h.2.2 a with
  | .inl (.int, n, .inl g) => (h.1, h.2.1, zup h.2.2 a (.inl (.int, n, .inl (upd g k x))))
  | _ => h
def zqb (h : zH) (a k : Nat) (x : Int32) : zH := match h.2.2 a with
  | .inl (.byte, n, .inl g) => (h.1, h.2.1, zup h.2.2 a (.inl (.byte, n, .inl (upd g k x))))
  | _ => h
def zql (h : zH) (a k : Nat) (x : Int64) : zH := match h.2.2 a with
  | .inl (.long, n, .inr (.inl g)) => (h.1, h.2.1, zup h.2.2 a (.inl (.long, n, .inr (.inl (vp_updL g k x)))))
  | _ => h
theorem zqi_eq {h : zH} {a k : Nat} (x : Int32) (hs : (zig h a k).isSome = true) : zpi h a k x = zqi h a k x := by
  obtain ⟨v, hv⟩ := Option.isSome_iff_exists.mp hs
  obtain ⟨n, g, hc, -, -⟩ := zig_some hv
  simp [zpi, zqi, hc]
theorem zqb_eq {h : zH} {a k : Nat} (x : Int32) (hs : (zbg h a k).isSome = true) : zpi h a k x = zqb h a k x := by
  obtain ⟨v, hv⟩ := Option.isSome_iff_exists.mp hs
  obtain ⟨n, g, hc, -, -⟩ := zbg_some hv
  simp [zpi, zqb, hc]
theorem zql_eq {h : zH} {a k : Nat} (x : Int64) (hs : (zlg h a k).isSome = true) : zpl h a k x = zql h a k x := by
  obtain ⟨v, hv⟩ := Option.isSome_iff_exists.mp hs
  obtain ⟨n, g, hc, -, -⟩ := zlg_some hv
  simp [zpl, zql, hc]
theorem zgo_in (d y pc : Nat) (ls : zL) (h : zH) (q : Nat × zL × List Value × zH) : zgo d y pc ls h (some (.inl q)) = zexec d y q.1 q.2.1 q.2.2.1 q.2.2.2 := rfl
theorem zmap_bind {α β γ : Type} (o : Option α) (f : α → β) (g : Option β → Option γ) (h0 : g none = none) : g (o.map f) = o.bind (fun x => g (some (f x))) := by cases o with
  | none => exact h0
  | some x => rfl
theorem zx_aload_n_0 (y pc pc' : Nat) (hok : zok y pc (.aload_n 0) pc' = true) (d : Nat) (x : Nat) (ls : zL) (st : List Value) (h : zH) : zexec d y pc (some (.ref x) :: ls) st h = zexec d y pc' (some (.ref x) :: ls) (.ref x :: st) h := by
  obtain ⟨len, ha, rfl⟩ := zok_out hok
  exact (zexec_eq ha d _ _ h).trans rfl

theorem zx_obj (y pc pc' ix j : Nat) (hok : (zok y pc (.invokespecial ix) pc' && decide ((zMk.getD (zow y) []).lookup ix = some (3, j))) = true) (d a : Nat) (ls : zL) (h : zH) : zexec d y pc ls [.ref a] h = zexec d y pc' ls [] h := by
  simp only [Bool.and_eq_true, decide_eq_true_eq] at hok
  obtain ⟨h1, h2⟩ := hok
  try rw [List.getD_eq_getElem?_getD] at h2
  obtain ⟨len, ha, rfl⟩ := zok_out h1
  refine (zexec_eq ha d ls _ h).trans ?_
  simp [zstep, zpure, zloc, zjmp, zheap, zgo, h2]

theorem zx_iconst (y pc pc' : Nat) (n : Int) (v : Int32) (hok : zok y pc (.iconst n) pc' = true) (hv : Int32.ofInt n = v) (d : Nat) (ls : zL) (st : List Value) (h : zH) : zexec d y pc ls st h = zexec d y pc' ls (.int v :: st) h := by
  subst hv
  obtain ⟨len, ha, rfl⟩ := zok_out hok
  exact (zexec_eq ha d ls _ h).trans rfl

theorem zx_newarray_int (y pc pc' : Nat) (hok : zok y pc (.newarray .int) pc' = true) (d : Nat) (n : Int32) (ls : zL) (st : List Value) (h : zH) : zexec d y pc ls (.int n :: st) h = if zsz n = true then zexec d y pc' ls (.ref h.1 :: st) (znewi h .int n.toNatClampNeg) else none := by
  obtain ⟨len, ha, rfl⟩ := zok_out hok
  refine (zexec_eq ha d ls _ h).trans ?_
  by_cases hz : zsz n = true <;> simp [zstep, zpure, zloc, zjmp, zheap, zretn, zcal, zgo, hz]

def zokp (y pc : Nat) (ix ci k pc' : Nat) (T : FieldType) : Bool := zok y pc (.putfield ix) pc' && decide ((zFk.getD (zow y) []).lookup ix = some (ci, k)) && decide (ci < 13) && decide (k < zfN ci) && decide (zfT ci k = T) && decide (zfF ci k = true → zini y = true ∧ zow y = ci)
theorem zx_putf (y pc pc' ix ci k : Nat) (T : FieldType) (hok : zokp y pc ix ci k pc' T = true) (d a : Nat) (v : Value) (ls : zL) (st : List Value) (h : zH) : zexec d y pc ls (v :: .ref a :: st) h = if (zgf h a ci k).isSome = true ∧ zfit T v = true then zexec d y pc' ls st (zpf h a k v) else none := by
  simp only [zokp, Bool.and_eq_true, decide_eq_true_eq] at hok
  obtain ⟨⟨⟨⟨⟨h1, h2⟩, h3⟩, h4⟩, h5⟩, h6⟩ := hok
  obtain ⟨len, ha, rfl⟩ := zok_out h1
  refine (zexec_eq ha d ls _ h).trans ?_
  subst h5
  by_cases hc : (zgf h a ci k).isSome = true ∧ zfit (zfT ci k) v = true
  · rw [if_pos hc]
    have hc' : ci < 13 ∧ k < zfN ci ∧ (zgf h a ci k).isSome = true ∧ zfit (zfT ci k) v = true ∧ (zfF ci k = true → zini y = true ∧ zow y = ci) := ⟨h3, h4, hc.1, hc.2, h6⟩
    simp only [zstep, zpure, zloc, zjmp, zheap, h2]
    rw [if_pos hc']
    rfl
  · rw [if_neg hc]
    have hc' : ¬ (ci < 13 ∧ k < zfN ci ∧ (zgf h a ci k).isSome = true ∧ zfit (zfT ci k) v = true ∧ (zfF ci k = true → zini y = true ∧ zow y = ci)) := fun q => hc ⟨q.2.2.1, q.2.2.2.1⟩
    simp only [zstep, zpure, zloc, zjmp, zheap, zretn, zcal, h2]
    rw [if_neg hc']
    rfl

theorem zx_aload_n_1 (y pc pc' : Nat) (hok : zok y pc (.aload_n 1) pc' = true) (d : Nat) (x : Nat) (l0 : Option Value) (ls : zL) (st : List Value) (h : zH) : zexec d y pc (l0 :: some (.ref x) :: ls) st h = zexec d y pc' (l0 :: some (.ref x) :: ls) (.ref x :: st) h := by
  obtain ⟨len, ha, rfl⟩ := zok_out hok
  exact (zexec_eq ha d _ _ h).trans rfl

theorem zx_aload_n_2 (y pc pc' : Nat) (hok : zok y pc (.aload_n 2) pc' = true) (d : Nat) (x : Nat) (l0 l1 : Option Value) (ls : zL) (st : List Value) (h : zH) : zexec d y pc (l0 :: l1 :: some (.ref x) :: ls) st h = zexec d y pc' (l0 :: l1 :: some (.ref x) :: ls) (.ref x :: st) h := by
  obtain ⟨len, ha, rfl⟩ := zok_out hok
  exact (zexec_eq ha d _ _ h).trans rfl

theorem zx_aload_n_3 (y pc pc' : Nat) (hok : zok y pc (.aload_n 3) pc' = true) (d : Nat) (x : Nat) (l0 l1 l2 : Option Value) (ls : zL) (st : List Value) (h : zH) : zexec d y pc (l0 :: l1 :: l2 :: some (.ref x) :: ls) st h = zexec d y pc' (l0 :: l1 :: l2 :: some (.ref x) :: ls) (.ref x :: st) h := by
  obtain ⟨len, ha, rfl⟩ := zok_out hok
  exact (zexec_eq ha d _ _ h).trans rfl

theorem zx_ret (y pc pc' : Nat) (hok : (zok y pc .return_ pc' && decide (zrt y = none)) = true) (d : Nat) (ls : zL) (h : zH) : zexec d y pc ls [] h = some (none, h) := by
  simp only [Bool.and_eq_true, decide_eq_true_eq] at hok
  obtain ⟨h1, h2⟩ := hok
  try rw [List.getD_eq_getElem?_getD] at h2
  obtain ⟨len, ha, rfl⟩ := zok_out h1
  refine (zexec_eq ha d ls _ h).trans ?_
  simp [zstep, zpure, zloc, zjmp, zheap, zretn, zgo, h2]

def zokg (y pc : Nat) (ix ci k pc' : Nat) : Bool := zok y pc (.getfield ix) pc' && decide ((zFk.getD (zow y) []).lookup ix = some (ci, k)) && decide (ci < 13)
theorem zx_getf (y pc pc' ix ci k : Nat) (hok : zokg y pc ix ci k pc' = true) (d a : Nat) (ls : zL) (st : List Value) (h : zH) : zexec d y pc ls (.ref a :: st) h = (zgf h a ci k).bind (fun v => zexec d y pc' ls (v :: st) h) := by
  simp only [zokg, Bool.and_eq_true, decide_eq_true_eq] at hok
  obtain ⟨⟨h1, h2⟩, h3⟩ := hok
  rw [List.getD_eq_getElem?_getD] at h2
  obtain ⟨len, ha, rfl⟩ := zok_out h1
  refine (zexec_eq ha d ls _ h).trans ?_
  cases hg : zgf h a ci k <;> simp [zstep, zpure, zloc, zjmp, zheap, zretn, zcal, zgo, h2, h3, hg]

theorem zx_callv_x_0 (y pc pc' ix z c : Nat) (hok : (zok y pc (.invokevirtual ix) pc' && pc + 3 == pc' && decide ((zMk.getD (zow y) []).lookup ix = some (0, z)) && zpn z == 0 && decide (1 ≤ zml z) && zow z == c && decide (c < 13)) = true) (d o : Nat)   (ls : zL) (h : zH) : zexec (d + 1) y pc ls [.ref o] h = if zcls h o = c then (zcall d z [.ref o] h).bind (fun q => zexec (d + 1) y pc' ls (q.1.toList ++ []) q.2) else none := by
  simp only [Bool.and_eq_true, decide_eq_true_eq, beq_iff_eq] at hok
  obtain ⟨⟨⟨⟨⟨⟨h1, h1'⟩, h2⟩, h3⟩, h4⟩, rfl⟩, h6⟩ := hok
  rw [List.getD_eq_getElem?_getD] at h2
  obtain ⟨len, ha, h5⟩ := zok_out h1
  subst h1'
  refine (zexec_eq ha (d + 1) ls _ h).trans ?_
  have k1 : zcal y (.invokevirtual ix) [.ref o] h = if zcls h o = zow z then some (z, [.ref o], []) else none := by
    by_cases hc : zcls h o = zow z
    · simp [zcal, h2, h3, hc, h6, zargs, h4]
    · simp [zcal, h2, h3, hc]
  simp only [zstep, zpure, zloc, zjmp, zheap, zretn, k1]
  by_cases hc : zcls h o = zow z
  · rw [if_pos hc, if_pos hc]
    rfl
  · rw [if_neg hc, if_neg hc]
    rfl

theorem zx_istore_n_1 (y pc pc' : Nat) (hok : zok y pc (.istore_n 1) pc' = true) (d : Nat) (x : Int32) (l0 l1 : Option Value) (ls : zL) (st : List Value) (h : zH) : zexec d y pc (l0 :: l1 :: ls) (.int x :: st) h = zexec d y pc' (zclr l0 :: some (.int x) :: ls) st h := by
  obtain ⟨len, ha, rfl⟩ := zok_out hok
  have e1 : zloc (.istore_n 1) (l0 :: l1 :: ls) (.int x :: st) = some (zclr l0 :: some (.int x) :: ls, st) := by
    have e0 : zist (l0 :: l1 :: ls) 1 (.int x :: st) = some (zclr l0 :: some (.int x) :: ls, st) := by simp [zist, zset1]
    exact e0
  refine (zexec_eq ha d _ _ h).trans ?_
  simp only [zstep, zpure, e1, zgo]

theorem zx_iload_n_1 (y pc pc' : Nat) (hok : zok y pc (.iload_n 1) pc' = true) (d : Nat) (x : Int32) (l0 : Option Value) (ls : zL) (st : List Value) (h : zH) : zexec d y pc (l0 :: some (.int x) :: ls) st h = zexec d y pc' (l0 :: some (.int x) :: ls) (.int x :: st) h := by
  obtain ⟨len, ha, rfl⟩ := zok_out hok
  exact (zexec_eq ha d _ _ h).trans rfl

theorem zx_sipush (y pc pc' : Nat) (n : Int) (v : Int32) (hok : zok y pc (.sipush n) pc' = true) (hv : (Int16.ofInt n).toInt32 = v) (d : Nat) (ls : zL) (st : List Value) (h : zH) : zexec d y pc ls st h = zexec d y pc' ls (.int v :: st) h := by
  subst hv
  obtain ⟨len, ha, rfl⟩ := zok_out hok
  exact (zexec_eq ha d ls _ h).trans rfl

theorem zx_icmp_gt (y pc pc' tg : Nat) (off : Int) (hok : zokj y pc (.if_icmp .gt off) off pc' tg = true) (d : Nat) (a b : Int32) (ls : zL) (st : List Value) (h : zH) : zexec d y pc ls (.int b :: .int a :: st) h = if b < a then zexec d y tg ls st h else zexec d y pc' ls st h := by
  obtain ⟨ha, rfl, h0, rfl⟩ := zokj_out hok
  refine (zexec_eq ha d _ _ h).trans ?_
  by_cases hc : b < a <;> simp [zstep, zpure, zloc, zjmp, zbr, zgo, h0, hc]

theorem zx_if_ne (y pc pc' tg : Nat) (off : Int) (hok : zokj y pc (.ifCond .ne off) off pc' tg = true) (d : Nat) (a : Int32) (ls : zL) (st : List Value) (h : zH) : zexec d y pc ls (.int a :: st) h = if a = 0 then zexec d y pc' ls st h else zexec d y tg ls st h := by
  obtain ⟨ha, rfl, h0, rfl⟩ := zokj_out hok
  refine (zexec_eq ha d _ _ h).trans ?_
  by_cases hc : a = 0 <;> simp [zstep, zpure, zloc, zjmp, zbr, zgo, h0, hc]

theorem zx_bipush (y pc pc' : Nat) (n : Int) (v : Int32) (hok : zok y pc (.bipush n) pc' = true) (hv : (Int8.ofInt n).toInt32 = v) (d : Nat) (ls : zL) (st : List Value) (h : zH) : zexec d y pc ls st h = zexec d y pc' ls (.int v :: st) h := by
  subst hv
  obtain ⟨len, ha, rfl⟩ := zok_out hok
  exact (zexec_eq ha d ls _ h).trans rfl

theorem zx_icmp_ne (y pc pc' tg : Nat) (off : Int) (hok : zokj y pc (.if_icmp .ne off) off pc' tg = true) (d : Nat) (a b : Int32) (ls : zL) (st : List Value) (h : zH) : zexec d y pc ls (.int b :: .int a :: st) h = if a = b then zexec d y pc' ls st h else zexec d y tg ls st h := by
  obtain ⟨ha, rfl, h0, rfl⟩ := zokj_out hok
  refine (zexec_eq ha d _ _ h).trans ?_
  by_cases hc : a = b <;> simp [zstep, zpure, zloc, zjmp, zbr, zgo, h0, hc]

theorem zx_goto (y pc pc' tg : Nat) (off : Int) (hok : zokj y pc (.goto off) off pc' tg = true) (d : Nat) (ls : zL) (st : List Value) (h : zH) : zexec d y pc ls st h = zexec d y tg ls st h := by
  obtain ⟨ha, -, h0, rfl⟩ := zokj_out hok
  refine (zexec_eq ha d _ _ h).trans ?_
  simp [zstep, zpure, zloc, zjmp, ztg, zgo, h0]

theorem zx_callv_i_0 (y pc pc' ix z c : Nat) (hok : (zok y pc (.invokevirtual ix) pc' && pc + 3 == pc' && decide ((zMk.getD (zow y) []).lookup ix = some (0, z)) && zpn z == 1 && decide (2 ≤ zml z) && zow z == c && decide (c < 13)) = true) (d o : Nat) (a0 : Int32)  (ls : zL) (h : zH) : zexec (d + 1) y pc ls [.int a0, .ref o] h = if zcls h o = c then (zcall d z [.ref o, .int a0] h).bind (fun q => zexec (d + 1) y pc' ls (q.1.toList ++ []) q.2) else none := by
  simp only [Bool.and_eq_true, decide_eq_true_eq, beq_iff_eq] at hok
  obtain ⟨⟨⟨⟨⟨⟨h1, h1'⟩, h2⟩, h3⟩, h4⟩, rfl⟩, h6⟩ := hok
  rw [List.getD_eq_getElem?_getD] at h2
  obtain ⟨len, ha, h5⟩ := zok_out h1
  subst h1'
  refine (zexec_eq ha (d + 1) ls _ h).trans ?_
  have k1 : zcal y (.invokevirtual ix) [.int a0, .ref o] h = if zcls h o = zow z then some (z, [.ref o, .int a0], []) else none := by
    by_cases hc : zcls h o = zow z
    · simp [zcal, h2, h3, hc, h6, zargs, h4]
    · simp [zcal, h2, h3, hc]
  simp only [zstep, zpure, zloc, zjmp, zheap, zretn, k1]
  by_cases hc : zcls h o = zow z
  · rw [if_pos hc, if_pos hc]
    rfl
  · rw [if_neg hc, if_neg hc]
    rfl

theorem zx_istore_n_2 (y pc pc' : Nat) (hok : zok y pc (.istore_n 2) pc' = true) (d : Nat) (x : Int32) (l0 l1 l2 : Option Value) (ls : zL) (st : List Value) (h : zH) : zexec d y pc (l0 :: l1 :: l2 :: ls) (.int x :: st) h = zexec d y pc' (l0 :: zclr l1 :: some (.int x) :: ls) st h := by
  obtain ⟨len, ha, rfl⟩ := zok_out hok
  have e1 : zloc (.istore_n 2) (l0 :: l1 :: l2 :: ls) (.int x :: st) = some (l0 :: zclr l1 :: some (.int x) :: ls, st) := by
    have e0 : zist (l0 :: l1 :: l2 :: ls) 2 (.int x :: st) = some (l0 :: zclr l1 :: some (.int x) :: ls, st) := by simp [zist, zset1]
    exact e0
  refine (zexec_eq ha d _ _ h).trans ?_
  simp only [zstep, zpure, e1, zgo]

theorem zx_iload_n_2 (y pc pc' : Nat) (hok : zok y pc (.iload_n 2) pc' = true) (d : Nat) (x : Int32) (l0 l1 : Option Value) (ls : zL) (st : List Value) (h : zH) : zexec d y pc (l0 :: l1 :: some (.int x) :: ls) st h = zexec d y pc' (l0 :: l1 :: some (.int x) :: ls) (.int x :: st) h := by
  obtain ⟨len, ha, rfl⟩ := zok_out hok
  exact (zexec_eq ha d _ _ h).trans rfl

theorem zx_if_eq (y pc pc' tg : Nat) (off : Int) (hok : zokj y pc (.ifCond .eq off) off pc' tg = true) (d : Nat) (a : Int32) (ls : zL) (st : List Value) (h : zH) : zexec d y pc ls (.int a :: st) h = if a = 0 then zexec d y tg ls st h else zexec d y pc' ls st h := by
  obtain ⟨ha, rfl, h0, rfl⟩ := zokj_out hok
  refine (zexec_eq ha d _ _ h).trans ?_
  by_cases hc : a = 0 <;> simp [zstep, zpure, zloc, zjmp, zbr, zgo, h0, hc]

theorem zx_zret_boolean (y pc pc' : Nat) (hok : (zok y pc .ireturn pc' && decide (zrt y = some .boolean)) = true) (d : Nat) (v : Int32) (ls : zL) (h : zH) : zexec d y pc ls [.int v] h = if zfit .boolean (.int v) = true then some (some (.int v), h) else none := by
  simp only [Bool.and_eq_true, decide_eq_true_eq] at hok
  obtain ⟨h1, h2⟩ := hok
  try rw [List.getD_eq_getElem?_getD] at h2
  obtain ⟨len, ha, rfl⟩ := zok_out h1
  refine (zexec_eq ha d ls _ h).trans ?_
  by_cases hf : zfit .boolean (.int v) = true <;> simp [zstep, zpure, zloc, zjmp, zheap, zretn, zcal, zgo, h2, hf]

theorem zx_iinc_1 (y pc pc' : Nat) (n : Int) (v : Int32) (hok : zok y pc (.iinc 1 n) pc' = true) (hv : Int32.ofInt n = v) (d : Nat) (x : Int32) (l0 : Option Value) (ls : zL) (st : List Value) (h : zH) : zexec d y pc (l0 :: some (.int x) :: ls) st h = zexec d y pc' (zclr l0 :: some (.int (x + v)) :: ls) st h := by
  subst hv
  obtain ⟨len, ha, rfl⟩ := zok_out hok
  refine (zexec_eq ha d _ _ h).trans ?_
  simp [zstep, zpure, zloc, zivar, zset1, zgo]

theorem zx_if_le (y pc pc' tg : Nat) (off : Int) (hok : zokj y pc (.ifCond .le off) off pc' tg = true) (d : Nat) (a : Int32) (ls : zL) (st : List Value) (h : zH) : zexec d y pc ls (.int a :: st) h = if a ≤ 0 then zexec d y tg ls st h else zexec d y pc' ls st h := by
  obtain ⟨ha, rfl, h0, rfl⟩ := zokj_out hok
  refine (zexec_eq ha d _ _ h).trans ?_
  by_cases hc : a ≤ 0 <;> simp [zstep, zpure, zloc, zjmp, zbr, zgo, h0, hc]

theorem zx_if_gt (y pc pc' tg : Nat) (off : Int) (hok : zokj y pc (.ifCond .gt off) off pc' tg = true) (d : Nat) (a : Int32) (ls : zL) (st : List Value) (h : zH) : zexec d y pc ls (.int a :: st) h = if 0 < a then zexec d y tg ls st h else zexec d y pc' ls st h := by
  obtain ⟨ha, rfl, h0, rfl⟩ := zokj_out hok
  refine (zexec_eq ha d _ _ h).trans ?_
  by_cases hc : 0 < a <;> simp [zstep, zpure, zloc, zjmp, zbr, zgo, h0, hc]

theorem zx_dup_r (y pc pc' : Nat) (hok : zok y pc .dup pc' = true) (d : Nat) (a : Nat) (ls : zL) (st : List Value) (h : zH) : zexec d y pc ls (.ref a :: st) h = zexec d y pc' ls (.ref a :: .ref a :: st) h := by
  obtain ⟨len, ha, rfl⟩ := zok_out hok
  exact (zexec_eq ha d ls _ h).trans rfl

theorem zx_dup_i (y pc pc' : Nat) (hok : zok y pc .dup pc' = true) (d : Nat) (a : Int32) (ls : zL) (st : List Value) (h : zH) : zexec d y pc ls (.int a :: st) h = zexec d y pc' ls (.int a :: .int a :: st) h := by
  obtain ⟨len, ha, rfl⟩ := zok_out hok
  exact (zexec_eq ha d ls _ h).trans rfl

theorem zx_isub (y pc pc' : Nat) (hok : zok y pc .isub pc' = true) (d : Nat) (a b : Int32) (ls : zL) (st : List Value) (h : zH) : zexec d y pc ls (.int b :: .int a :: st) h = zexec d y pc' ls (.int (a - b) :: st) h := by
  obtain ⟨len, ha, rfl⟩ := zok_out hok
  exact (zexec_eq ha d ls _ h).trans rfl

theorem zx_callv_iiii_0 (y pc pc' ix z c : Nat) (hok : (zok y pc (.invokevirtual ix) pc' && pc + 3 == pc' && decide ((zMk.getD (zow y) []).lookup ix = some (0, z)) && zpn z == 4 && decide (5 ≤ zml z) && zow z == c && decide (c < 13)) = true) (d o : Nat) (a0 : Int32) (a1 : Int32) (a2 : Int32) (a3 : Int32)  (ls : zL) (h : zH) : zexec (d + 1) y pc ls [.int a3, .int a2, .int a1, .int a0, .ref o] h = if zcls h o = c then (zcall d z [.ref o, .int a0, .int a1, .int a2, .int a3] h).bind (fun q => zexec (d + 1) y pc' ls (q.1.toList ++ []) q.2) else none := by
  simp only [Bool.and_eq_true, decide_eq_true_eq, beq_iff_eq] at hok
  obtain ⟨⟨⟨⟨⟨⟨h1, h1'⟩, h2⟩, h3⟩, h4⟩, rfl⟩, h6⟩ := hok
  rw [List.getD_eq_getElem?_getD] at h2
  obtain ⟨len, ha, h5⟩ := zok_out h1
  subst h1'
  refine (zexec_eq ha (d + 1) ls _ h).trans ?_
  have k1 : zcal y (.invokevirtual ix) [.int a3, .int a2, .int a1, .int a0, .ref o] h = if zcls h o = zow z then some (z, [.ref o, .int a0, .int a1, .int a2, .int a3], []) else none := by
    by_cases hc : zcls h o = zow z
    · simp [zcal, h2, h3, hc, h6, zargs, h4]
    · simp [zcal, h2, h3, hc]
  simp only [zstep, zpure, zloc, zjmp, zheap, zretn, k1]
  by_cases hc : zcls h o = zow z
  · rw [if_pos hc, if_pos hc]
    rfl
  · rw [if_neg hc, if_neg hc]
    rfl

theorem zx_iaload (y pc pc' : Nat) (hok : zok y pc .iaload pc' = true) (d : Nat) (i : Int32) (a : Nat) (ls : zL) (st : List Value) (h : zH) : zexec d y pc ls (.int i :: .ref a :: st) h = (zld h a i).bind (fun v => zexec d y pc' ls (.int v :: st) h) := by
  obtain ⟨len, ha, rfl⟩ := zok_out hok
  refine (zexec_eq ha d ls _ h).trans ?_
  cases hg : zld h a i <;> simp [zstep, zpure, zloc, zjmp, zheap, zretn, zcal, zgo, hg]

theorem zx_callv_ii_0 (y pc pc' ix z c : Nat) (hok : (zok y pc (.invokevirtual ix) pc' && pc + 3 == pc' && decide ((zMk.getD (zow y) []).lookup ix = some (0, z)) && zpn z == 2 && decide (3 ≤ zml z) && zow z == c && decide (c < 13)) = true) (d o : Nat) (a0 : Int32) (a1 : Int32)  (ls : zL) (h : zH) : zexec (d + 1) y pc ls [.int a1, .int a0, .ref o] h = if zcls h o = c then (zcall d z [.ref o, .int a0, .int a1] h).bind (fun q => zexec (d + 1) y pc' ls (q.1.toList ++ []) q.2) else none := by
  simp only [Bool.and_eq_true, decide_eq_true_eq, beq_iff_eq] at hok
  obtain ⟨⟨⟨⟨⟨⟨h1, h1'⟩, h2⟩, h3⟩, h4⟩, rfl⟩, h6⟩ := hok
  rw [List.getD_eq_getElem?_getD] at h2
  obtain ⟨len, ha, h5⟩ := zok_out h1
  subst h1'
  refine (zexec_eq ha (d + 1) ls _ h).trans ?_
  have k1 : zcal y (.invokevirtual ix) [.int a1, .int a0, .ref o] h = if zcls h o = zow z then some (z, [.ref o, .int a0, .int a1], []) else none := by
    by_cases hc : zcls h o = zow z
    · simp [zcal, h2, h3, hc, h6, zargs, h4]
    · simp [zcal, h2, h3, hc]
  simp only [zstep, zpure, zloc, zjmp, zheap, zretn, k1]
  by_cases hc : zcls h o = zow z
  · rw [if_pos hc, if_pos hc]
    rfl
  · rw [if_neg hc, if_neg hc]
    rfl

theorem zx_iload_n_0 (y pc pc' : Nat) (hok : zok y pc (.iload_n 0) pc' = true) (d : Nat) (x : Int32) (ls : zL) (st : List Value) (h : zH) : zexec d y pc (some (.int x) :: ls) st h = zexec d y pc' (some (.int x) :: ls) (.int x :: st) h := by
  obtain ⟨len, ha, rfl⟩ := zok_out hok
  exact (zexec_eq ha d _ _ h).trans rfl

/-- a switch as a row of tests -/
noncomputable def zsx (d y : Nat) (ls : zL) (st : List Value) (h : zH) (x : Int32) : List (Int32 × Nat) → Nat → Option (Option Value × zH)
  | [], e => zexec d y e ls st h
  | (k, t) :: r, e => if x = k then zexec d y t ls st h else zsx d y ls st h x r e
def zswT (pc : Nat) (i : Instr) (x : Int32) : Option Nat := match zjmp i pc [.int x] with
  | some (t, []) => some t
  | _ => none
/-- at every key, and elsewhere (by the least and the greatest key), a tableswitch goes where the list says -/
def zoksw (y pc : Nat) (dflt lo hi : Int) (offs : Array Int) (l : List (Int32 × Nat)) (e : Nat) : Bool := (match zat y pc with
    | some (j, _) => decide (j = .tableswitch dflt lo hi offs)
    | none => false) && decide (l.map (fun q => q.1.toInt) = (List.range l.length).map (fun (k : Nat) => lo + (k : Int))) && decide (hi + 1 = lo + (l.length : Int)) && decide (offs.toList = l.map (fun q => (q.2 : Int) - (pc : Int))) && decide ((pc : Int) + dflt = (e : Int))
theorem zsx_at (d y : Nat) (ls : zL) (st : List Value) (h : zH) (x : Int32) (e : Nat) : ∀ (l : List (Int32 × Nat)) (k : Nat) (lo : Int), l.map (fun q => q.1.toInt) = (List.range' k l.length).map (fun (j : Nat) => lo + (j : Int)) → zsx d y ls st h x l e = (if lo + (k : Int) ≤ x.toInt then match l[(x.toInt - (lo + (k : Int))).toNat]? with
      | some q => zexec d y q.2 ls st h
      | none => zexec d y e ls st h else zexec d y e ls st h)
  | [], k, lo, _ => by simp [zsx]
  | (a, t) :: l, k, lo, hl => by
    simp only [List.map_cons, List.length_cons, List.range'_succ, List.cons.injEq] at hl
    have ih := zsx_at d y ls st h x e l (k + 1) lo hl.2
    rw [zsx]
    by_cases hx : x = a
    · subst hx
      rw [if_pos rfl, if_pos (by omega)]
      rw [show (x.toInt - (lo + (k : Int))).toNat = 0 by omega]
      rfl
    · have hne : x.toInt ≠ lo + (k : Int) := fun q => hx (Int32.toInt_inj.mp (q.trans hl.1.symm))
      rw [if_neg hx, ih]
      by_cases hk : lo + (k : Int) ≤ x.toInt
      · rw [if_pos hk, if_pos (by push_cast; omega)]
        have : (x.toInt - (lo + (k : Int))).toNat = (x.toInt - (lo + ((k + 1 : Nat) : Int))).toNat + 1 := by push_cast; omega
        rw [this]
        rfl
      · rw [if_neg hk, if_neg (by push_cast; omega)]
theorem zx_sw (y pc : Nat) (dflt lo hi : Int) (offs : Array Int) (l : List (Int32 × Nat)) (e : Nat) (hok : zoksw y pc dflt lo hi offs l e = true) (d : Nat) (x : Int32) (ls : zL) (st : List Value) (h : zH) : zexec d y pc ls (.int x :: st) h = zsx d y ls st h x l e := by
  simp only [zoksw, Bool.and_eq_true, decide_eq_true_eq] at hok
  obtain ⟨⟨⟨⟨h1, h2⟩, h3⟩, h4⟩, h5⟩ := hok
  split at h1
  · next j len ha =>
    have h1 := of_decide_eq_true h1
    subst h1
    refine (zexec_eq ha d ls _ h).trans ?_
    rw [zsx_at d y ls st h x e l 0 lo (by rw [h2, List.range_eq_range'])]
    simp only [zstep, zpure, zloc, zjmp]
    have hd : ztg pc dflt st = some (e, st) := by
      unfold ztg
      rw [if_pos (by omega), h5]
      rfl
    have hlen : offs.size = l.length := by rw [← Array.length_toList, h4, List.length_map]
    by_cases hlo : x.toInt < lo
    · rw [if_pos (Or.inl hlo), hd, if_neg (by push_cast; omega)]
      rfl
    · rw [if_pos (show lo + ((0 : Nat) : Int) ≤ x.toInt by push_cast; omega)]
      have e0 : (x.toInt - (lo + ((0 : Nat) : Int))).toNat = (x.toInt - lo).toNat := by push_cast; omega
      rw [e0]
      by_cases hhi : hi < x.toInt
      · rw [if_pos (Or.inr hhi), hd, List.getElem?_eq_none (by omega)]
        rfl
      · rw [if_neg (fun q => q.elim hlo hhi)]
        have hlt : (x.toInt - lo).toNat < l.length := by omega
        have ho : offs[(x.toInt - lo).toNat]? = some ((l[(x.toInt - lo).toNat].2 : Int) - (pc : Int)) := by
          rw [← Array.getElem?_toList, h4, List.getElem?_map, List.getElem?_eq_getElem hlt]
          rfl
        rw [ho, List.getElem?_eq_getElem hlt]
        have ht : ztg pc ((l[(x.toInt - lo).toNat].2 : Int) - (pc : Int)) st = some (l[(x.toInt - lo).toNat].2, st) := by
          unfold ztg
          rw [if_pos (by omega)]
          congr 2
          omega
        simp only [ht]
        rfl
  · cases h1
theorem zx_lsw (y pc : Nat) (dflt : Int) (ps : Array (Int × Int)) (l : List (Int32 × Nat)) (e : Nat) (hok : ((match zat y pc with
    | some (j, _) => decide (j = .lookupswitch dflt ps)
    | none => false) && (ps.toList.zip (ps.toList.drop 1)).all (fun (a, next) => a.1 < next.1) && decide (ps.toList = l.map (fun q => (q.1.toInt, (q.2 : Int) - (pc : Int)))) && decide ((pc : Int) + dflt = (e : Int))) = true) (d : Nat) (x : Int32) (ls : zL) (st : List Value) (h : zH) : zexec d y pc ls (.int x :: st) h = zsx d y ls st h x l e := by
  simp only [Bool.and_eq_true, decide_eq_true_eq] at hok
  obtain ⟨⟨⟨h1, h2⟩, h4⟩, h5⟩ := hok
  split at h1
  · next j len ha =>
    have h1 := of_decide_eq_true h1
    subst h1
    refine (zexec_eq ha d ls _ h).trans ?_
    simp only [zstep, zpure, zloc, zjmp]
    rw [if_pos h2, h4]
    clear h4 h2 ha
    induction l with
    | nil =>
      have : ztg pc (Op.lookupswitch.offset ([] : List (Int × Int)) dflt x.toInt) st = some (e, st) := by
        unfold ztg Op.lookupswitch.offset
        rw [if_pos (by omega), h5]
        rfl
      simp only [List.map_nil, this]
      rfl
    | cons q r ih =>
      obtain ⟨k, t⟩ := q
      rw [zsx]
      by_cases hx : x = k
      · subst hx
        rw [if_pos rfl]
        have : ztg pc (Op.lookupswitch.offset (((x, t) :: r).map (fun q => (q.1.toInt, (q.2 : Int) - (pc : Int)))) dflt x.toInt) st = some (t, st) := by
          simp only [List.map_cons, Op.lookupswitch.offset, if_true]
          unfold ztg
          rw [if_pos (by omega)]
          congr 2
          omega
        simp only [this]
        rfl
      · rw [if_neg hx, ← ih]
        have : Op.lookupswitch.offset (((k, t) :: r).map (fun q => (q.1.toInt, (q.2 : Int) - (pc : Int)))) dflt x.toInt = Op.lookupswitch.offset (r.map (fun q => (q.1.toInt, (q.2 : Int) - (pc : Int)))) dflt x.toInt := by
          simp only [List.map_cons, Op.lookupswitch.offset]
          rw [if_neg (fun q => hx (Int32.toInt_inj.mp q.symm))]
        rw [this]
  · cases h1

theorem zx_icmp_eq (y pc pc' tg : Nat) (off : Int) (hok : zokj y pc (.if_icmp .eq off) off pc' tg = true) (d : Nat) (a b : Int32) (ls : zL) (st : List Value) (h : zH) : zexec d y pc ls (.int b :: .int a :: st) h = if a = b then zexec d y tg ls st h else zexec d y pc' ls st h := by
  obtain ⟨ha, rfl, h0, rfl⟩ := zokj_out hok
  refine (zexec_eq ha d _ _ h).trans ?_
  by_cases hc : a = b <;> simp [zstep, zpure, zloc, zjmp, zbr, zgo, h0, hc]

theorem zx_calls_i_0 (y pc pc' ix z : Nat) (hok : (zok y pc (.invokestatic ix) pc' && pc + 3 == pc' && decide ((zMk.getD (zow y) []).lookup ix = some (1, z)) && zpn z == 1 && decide (1 ≤ zml z)) = true) (d : Nat) (a0 : Int32)  (ls : zL) (h : zH) : zexec (d + 1) y pc ls [.int a0] h = (zcall d z [.int a0] h).bind (fun q => zexec (d + 1) y pc' ls (q.1.toList ++ []) q.2) := by
  simp only [Bool.and_eq_true, decide_eq_true_eq, beq_iff_eq] at hok
  obtain ⟨⟨⟨⟨h1, h1'⟩, h2⟩, h3⟩, h4⟩ := hok
  rw [List.getD_eq_getElem?_getD] at h2
  obtain ⟨len, ha, h5⟩ := zok_out h1
  subst h1'
  refine (zexec_eq ha (d + 1) ls _ h).trans ?_
  have k1 : zcal y (.invokestatic ix) [.int a0] h = some (z, [.int a0], []) := by simp [zcal, h2, h3, zargs, h4]
  have k2 : zheap y (.invokestatic ix) [.int a0] h = none := by simp [zheap, h2]
  simp only [zstep, zpure, zloc, zjmp, k2, zretn, k1]
  rfl

theorem zx_icmp_lt (y pc pc' tg : Nat) (off : Int) (hok : zokj y pc (.if_icmp .lt off) off pc' tg = true) (d : Nat) (a b : Int32) (ls : zL) (st : List Value) (h : zH) : zexec d y pc ls (.int b :: .int a :: st) h = if a < b then zexec d y tg ls st h else zexec d y pc' ls st h := by
  obtain ⟨ha, rfl, h0, rfl⟩ := zokj_out hok
  refine (zexec_eq ha d _ _ h).trans ?_
  by_cases hc : a < b <;> simp [zstep, zpure, zloc, zjmp, zbr, zgo, h0, hc]

theorem zx_istore_n_3 (y pc pc' : Nat) (hok : zok y pc (.istore_n 3) pc' = true) (d : Nat) (x : Int32) (l0 l1 l2 l3 : Option Value) (ls : zL) (st : List Value) (h : zH) : zexec d y pc (l0 :: l1 :: l2 :: l3 :: ls) (.int x :: st) h = zexec d y pc' (l0 :: l1 :: zclr l2 :: some (.int x) :: ls) st h := by
  obtain ⟨len, ha, rfl⟩ := zok_out hok
  have e1 : zloc (.istore_n 3) (l0 :: l1 :: l2 :: l3 :: ls) (.int x :: st) = some (l0 :: l1 :: zclr l2 :: some (.int x) :: ls, st) := by
    have e0 : zist (l0 :: l1 :: l2 :: l3 :: ls) 3 (.int x :: st) = some (l0 :: l1 :: zclr l2 :: some (.int x) :: ls, st) := by simp [zist, zset1]
    exact e0
  refine (zexec_eq ha d _ _ h).trans ?_
  simp only [zstep, zpure, e1, zgo]

theorem zx_iload_n_3 (y pc pc' : Nat) (hok : zok y pc (.iload_n 3) pc' = true) (d : Nat) (x : Int32) (l0 l1 l2 : Option Value) (ls : zL) (st : List Value) (h : zH) : zexec d y pc (l0 :: l1 :: l2 :: some (.int x) :: ls) st h = zexec d y pc' (l0 :: l1 :: l2 :: some (.int x) :: ls) (.int x :: st) h := by
  obtain ⟨len, ha, rfl⟩ := zok_out hok
  exact (zexec_eq ha d _ _ h).trans rfl

theorem zx_iastore (y pc pc' : Nat) (hok : zok y pc .iastore pc' = true) (d : Nat) (x : Int32) (i : Int32) (a : Nat) (ls : zL) (st : List Value) (h : zH) : zexec d y pc ls (.int x :: .int i :: .ref a :: st) h = if i < 0 then none else if (zig h a i.toNatClampNeg).isSome = true then zexec d y pc' ls st (zqi h a i.toNatClampNeg x) else none := by
  obtain ⟨len, ha, rfl⟩ := zok_out hok
  refine (zexec_eq ha d ls _ h).trans ?_
  by_cases h0 : i < 0
  · simp [zstep, zpure, zloc, zjmp, zheap, zretn, zcal, zgo, h0]
  · by_cases hg : (zig h a i.toNatClampNeg).isSome = true
    · simp [zstep, zpure, zloc, zjmp, zheap, zretn, zcal, zgo, hg, h0, zqi_eq _ hg]
    · simp [zstep, zpure, zloc, zjmp, zheap, zretn, zcal, zgo, hg, h0]

theorem zx_iadd (y pc pc' : Nat) (hok : zok y pc .iadd pc' = true) (d : Nat) (a b : Int32) (ls : zL) (st : List Value) (h : zH) : zexec d y pc ls (.int b :: .int a :: st) h = zexec d y pc' ls (.int (a + b) :: st) h := by
  obtain ⟨len, ha, rfl⟩ := zok_out hok
  exact (zexec_eq ha d ls _ h).trans rfl

theorem zx_callv_ri_0 (y pc pc' ix z c : Nat) (hok : (zok y pc (.invokevirtual ix) pc' && pc + 3 == pc' && decide ((zMk.getD (zow y) []).lookup ix = some (0, z)) && zpn z == 2 && decide (3 ≤ zml z) && zow z == c && decide (c < 13)) = true) (d o : Nat) (a0 : Nat) (a1 : Int32)  (ls : zL) (h : zH) : zexec (d + 1) y pc ls [.int a1, .ref a0, .ref o] h = if zcls h o = c then (zcall d z [.ref o, .ref a0, .int a1] h).bind (fun q => zexec (d + 1) y pc' ls (q.1.toList ++ []) q.2) else none := by
  simp only [Bool.and_eq_true, decide_eq_true_eq, beq_iff_eq] at hok
  obtain ⟨⟨⟨⟨⟨⟨h1, h1'⟩, h2⟩, h3⟩, h4⟩, rfl⟩, h6⟩ := hok
  rw [List.getD_eq_getElem?_getD] at h2
  obtain ⟨len, ha, h5⟩ := zok_out h1
  subst h1'
  refine (zexec_eq ha (d + 1) ls _ h).trans ?_
  have k1 : zcal y (.invokevirtual ix) [.int a1, .ref a0, .ref o] h = if zcls h o = zow z then some (z, [.ref o, .ref a0, .int a1], []) else none := by
    by_cases hc : zcls h o = zow z
    · simp [zcal, h2, h3, hc, h6, zargs, h4]
    · simp [zcal, h2, h3, hc]
  simp only [zstep, zpure, zloc, zjmp, zheap, zretn, k1]
  by_cases hc : zcls h o = zow z
  · rw [if_pos hc, if_pos hc]
    rfl
  · rw [if_neg hc, if_neg hc]
    rfl

theorem zx_iret (y pc pc' : Nat) (hok : (zok y pc .ireturn pc' && decide (zrt y = some .int)) = true) (d : Nat) (v : Int32) (ls : zL) (h : zH) : zexec d y pc ls [.int v] h = some (some (.int v), h) := by
  simp only [Bool.and_eq_true, decide_eq_true_eq] at hok
  obtain ⟨h1, h2⟩ := hok
  try rw [List.getD_eq_getElem?_getD] at h2
  obtain ⟨len, ha, rfl⟩ := zok_out h1
  refine (zexec_eq ha d ls _ h).trans ?_
  simp [zstep, zpure, zloc, zjmp, zheap, zretn, zgo, h2, zfit]

theorem zx_ishl (y pc pc' : Nat) (hok : zok y pc .ishl pc' = true) (d : Nat) (a b : Int32) (ls : zL) (st : List Value) (h : zH) : zexec d y pc ls (.int b :: .int a :: st) h = zexec d y pc' ls (.int (a <<< (b &&& 31)) :: st) h := by
  obtain ⟨len, ha, rfl⟩ := zok_out hok
  exact (zexec_eq ha d ls _ h).trans rfl

theorem zx_imul (y pc pc' : Nat) (hok : zok y pc .imul pc' = true) (d : Nat) (a b : Int32) (ls : zL) (st : List Value) (h : zH) : zexec d y pc ls (.int b :: .int a :: st) h = zexec d y pc' ls (.int (a * b) :: st) h := by
  obtain ⟨len, ha, rfl⟩ := zok_out hok
  exact (zexec_eq ha d ls _ h).trans rfl

theorem zx_calls_i_1 (y pc pc' ix z : Nat) (hok : (zok y pc (.invokestatic ix) pc' && pc + 3 == pc' && decide ((zMk.getD (zow y) []).lookup ix = some (1, z)) && zpn z == 1 && decide (1 ≤ zml z)) = true) (d : Nat) (a0 : Int32) (r0 : Value) (ls : zL) (h : zH) : zexec (d + 1) y pc ls [.int a0, r0] h = (zcall d z [.int a0] h).bind (fun q => zexec (d + 1) y pc' ls (q.1.toList ++ [r0]) q.2) := by
  simp only [Bool.and_eq_true, decide_eq_true_eq, beq_iff_eq] at hok
  obtain ⟨⟨⟨⟨h1, h1'⟩, h2⟩, h3⟩, h4⟩ := hok
  rw [List.getD_eq_getElem?_getD] at h2
  obtain ⟨len, ha, h5⟩ := zok_out h1
  subst h1'
  refine (zexec_eq ha (d + 1) ls _ h).trans ?_
  have k1 : zcal y (.invokestatic ix) [.int a0, r0] h = some (z, [.int a0], [r0]) := by simp [zcal, h2, h3, zargs, h4]
  have k2 : zheap y (.invokestatic ix) [.int a0, r0] h = none := by simp [zheap, h2]
  simp only [zstep, zpure, zloc, zjmp, k2, zretn, k1]
  rfl

theorem zx_ior (y pc pc' : Nat) (hok : zok y pc .ior pc' = true) (d : Nat) (a b : Int32) (ls : zL) (st : List Value) (h : zH) : zexec d y pc ls (.int b :: .int a :: st) h = zexec d y pc' ls (.int (a ||| b) :: st) h := by
  obtain ⟨len, ha, rfl⟩ := zok_out hok
  exact (zexec_eq ha d ls _ h).trans rfl

theorem zx_icmp_ge (y pc pc' tg : Nat) (off : Int) (hok : zokj y pc (.if_icmp .ge off) off pc' tg = true) (d : Nat) (a b : Int32) (ls : zL) (st : List Value) (h : zH) : zexec d y pc ls (.int b :: .int a :: st) h = if b ≤ a then zexec d y tg ls st h else zexec d y pc' ls st h := by
  obtain ⟨ha, rfl, h0, rfl⟩ := zokj_out hok
  refine (zexec_eq ha d _ _ h).trans ?_
  by_cases hc : b ≤ a <;> simp [zstep, zpure, zloc, zjmp, zbr, zgo, h0, hc]

theorem zx_iinc_3 (y pc pc' : Nat) (n : Int) (v : Int32) (hok : zok y pc (.iinc 3 n) pc' = true) (hv : Int32.ofInt n = v) (d : Nat) (x : Int32) (l0 l1 l2 : Option Value) (ls : zL) (st : List Value) (h : zH) : zexec d y pc (l0 :: l1 :: l2 :: some (.int x) :: ls) st h = zexec d y pc' (l0 :: l1 :: zclr l2 :: some (.int (x + v)) :: ls) st h := by
  subst hv
  obtain ⟨len, ha, rfl⟩ := zok_out hok
  refine (zexec_eq ha d _ _ h).trans ?_
  simp [zstep, zpure, zloc, zivar, zset1, zgo]

theorem zx_calls_ri_0 (y pc pc' ix z : Nat) (hok : (zok y pc (.invokestatic ix) pc' && pc + 3 == pc' && decide ((zMk.getD (zow y) []).lookup ix = some (1, z)) && zpn z == 2 && decide (2 ≤ zml z)) = true) (d : Nat) (a0 : Nat) (a1 : Int32)  (ls : zL) (h : zH) : zexec (d + 1) y pc ls [.int a1, .ref a0] h = (zcall d z [.ref a0, .int a1] h).bind (fun q => zexec (d + 1) y pc' ls (q.1.toList ++ []) q.2) := by
  simp only [Bool.and_eq_true, decide_eq_true_eq, beq_iff_eq] at hok
  obtain ⟨⟨⟨⟨h1, h1'⟩, h2⟩, h3⟩, h4⟩ := hok
  rw [List.getD_eq_getElem?_getD] at h2
  obtain ⟨len, ha, h5⟩ := zok_out h1
  subst h1'
  refine (zexec_eq ha (d + 1) ls _ h).trans ?_
  have k1 : zcal y (.invokestatic ix) [.int a1, .ref a0] h = some (z, [.ref a0, .int a1], []) := by simp [zcal, h2, h3, zargs, h4]
  have k2 : zheap y (.invokestatic ix) [.int a1, .ref a0] h = none := by simp [zheap, h2]
  simp only [zstep, zpure, zloc, zjmp, k2, zretn, k1]
  rfl

theorem zx_istore_4 (y pc pc' : Nat) (hok : zok y pc (.istore 4) pc' = true) (d : Nat) (x : Int32) (l0 l1 l2 l3 l4 : Option Value) (ls : zL) (st : List Value) (h : zH) : zexec d y pc (l0 :: l1 :: l2 :: l3 :: l4 :: ls) (.int x :: st) h = zexec d y pc' (l0 :: l1 :: l2 :: zclr l3 :: some (.int x) :: ls) st h := by
  obtain ⟨len, ha, rfl⟩ := zok_out hok
  have e1 : zloc (.istore 4) (l0 :: l1 :: l2 :: l3 :: l4 :: ls) (.int x :: st) = some (l0 :: l1 :: l2 :: zclr l3 :: some (.int x) :: ls, st) := by
    have e0 : zist (l0 :: l1 :: l2 :: l3 :: l4 :: ls) 4 (.int x :: st) = some (l0 :: l1 :: l2 :: zclr l3 :: some (.int x) :: ls, st) := by simp [zist, zset1]
    exact e0
  refine (zexec_eq ha d _ _ h).trans ?_
  simp only [zstep, zpure, e1, zgo]

theorem zx_iload_4 (y pc pc' : Nat) (hok : zok y pc (.iload 4) pc' = true) (d : Nat) (x : Int32) (l0 l1 l2 l3 : Option Value) (ls : zL) (st : List Value) (h : zH) : zexec d y pc (l0 :: l1 :: l2 :: l3 :: some (.int x) :: ls) st h = zexec d y pc' (l0 :: l1 :: l2 :: l3 :: some (.int x) :: ls) (.int x :: st) h := by
  obtain ⟨len, ha, rfl⟩ := zok_out hok
  exact (zexec_eq ha d _ _ h).trans rfl

theorem zx_iand (y pc pc' : Nat) (hok : zok y pc .iand pc' = true) (d : Nat) (a b : Int32) (ls : zL) (st : List Value) (h : zH) : zexec d y pc ls (.int b :: .int a :: st) h = zexec d y pc' ls (.int (a &&& b) :: st) h := by
  obtain ⟨len, ha, rfl⟩ := zok_out hok
  exact (zexec_eq ha d ls _ h).trans rfl

theorem zx_ishr (y pc pc' : Nat) (hok : zok y pc .ishr pc' = true) (d : Nat) (a b : Int32) (ls : zL) (st : List Value) (h : zH) : zexec d y pc ls (.int b :: .int a :: st) h = zexec d y pc' ls (.int (a >>> (b &&& 31)) :: st) h := by
  obtain ⟨len, ha, rfl⟩ := zok_out hok
  exact (zexec_eq ha d ls _ h).trans rfl

theorem zx_calls_ri_1 (y pc pc' ix z : Nat) (hok : (zok y pc (.invokestatic ix) pc' && pc + 3 == pc' && decide ((zMk.getD (zow y) []).lookup ix = some (1, z)) && zpn z == 2 && decide (2 ≤ zml z)) = true) (d : Nat) (a0 : Nat) (a1 : Int32) (r0 : Value) (ls : zL) (h : zH) : zexec (d + 1) y pc ls [.int a1, .ref a0, r0] h = (zcall d z [.ref a0, .int a1] h).bind (fun q => zexec (d + 1) y pc' ls (q.1.toList ++ [r0]) q.2) := by
  simp only [Bool.and_eq_true, decide_eq_true_eq, beq_iff_eq] at hok
  obtain ⟨⟨⟨⟨h1, h1'⟩, h2⟩, h3⟩, h4⟩ := hok
  rw [List.getD_eq_getElem?_getD] at h2
  obtain ⟨len, ha, h5⟩ := zok_out h1
  subst h1'
  refine (zexec_eq ha (d + 1) ls _ h).trans ?_
  have k1 : zcal y (.invokestatic ix) [.int a1, .ref a0, r0] h = some (z, [.ref a0, .int a1], [r0]) := by simp [zcal, h2, h3, zargs, h4]
  have k2 : zheap y (.invokestatic ix) [.int a1, .ref a0, r0] h = none := by simp [zheap, h2]
  simp only [zstep, zpure, zloc, zjmp, k2, zretn, k1]
  rfl

theorem zx_iinc_4 (y pc pc' : Nat) (n : Int) (v : Int32) (hok : zok y pc (.iinc 4 n) pc' = true) (hv : Int32.ofInt n = v) (d : Nat) (x : Int32) (l0 l1 l2 l3 : Option Value) (ls : zL) (st : List Value) (h : zH) : zexec d y pc (l0 :: l1 :: l2 :: l3 :: some (.int x) :: ls) st h = zexec d y pc' (l0 :: l1 :: l2 :: zclr l3 :: some (.int (x + v)) :: ls) st h := by
  subst hv
  obtain ⟨len, ha, rfl⟩ := zok_out hok
  refine (zexec_eq ha d _ _ h).trans ?_
  simp [zstep, zpure, zloc, zivar, zset1, zgo]

theorem zx_calls_ri_2 (y pc pc' ix z : Nat) (hok : (zok y pc (.invokestatic ix) pc' && pc + 3 == pc' && decide ((zMk.getD (zow y) []).lookup ix = some (1, z)) && zpn z == 2 && decide (2 ≤ zml z)) = true) (d : Nat) (a0 : Nat) (a1 : Int32) (r0 : Value) (r1 : Value) (ls : zL) (h : zH) : zexec (d + 1) y pc ls [.int a1, .ref a0, r0, r1] h = (zcall d z [.ref a0, .int a1] h).bind (fun q => zexec (d + 1) y pc' ls (q.1.toList ++ [r0, r1]) q.2) := by
  simp only [Bool.and_eq_true, decide_eq_true_eq, beq_iff_eq] at hok
  obtain ⟨⟨⟨⟨h1, h1'⟩, h2⟩, h3⟩, h4⟩ := hok
  rw [List.getD_eq_getElem?_getD] at h2
  obtain ⟨len, ha, h5⟩ := zok_out h1
  subst h1'
  refine (zexec_eq ha (d + 1) ls _ h).trans ?_
  have k1 : zcal y (.invokestatic ix) [.int a1, .ref a0, r0, r1] h = some (z, [.ref a0, .int a1], [r0, r1]) := by simp [zcal, h2, h3, zargs, h4]
  have k2 : zheap y (.invokestatic ix) [.int a1, .ref a0, r0, r1] h = none := by simp [zheap, h2]
  simp only [zstep, zpure, zloc, zjmp, k2, zretn, k1]
  rfl

theorem zx_icmp_le (y pc pc' tg : Nat) (off : Int) (hok : zokj y pc (.if_icmp .le off) off pc' tg = true) (d : Nat) (a b : Int32) (ls : zL) (st : List Value) (h : zH) : zexec d y pc ls (.int b :: .int a :: st) h = if a ≤ b then zexec d y tg ls st h else zexec d y pc' ls st h := by
  obtain ⟨ha, rfl, h0, rfl⟩ := zokj_out hok
  refine (zexec_eq ha d _ _ h).trans ?_
  by_cases hc : a ≤ b <;> simp [zstep, zpure, zloc, zjmp, zbr, zgo, h0, hc]

theorem zx_istore_5 (y pc pc' : Nat) (hok : zok y pc (.istore 5) pc' = true) (d : Nat) (x : Int32) (l0 l1 l2 l3 l4 l5 : Option Value) (ls : zL) (st : List Value) (h : zH) : zexec d y pc (l0 :: l1 :: l2 :: l3 :: l4 :: l5 :: ls) (.int x :: st) h = zexec d y pc' (l0 :: l1 :: l2 :: l3 :: zclr l4 :: some (.int x) :: ls) st h := by
  obtain ⟨len, ha, rfl⟩ := zok_out hok
  have e1 : zloc (.istore 5) (l0 :: l1 :: l2 :: l3 :: l4 :: l5 :: ls) (.int x :: st) = some (l0 :: l1 :: l2 :: l3 :: zclr l4 :: some (.int x) :: ls, st) := by
    have e0 : zist (l0 :: l1 :: l2 :: l3 :: l4 :: l5 :: ls) 5 (.int x :: st) = some (l0 :: l1 :: l2 :: l3 :: zclr l4 :: some (.int x) :: ls, st) := by simp [zist, zset1]
    exact e0
  refine (zexec_eq ha d _ _ h).trans ?_
  simp only [zstep, zpure, e1, zgo]

theorem zx_iload_5 (y pc pc' : Nat) (hok : zok y pc (.iload 5) pc' = true) (d : Nat) (x : Int32) (l0 l1 l2 l3 l4 : Option Value) (ls : zL) (st : List Value) (h : zH) : zexec d y pc (l0 :: l1 :: l2 :: l3 :: l4 :: some (.int x) :: ls) st h = zexec d y pc' (l0 :: l1 :: l2 :: l3 :: l4 :: some (.int x) :: ls) (.int x :: st) h := by
  obtain ⟨len, ha, rfl⟩ := zok_out hok
  exact (zexec_eq ha d _ _ h).trans rfl

theorem zx_istore_6 (y pc pc' : Nat) (hok : zok y pc (.istore 6) pc' = true) (d : Nat) (x : Int32) (l0 l1 l2 l3 l4 l5 l6 : Option Value) (ls : zL) (st : List Value) (h : zH) : zexec d y pc (l0 :: l1 :: l2 :: l3 :: l4 :: l5 :: l6 :: ls) (.int x :: st) h = zexec d y pc' (l0 :: l1 :: l2 :: l3 :: l4 :: zclr l5 :: some (.int x) :: ls) st h := by
  obtain ⟨len, ha, rfl⟩ := zok_out hok
  have e1 : zloc (.istore 6) (l0 :: l1 :: l2 :: l3 :: l4 :: l5 :: l6 :: ls) (.int x :: st) = some (l0 :: l1 :: l2 :: l3 :: l4 :: zclr l5 :: some (.int x) :: ls, st) := by
    have e0 : zist (l0 :: l1 :: l2 :: l3 :: l4 :: l5 :: l6 :: ls) 6 (.int x :: st) = some (l0 :: l1 :: l2 :: l3 :: l4 :: zclr l5 :: some (.int x) :: ls, st) := by simp [zist, zset1]
    exact e0
  refine (zexec_eq ha d _ _ h).trans ?_
  simp only [zstep, zpure, e1, zgo]

theorem zx_istore_7 (y pc pc' : Nat) (hok : zok y pc (.istore 7) pc' = true) (d : Nat) (x : Int32) (l0 l1 l2 l3 l4 l5 l6 l7 : Option Value) (ls : zL) (st : List Value) (h : zH) : zexec d y pc (l0 :: l1 :: l2 :: l3 :: l4 :: l5 :: l6 :: l7 :: ls) (.int x :: st) h = zexec d y pc' (l0 :: l1 :: l2 :: l3 :: l4 :: l5 :: zclr l6 :: some (.int x) :: ls) st h := by
  obtain ⟨len, ha, rfl⟩ := zok_out hok
  have e1 : zloc (.istore 7) (l0 :: l1 :: l2 :: l3 :: l4 :: l5 :: l6 :: l7 :: ls) (.int x :: st) = some (l0 :: l1 :: l2 :: l3 :: l4 :: l5 :: zclr l6 :: some (.int x) :: ls, st) := by
    have e0 : zist (l0 :: l1 :: l2 :: l3 :: l4 :: l5 :: l6 :: l7 :: ls) 7 (.int x :: st) = some (l0 :: l1 :: l2 :: l3 :: l4 :: l5 :: zclr l6 :: some (.int x) :: ls, st) := by simp [zist, zset1]
    exact e0
  refine (zexec_eq ha d _ _ h).trans ?_
  simp only [zstep, zpure, e1, zgo]

theorem zx_iload_6 (y pc pc' : Nat) (hok : zok y pc (.iload 6) pc' = true) (d : Nat) (x : Int32) (l0 l1 l2 l3 l4 l5 : Option Value) (ls : zL) (st : List Value) (h : zH) : zexec d y pc (l0 :: l1 :: l2 :: l3 :: l4 :: l5 :: some (.int x) :: ls) st h = zexec d y pc' (l0 :: l1 :: l2 :: l3 :: l4 :: l5 :: some (.int x) :: ls) (.int x :: st) h := by
  obtain ⟨len, ha, rfl⟩ := zok_out hok
  exact (zexec_eq ha d _ _ h).trans rfl

theorem zx_iload_7 (y pc pc' : Nat) (hok : zok y pc (.iload 7) pc' = true) (d : Nat) (x : Int32) (l0 l1 l2 l3 l4 l5 l6 : Option Value) (ls : zL) (st : List Value) (h : zH) : zexec d y pc (l0 :: l1 :: l2 :: l3 :: l4 :: l5 :: l6 :: some (.int x) :: ls) st h = zexec d y pc' (l0 :: l1 :: l2 :: l3 :: l4 :: l5 :: l6 :: some (.int x) :: ls) (.int x :: st) h := by
  obtain ⟨len, ha, rfl⟩ := zok_out hok
  exact (zexec_eq ha d _ _ h).trans rfl

theorem zx_callv_rri_0 (y pc pc' ix z c : Nat) (hok : (zok y pc (.invokevirtual ix) pc' && pc + 3 == pc' && decide ((zMk.getD (zow y) []).lookup ix = some (0, z)) && zpn z == 3 && decide (4 ≤ zml z) && zow z == c && decide (c < 13)) = true) (d o : Nat) (a0 : Nat) (a1 : Nat) (a2 : Int32)  (ls : zL) (h : zH) : zexec (d + 1) y pc ls [.int a2, .ref a1, .ref a0, .ref o] h = if zcls h o = c then (zcall d z [.ref o, .ref a0, .ref a1, .int a2] h).bind (fun q => zexec (d + 1) y pc' ls (q.1.toList ++ []) q.2) else none := by
  simp only [Bool.and_eq_true, decide_eq_true_eq, beq_iff_eq] at hok
  obtain ⟨⟨⟨⟨⟨⟨h1, h1'⟩, h2⟩, h3⟩, h4⟩, rfl⟩, h6⟩ := hok
  rw [List.getD_eq_getElem?_getD] at h2
  obtain ⟨len, ha, h5⟩ := zok_out h1
  subst h1'
  refine (zexec_eq ha (d + 1) ls _ h).trans ?_
  have k1 : zcal y (.invokevirtual ix) [.int a2, .ref a1, .ref a0, .ref o] h = if zcls h o = zow z then some (z, [.ref o, .ref a0, .ref a1, .int a2], []) else none := by
    by_cases hc : zcls h o = zow z
    · simp [zcal, h2, h3, hc, h6, zargs, h4]
    · simp [zcal, h2, h3, hc]
  simp only [zstep, zpure, zloc, zjmp, zheap, zretn, k1]
  by_cases hc : zcls h o = zow z
  · rw [if_pos hc, if_pos hc]
    rfl
  · rw [if_neg hc, if_neg hc]
    rfl

theorem zx_callv_riii_0 (y pc pc' ix z c : Nat) (hok : (zok y pc (.invokevirtual ix) pc' && pc + 3 == pc' && decide ((zMk.getD (zow y) []).lookup ix = some (0, z)) && zpn z == 4 && decide (5 ≤ zml z) && zow z == c && decide (c < 13)) = true) (d o : Nat) (a0 : Nat) (a1 : Int32) (a2 : Int32) (a3 : Int32)  (ls : zL) (h : zH) : zexec (d + 1) y pc ls [.int a3, .int a2, .int a1, .ref a0, .ref o] h = if zcls h o = c then (zcall d z [.ref o, .ref a0, .int a1, .int a2, .int a3] h).bind (fun q => zexec (d + 1) y pc' ls (q.1.toList ++ []) q.2) else none := by
  simp only [Bool.and_eq_true, decide_eq_true_eq, beq_iff_eq] at hok
  obtain ⟨⟨⟨⟨⟨⟨h1, h1'⟩, h2⟩, h3⟩, h4⟩, rfl⟩, h6⟩ := hok
  rw [List.getD_eq_getElem?_getD] at h2
  obtain ⟨len, ha, h5⟩ := zok_out h1
  subst h1'
  refine (zexec_eq ha (d + 1) ls _ h).trans ?_
  have k1 : zcal y (.invokevirtual ix) [.int a3, .int a2, .int a1, .ref a0, .ref o] h = if zcls h o = zow z then some (z, [.ref o, .ref a0, .int a1, .int a2, .int a3], []) else none := by
    by_cases hc : zcls h o = zow z
    · simp [zcal, h2, h3, hc, h6, zargs, h4]
    · simp [zcal, h2, h3, hc]
  simp only [zstep, zpure, zloc, zjmp, zheap, zretn, k1]
  by_cases hc : zcls h o = zow z
  · rw [if_pos hc, if_pos hc]
    rfl
  · rw [if_neg hc, if_neg hc]
    rfl

theorem zx_iinc_5 (y pc pc' : Nat) (n : Int) (v : Int32) (hok : zok y pc (.iinc 5 n) pc' = true) (hv : Int32.ofInt n = v) (d : Nat) (x : Int32) (l0 l1 l2 l3 l4 : Option Value) (ls : zL) (st : List Value) (h : zH) : zexec d y pc (l0 :: l1 :: l2 :: l3 :: l4 :: some (.int x) :: ls) st h = zexec d y pc' (l0 :: l1 :: l2 :: l3 :: zclr l4 :: some (.int (x + v)) :: ls) st h := by
  subst hv
  obtain ⟨len, ha, rfl⟩ := zok_out hok
  refine (zexec_eq ha d _ _ h).trans ?_
  simp [zstep, zpure, zloc, zivar, zset1, zgo]

theorem zx_dup2_ir (y pc pc' : Nat) (hok : zok y pc .dup2 pc' = true) (d : Nat) (a : Int32) (b : Nat) (ls : zL) (st : List Value) (h : zH) : zexec d y pc ls (.int a :: .ref b :: st) h = zexec d y pc' ls (.int a :: .ref b :: .int a :: .ref b :: st) h := by
  obtain ⟨len, ha, rfl⟩ := zok_out hok
  exact (zexec_eq ha d ls _ h).trans rfl

theorem zx_calls_rri_0 (y pc pc' ix z : Nat) (hok : (zok y pc (.invokestatic ix) pc' && pc + 3 == pc' && decide ((zMk.getD (zow y) []).lookup ix = some (1, z)) && zpn z == 3 && decide (3 ≤ zml z)) = true) (d : Nat) (a0 : Nat) (a1 : Nat) (a2 : Int32)  (ls : zL) (h : zH) : zexec (d + 1) y pc ls [.int a2, .ref a1, .ref a0] h = (zcall d z [.ref a0, .ref a1, .int a2] h).bind (fun q => zexec (d + 1) y pc' ls (q.1.toList ++ []) q.2) := by
  simp only [Bool.and_eq_true, decide_eq_true_eq, beq_iff_eq] at hok
  obtain ⟨⟨⟨⟨h1, h1'⟩, h2⟩, h3⟩, h4⟩ := hok
  rw [List.getD_eq_getElem?_getD] at h2
  obtain ⟨len, ha, h5⟩ := zok_out h1
  subst h1'
  refine (zexec_eq ha (d + 1) ls _ h).trans ?_
  have k1 : zcal y (.invokestatic ix) [.int a2, .ref a1, .ref a0] h = some (z, [.ref a0, .ref a1, .int a2], []) := by simp [zcal, h2, h3, zargs, h4]
  have k2 : zheap y (.invokestatic ix) [.int a2, .ref a1, .ref a0] h = none := by simp [zheap, h2]
  simp only [zstep, zpure, zloc, zjmp, k2, zretn, k1]
  rfl

theorem zx_calls_iii_0 (y pc pc' ix z : Nat) (hok : (zok y pc (.invokestatic ix) pc' && pc + 3 == pc' && decide ((zMk.getD (zow y) []).lookup ix = some (1, z)) && zpn z == 3 && decide (3 ≤ zml z)) = true) (d : Nat) (a0 : Int32) (a1 : Int32) (a2 : Int32)  (ls : zL) (h : zH) : zexec (d + 1) y pc ls [.int a2, .int a1, .int a0] h = (zcall d z [.int a0, .int a1, .int a2] h).bind (fun q => zexec (d + 1) y pc' ls (q.1.toList ++ []) q.2) := by
  simp only [Bool.and_eq_true, decide_eq_true_eq, beq_iff_eq] at hok
  obtain ⟨⟨⟨⟨h1, h1'⟩, h2⟩, h3⟩, h4⟩ := hok
  rw [List.getD_eq_getElem?_getD] at h2
  obtain ⟨len, ha, h5⟩ := zok_out h1
  subst h1'
  refine (zexec_eq ha (d + 1) ls _ h).trans ?_
  have k1 : zcal y (.invokestatic ix) [.int a2, .int a1, .int a0] h = some (z, [.int a0, .int a1, .int a2], []) := by simp [zcal, h2, h3, zargs, h4]
  have k2 : zheap y (.invokestatic ix) [.int a2, .int a1, .int a0] h = none := by simp [zheap, h2]
  simp only [zstep, zpure, zloc, zjmp, k2, zretn, k1]
  rfl

theorem zx_callv_rii_0 (y pc pc' ix z c : Nat) (hok : (zok y pc (.invokevirtual ix) pc' && pc + 3 == pc' && decide ((zMk.getD (zow y) []).lookup ix = some (0, z)) && zpn z == 3 && decide (4 ≤ zml z) && zow z == c && decide (c < 13)) = true) (d o : Nat) (a0 : Nat) (a1 : Int32) (a2 : Int32)  (ls : zL) (h : zH) : zexec (d + 1) y pc ls [.int a2, .int a1, .ref a0, .ref o] h = if zcls h o = c then (zcall d z [.ref o, .ref a0, .int a1, .int a2] h).bind (fun q => zexec (d + 1) y pc' ls (q.1.toList ++ []) q.2) else none := by
  simp only [Bool.and_eq_true, decide_eq_true_eq, beq_iff_eq] at hok
  obtain ⟨⟨⟨⟨⟨⟨h1, h1'⟩, h2⟩, h3⟩, h4⟩, rfl⟩, h6⟩ := hok
  rw [List.getD_eq_getElem?_getD] at h2
  obtain ⟨len, ha, h5⟩ := zok_out h1
  subst h1'
  refine (zexec_eq ha (d + 1) ls _ h).trans ?_
  have k1 : zcal y (.invokevirtual ix) [.int a2, .int a1, .ref a0, .ref o] h = if zcls h o = zow z then some (z, [.ref o, .ref a0, .int a1, .int a2], []) else none := by
    by_cases hc : zcls h o = zow z
    · simp [zcal, h2, h3, hc, h6, zargs, h4]
    · simp [zcal, h2, h3, hc]
  simp only [zstep, zpure, zloc, zjmp, zheap, zretn, k1]
  by_cases hc : zcls h o = zow z
  · rw [if_pos hc, if_pos hc]
    rfl
  · rw [if_neg hc, if_neg hc]
    rfl

theorem zx_calls_rii_0 (y pc pc' ix z : Nat) (hok : (zok y pc (.invokestatic ix) pc' && pc + 3 == pc' && decide ((zMk.getD (zow y) []).lookup ix = some (1, z)) && zpn z == 3 && decide (3 ≤ zml z)) = true) (d : Nat) (a0 : Nat) (a1 : Int32) (a2 : Int32)  (ls : zL) (h : zH) : zexec (d + 1) y pc ls [.int a2, .int a1, .ref a0] h = (zcall d z [.ref a0, .int a1, .int a2] h).bind (fun q => zexec (d + 1) y pc' ls (q.1.toList ++ []) q.2) := by
  simp only [Bool.and_eq_true, decide_eq_true_eq, beq_iff_eq] at hok
  obtain ⟨⟨⟨⟨h1, h1'⟩, h2⟩, h3⟩, h4⟩ := hok
  rw [List.getD_eq_getElem?_getD] at h2
  obtain ⟨len, ha, h5⟩ := zok_out h1
  subst h1'
  refine (zexec_eq ha (d + 1) ls _ h).trans ?_
  have k1 : zcal y (.invokestatic ix) [.int a2, .int a1, .ref a0] h = some (z, [.ref a0, .int a1, .int a2], []) := by simp [zcal, h2, h3, zargs, h4]
  have k2 : zheap y (.invokestatic ix) [.int a2, .int a1, .ref a0] h = none := by simp [zheap, h2]
  simp only [zstep, zpure, zloc, zjmp, k2, zretn, k1]
  rfl

theorem zx_callv_r_2 (y pc pc' ix z c : Nat) (hok : (zok y pc (.invokevirtual ix) pc' && pc + 3 == pc' && decide ((zMk.getD (zow y) []).lookup ix = some (0, z)) && zpn z == 1 && decide (2 ≤ zml z) && zow z == c && decide (c < 13)) = true) (d o : Nat) (a0 : Nat) (r0 : Value) (r1 : Value) (ls : zL) (h : zH) : zexec (d + 1) y pc ls [.ref a0, .ref o, r0, r1] h = if zcls h o = c then (zcall d z [.ref o, .ref a0] h).bind (fun q => zexec (d + 1) y pc' ls (q.1.toList ++ [r0, r1]) q.2) else none := by
  simp only [Bool.and_eq_true, decide_eq_true_eq, beq_iff_eq] at hok
  obtain ⟨⟨⟨⟨⟨⟨h1, h1'⟩, h2⟩, h3⟩, h4⟩, rfl⟩, h6⟩ := hok
  rw [List.getD_eq_getElem?_getD] at h2
  obtain ⟨len, ha, h5⟩ := zok_out h1
  subst h1'
  refine (zexec_eq ha (d + 1) ls _ h).trans ?_
  have k1 : zcal y (.invokevirtual ix) [.ref a0, .ref o, r0, r1] h = if zcls h o = zow z then some (z, [.ref o, .ref a0], [r0, r1]) else none := by
    by_cases hc : zcls h o = zow z
    · simp [zcal, h2, h3, hc, h6, zargs, h4]
    · simp [zcal, h2, h3, hc]
  simp only [zstep, zpure, zloc, zjmp, zheap, zretn, k1]
  by_cases hc : zcls h o = zow z
  · rw [if_pos hc, if_pos hc]
    rfl
  · rw [if_neg hc, if_neg hc]
    rfl

theorem zx_callv_i_2 (y pc pc' ix z c : Nat) (hok : (zok y pc (.invokevirtual ix) pc' && pc + 3 == pc' && decide ((zMk.getD (zow y) []).lookup ix = some (0, z)) && zpn z == 1 && decide (2 ≤ zml z) && zow z == c && decide (c < 13)) = true) (d o : Nat) (a0 : Int32) (r0 : Value) (r1 : Value) (ls : zL) (h : zH) : zexec (d + 1) y pc ls [.int a0, .ref o, r0, r1] h = if zcls h o = c then (zcall d z [.ref o, .int a0] h).bind (fun q => zexec (d + 1) y pc' ls (q.1.toList ++ [r0, r1]) q.2) else none := by
  simp only [Bool.and_eq_true, decide_eq_true_eq, beq_iff_eq] at hok
  obtain ⟨⟨⟨⟨⟨⟨h1, h1'⟩, h2⟩, h3⟩, h4⟩, rfl⟩, h6⟩ := hok
  rw [List.getD_eq_getElem?_getD] at h2
  obtain ⟨len, ha, h5⟩ := zok_out h1
  subst h1'
  refine (zexec_eq ha (d + 1) ls _ h).trans ?_
  have k1 : zcal y (.invokevirtual ix) [.int a0, .ref o, r0, r1] h = if zcls h o = zow z then some (z, [.ref o, .int a0], [r0, r1]) else none := by
    by_cases hc : zcls h o = zow z
    · simp [zcal, h2, h3, hc, h6, zargs, h4]
    · simp [zcal, h2, h3, hc]
  simp only [zstep, zpure, zloc, zjmp, zheap, zretn, k1]
  by_cases hc : zcls h o = zow z
  · rw [if_pos hc, if_pos hc]
    rfl
  · rw [if_neg hc, if_neg hc]
    rfl

theorem zx_calls_i_2 (y pc pc' ix z : Nat) (hok : (zok y pc (.invokestatic ix) pc' && pc + 3 == pc' && decide ((zMk.getD (zow y) []).lookup ix = some (1, z)) && zpn z == 1 && decide (1 ≤ zml z)) = true) (d : Nat) (a0 : Int32) (r0 : Value) (r1 : Value) (ls : zL) (h : zH) : zexec (d + 1) y pc ls [.int a0, r0, r1] h = (zcall d z [.int a0] h).bind (fun q => zexec (d + 1) y pc' ls (q.1.toList ++ [r0, r1]) q.2) := by
  simp only [Bool.and_eq_true, decide_eq_true_eq, beq_iff_eq] at hok
  obtain ⟨⟨⟨⟨h1, h1'⟩, h2⟩, h3⟩, h4⟩ := hok
  rw [List.getD_eq_getElem?_getD] at h2
  obtain ⟨len, ha, h5⟩ := zok_out h1
  subst h1'
  refine (zexec_eq ha (d + 1) ls _ h).trans ?_
  have k1 : zcal y (.invokestatic ix) [.int a0, r0, r1] h = some (z, [.int a0], [r0, r1]) := by simp [zcal, h2, h3, zargs, h4]
  have k2 : zheap y (.invokestatic ix) [.int a0, r0, r1] h = none := by simp [zheap, h2]
  simp only [zstep, zpure, zloc, zjmp, k2, zretn, k1]
  rfl

theorem zx_pop (y pc pc' : Nat) (hok : zok y pc .pop pc' = true) (d : Nat) (a : Int32) (ls : zL) (st : List Value) (h : zH) : zexec d y pc ls (.int a :: st) h = zexec d y pc' ls (st) h := by
  obtain ⟨len, ha, rfl⟩ := zok_out hok
  exact (zexec_eq ha d ls _ h).trans rfl

theorem zx_callv_iii_0 (y pc pc' ix z c : Nat) (hok : (zok y pc (.invokevirtual ix) pc' && pc + 3 == pc' && decide ((zMk.getD (zow y) []).lookup ix = some (0, z)) && zpn z == 3 && decide (4 ≤ zml z) && zow z == c && decide (c < 13)) = true) (d o : Nat) (a0 : Int32) (a1 : Int32) (a2 : Int32)  (ls : zL) (h : zH) : zexec (d + 1) y pc ls [.int a2, .int a1, .int a0, .ref o] h = if zcls h o = c then (zcall d z [.ref o, .int a0, .int a1, .int a2] h).bind (fun q => zexec (d + 1) y pc' ls (q.1.toList ++ []) q.2) else none := by
  simp only [Bool.and_eq_true, decide_eq_true_eq, beq_iff_eq] at hok
  obtain ⟨⟨⟨⟨⟨⟨h1, h1'⟩, h2⟩, h3⟩, h4⟩, rfl⟩, h6⟩ := hok
  rw [List.getD_eq_getElem?_getD] at h2
  obtain ⟨len, ha, h5⟩ := zok_out h1
  subst h1'
  refine (zexec_eq ha (d + 1) ls _ h).trans ?_
  have k1 : zcal y (.invokevirtual ix) [.int a2, .int a1, .int a0, .ref o] h = if zcls h o = zow z then some (z, [.ref o, .int a0, .int a1, .int a2], []) else none := by
    by_cases hc : zcls h o = zow z
    · simp [zcal, h2, h3, hc, h6, zargs, h4]
    · simp [zcal, h2, h3, hc]
  simp only [zstep, zpure, zloc, zjmp, zheap, zretn, k1]
  by_cases hc : zcls h o = zow z
  · rw [if_pos hc, if_pos hc]
    rfl
  · rw [if_neg hc, if_neg hc]
    rfl

def zok_ldc (y pc : Nat) (ix : Nat) (v : Int32) (pc' : Nat) : Bool := zok y pc (.ldc ix) pc' && decide ((zKk.getD (zow y) []).lookup ix = some v)
theorem zx_ldc (y pc pc' ix : Nat) (v : Int32) (hok : zok_ldc y pc ix v pc' = true) (d : Nat) (ls : zL) (st : List Value) (h : zH) : zexec d y pc ls st h = zexec d y pc' ls (.int v :: st) h := by
  simp only [zok_ldc, Bool.and_eq_true, decide_eq_true_eq] at hok
  obtain ⟨h1, h2⟩ := hok
  try rw [List.getD_eq_getElem?_getD] at h2
  obtain ⟨len, ha, rfl⟩ := zok_out h1
  refine (zexec_eq ha d ls _ h).trans ?_
  simp [zstep, zpure, zloc, zjmp, zheap, zgo, h2]

theorem zx_irem (y pc pc' : Nat) (hok : zok y pc .irem pc' = true) (d : Nat) (a b : Int32) (ls : zL) (st : List Value) (h : zH) : zexec d y pc ls (.int b :: .int a :: st) h = if b = 0 then none else zexec d y pc' ls (.int (a - a / b * b) :: st) h := by
  obtain ⟨len, ha, rfl⟩ := zok_out hok
  refine (zexec_eq ha d ls _ h).trans ?_
  by_cases hb : b = 0
  · simp [zstep, zpure, zloc, zjmp, zheap, zretn, zcal, zgo, hb]
  · simp [zstep, zpure, zgo, hb]

theorem zx_idiv (y pc pc' : Nat) (hok : zok y pc .idiv pc' = true) (d : Nat) (a b : Int32) (ls : zL) (st : List Value) (h : zH) : zexec d y pc ls (.int b :: .int a :: st) h = if b = 0 then none else zexec d y pc' ls (.int (a / b) :: st) h := by
  obtain ⟨len, ha, rfl⟩ := zok_out hok
  refine (zexec_eq ha d ls _ h).trans ?_
  by_cases hb : b = 0
  · simp [zstep, zpure, zloc, zjmp, zheap, zretn, zcal, zgo, hb]
  · simp [zstep, zpure, zgo, hb]

/-- System.arraycopy -/
def zacp (h : zH) (a0 : Nat) (sp : Int32) (a : Nat) (dp n : Int32) : Option zH := if sp < 0 ∨ dp < 0 ∨ n < 0 then none else match h.2.2 a0, h.2.2 a with
      | .inl (.int, n0, .inl _), .inl (.int, n1, .inl _) => if sp.toNatClampNeg + n.toNatClampNeg ≤ n0 ∧ dp.toNatClampNeg + n.toNatClampNeg ≤ n1 then some (zcpi h a0 a sp.toNatClampNeg dp.toNatClampNeg n.toNatClampNeg) else none
      | .inl (.long, n0, .inr (.inl _)), .inl (.long, n1, .inr (.inl _)) => if sp.toNatClampNeg + n.toNatClampNeg ≤ n0 ∧ dp.toNatClampNeg + n.toNatClampNeg ≤ n1 then some (zcpl h a0 a sp.toNatClampNeg dp.toNatClampNeg n.toNatClampNeg) else none
      | _, _ => none
theorem zx_acp (y pc pc' ix j : Nat) (hok : (zok y pc (.invokestatic ix) pc' && decide ((zMk.getD (zow y) []).lookup ix = some (4, j))) = true) (d : Nat) (n dp : Int32) (a : Nat) (sp : Int32) (a0 : Nat) (ls : zL) (h : zH) : zexec d y pc ls [.int n, .int dp, .ref a, .int sp, .ref a0] h = (zacp h a0 sp a dp n).bind (fun h' => zexec d y pc' ls [] h') := by
  simp only [Bool.and_eq_true, decide_eq_true_eq] at hok
  obtain ⟨h1, h2⟩ := hok
  try rw [List.getD_eq_getElem?_getD] at h2
  obtain ⟨len, ha, rfl⟩ := zok_out h1
  refine (zexec_eq ha d ls _ h).trans ?_
  have key : zheap y (.invokestatic ix) [.int n, .int dp, .ref a, .int sp, .ref a0] h = (zacp h a0 sp a dp n).map (fun h' => ([], h')) := by
    simp only [zheap, List.getD_eq_getElem?_getD, h2, zacp, List.length_nil, Nat.not_lt_zero, or_false]
    by_cases h0 : sp < 0 ∨ dp < 0 ∨ n < 0
    · rw [if_pos h0, if_pos h0]; rfl
    · rw [if_neg h0, if_neg h0]
      generalize h.2.2 a0 = c0
      generalize h.2.2 a = c1
      split
      · dsimp only
        split <;> rfl
      · dsimp only
        split <;> rfl
      · rename_i g1 g2
        split
        · exact absurd rfl (g1 _ _ _ _ rfl)
        · exact absurd rfl (g2 _ _ _ _ rfl)
        · rfl
  have k2 : zcal y (.invokestatic ix) [.int n, .int dp, .ref a, .int sp, .ref a0] h = none := by simp [zcal, h2]
  simp only [zstep, zpure, zloc, zjmp, zretn, key, k2]
  cases zacp h a0 sp a dp n <;> rfl

theorem zx_iinc_2 (y pc pc' : Nat) (n : Int) (v : Int32) (hok : zok y pc (.iinc 2 n) pc' = true) (hv : Int32.ofInt n = v) (d : Nat) (x : Int32) (l0 l1 : Option Value) (ls : zL) (st : List Value) (h : zH) : zexec d y pc (l0 :: l1 :: some (.int x) :: ls) st h = zexec d y pc' (l0 :: zclr l1 :: some (.int (x + v)) :: ls) st h := by
  subst hv
  obtain ⟨len, ha, rfl⟩ := zok_out hok
  refine (zexec_eq ha d _ _ h).trans ?_
  simp [zstep, zpure, zloc, zivar, zset1, zgo]

theorem zx_newarray_long (y pc pc' : Nat) (hok : zok y pc (.newarray .long) pc' = true) (d : Nat) (n : Int32) (ls : zL) (st : List Value) (h : zH) : zexec d y pc ls (.int n :: st) h = if zsz n = true then zexec d y pc' ls (.ref h.1 :: st) (znewl h n.toNatClampNeg) else none := by
  obtain ⟨len, ha, rfl⟩ := zok_out hok
  refine (zexec_eq ha d ls _ h).trans ?_
  by_cases hz : zsz n = true <;> simp [zstep, zpure, zloc, zjmp, zheap, zretn, zcal, zgo, hz]

theorem zx_newarray_byte (y pc pc' : Nat) (hok : zok y pc (.newarray .byte) pc' = true) (d : Nat) (n : Int32) (ls : zL) (st : List Value) (h : zH) : zexec d y pc ls (.int n :: st) h = if zsz n = true then zexec d y pc' ls (.ref h.1 :: st) (znewi h .byte n.toNatClampNeg) else none := by
  obtain ⟨len, ha, rfl⟩ := zok_out hok
  refine (zexec_eq ha d ls _ h).trans ?_
  by_cases hz : zsz n = true <;> simp [zstep, zpure, zloc, zjmp, zheap, zretn, zcal, zgo, hz]

theorem zx_lconst_0 (y pc pc' : Nat) (hok : zok y pc (.lconst 0) pc' = true) (d : Nat) (ls : zL) (st : List Value) (h : zH) : zexec d y pc ls st h = zexec d y pc' ls (.long 0 :: st) h := by
  obtain ⟨len, ha, rfl⟩ := zok_out hok
  exact (zexec_eq ha d ls _ h).trans rfl

theorem zx_lstore_n_2 (y pc pc' : Nat) (hok : zok y pc (.lstore_n 2) pc' = true) (d : Nat) (x : Int64) (l0 l1 l2 l3 : Option Value) (ls : zL) (st : List Value) (h : zH) : zexec d y pc (l0 :: l1 :: l2 :: l3 :: ls) (.long x :: st) h = zexec d y pc' (l0 :: zclr l1 :: some (.long x) :: none :: ls) st h := by
  obtain ⟨len, ha, rfl⟩ := zok_out hok
  have e1 : zloc (.lstore_n 2) (l0 :: l1 :: l2 :: l3 :: ls) (.long x :: st) = some (l0 :: zclr l1 :: some (.long x) :: none :: ls, st) := by
    have e0 : zlst (l0 :: l1 :: l2 :: l3 :: ls) 2 (.long x :: st) = some (l0 :: zclr l1 :: some (.long x) :: none :: ls, st) := by simp [zlst, zset2]
    exact e0
  refine (zexec_eq ha d _ _ h).trans ?_
  simp only [zstep, zpure, e1, zgo]

theorem zx_ldcS (y pc pc' : Nat) (hok : (zok y pc (.ldc 26) pc' && decide (zow y = 4) && decide ((zKk.getD (zow y) []).lookup 26 = none)) = true) (d : Nat) (ls : zL) (st : List Value) (h : zH) : zexec d y pc ls st h = zexec d y pc' ls (.ref 1 :: st) h := by
  simp only [Bool.and_eq_true, decide_eq_true_eq] at hok
  obtain ⟨⟨h1, h2⟩, h3⟩ := hok
  obtain ⟨len, ha, rfl⟩ := zok_out h1
  refine (zexec_eq ha d ls _ h).trans ?_
  rw [h2] at h3
  simp only [zstep, zpure, zloc, zjmp, zheap, h2, h3]
  simp [zgo]

theorem zx_callv_x_1 (y pc pc' ix z c : Nat) (hok : (zok y pc (.invokevirtual ix) pc' && pc + 3 == pc' && decide ((zMk.getD (zow y) []).lookup ix = some (0, z)) && zpn z == 0 && decide (1 ≤ zml z) && zow z == c && decide (c < 13)) = true) (d o : Nat)  (r0 : Value) (ls : zL) (h : zH) : zexec (d + 1) y pc ls [.ref o, r0] h = if zcls h o = c then (zcall d z [.ref o] h).bind (fun q => zexec (d + 1) y pc' ls (q.1.toList ++ [r0]) q.2) else none := by
  simp only [Bool.and_eq_true, decide_eq_true_eq, beq_iff_eq] at hok
  obtain ⟨⟨⟨⟨⟨⟨h1, h1'⟩, h2⟩, h3⟩, h4⟩, rfl⟩, h6⟩ := hok
  rw [List.getD_eq_getElem?_getD] at h2
  obtain ⟨len, ha, h5⟩ := zok_out h1
  subst h1'
  refine (zexec_eq ha (d + 1) ls _ h).trans ?_
  have k1 : zcal y (.invokevirtual ix) [.ref o, r0] h = if zcls h o = zow z then some (z, [.ref o], [r0]) else none := by
    by_cases hc : zcls h o = zow z
    · simp [zcal, h2, h3, hc, h6, zargs, h4]
    · simp [zcal, h2, h3, hc]
  simp only [zstep, zpure, zloc, zjmp, zheap, zretn, k1]
  by_cases hc : zcls h o = zow z
  · rw [if_pos hc, if_pos hc]
    rfl
  · rw [if_neg hc, if_neg hc]
    rfl

theorem zx_callv_x_1_S (y pc pc' ix z c : Nat) (hok : (zok y pc (.invokevirtual ix) pc' && pc + 3 == pc' && decide ((zMk.getD (zow y) []).lookup ix = some (0, z)) && zpn z == 0 && decide (1 ≤ zml z) && zow z == c && decide (c = 13)) = true) (d : Nat)  (r0 : Value) (ls : zL) (h : zH) : zexec (d + 1) y pc ls [.ref 1, r0] h = if zcls h 1 = c then (zcall d z [.ref 1] h).bind (fun q => zexec (d + 1) y pc' ls (q.1.toList ++ [r0]) q.2) else none := by
  simp only [Bool.and_eq_true, decide_eq_true_eq, beq_iff_eq] at hok
  obtain ⟨⟨⟨⟨⟨⟨h1, h1'⟩, h2⟩, h3⟩, h4⟩, rfl⟩, h6⟩ := hok
  rw [List.getD_eq_getElem?_getD] at h2
  obtain ⟨len, ha, h5⟩ := zok_out h1
  subst h1'
  refine (zexec_eq ha (d + 1) ls _ h).trans ?_
  have k1 : zcal y (.invokevirtual ix) [.ref 1, r0] h = if zcls h 1 = zow z then some (z, [.ref 1], [r0]) else none := by
    by_cases hc : zcls h 1 = zow z
    · simp [zcal, h2, h3, hc, zargs, h4]
    · simp [zcal, h2, h3, hc]
  simp only [zstep, zpure, zloc, zjmp, zheap, zretn, k1]
  by_cases hc : zcls h 1 = zow z
  · rw [if_pos hc, if_pos hc]
    rfl
  · rw [if_neg hc, if_neg hc]
    rfl

theorem zx_callv_i_0_S (y pc pc' ix z c : Nat) (hok : (zok y pc (.invokevirtual ix) pc' && pc + 3 == pc' && decide ((zMk.getD (zow y) []).lookup ix = some (0, z)) && zpn z == 1 && decide (2 ≤ zml z) && zow z == c && decide (c = 13)) = true) (d : Nat) (a0 : Int32)  (ls : zL) (h : zH) : zexec (d + 1) y pc ls [.int a0, .ref 1] h = if zcls h 1 = c then (zcall d z [.ref 1, .int a0] h).bind (fun q => zexec (d + 1) y pc' ls (q.1.toList ++ []) q.2) else none := by
  simp only [Bool.and_eq_true, decide_eq_true_eq, beq_iff_eq] at hok
  obtain ⟨⟨⟨⟨⟨⟨h1, h1'⟩, h2⟩, h3⟩, h4⟩, rfl⟩, h6⟩ := hok
  rw [List.getD_eq_getElem?_getD] at h2
  obtain ⟨len, ha, h5⟩ := zok_out h1
  subst h1'
  refine (zexec_eq ha (d + 1) ls _ h).trans ?_
  have k1 : zcal y (.invokevirtual ix) [.int a0, .ref 1] h = if zcls h 1 = zow z then some (z, [.ref 1, .int a0], []) else none := by
    by_cases hc : zcls h 1 = zow z
    · simp [zcal, h2, h3, hc, zargs, h4]
    · simp [zcal, h2, h3, hc]
  simp only [zstep, zpure, zloc, zjmp, zheap, zretn, k1]
  by_cases hc : zcls h 1 = zow z
  · rw [if_pos hc, if_pos hc]
    rfl
  · rw [if_neg hc, if_neg hc]
    rfl

theorem zx_lload_n_2 (y pc pc' : Nat) (hok : zok y pc (.lload_n 2) pc' = true) (d : Nat) (x : Int64) (l0 l1 : Option Value) (ls : zL) (st : List Value) (h : zH) : zexec d y pc (l0 :: l1 :: some (.long x) :: ls) st h = zexec d y pc' (l0 :: l1 :: some (.long x) :: ls) (.long x :: st) h := by
  obtain ⟨len, ha, rfl⟩ := zok_out hok
  exact (zexec_eq ha d _ _ h).trans rfl

theorem zx_lastore (y pc pc' : Nat) (hok : zok y pc .lastore pc' = true) (d : Nat) (x : Int64) (i : Int32) (a : Nat) (ls : zL) (st : List Value) (h : zH) : zexec d y pc ls (.long x :: .int i :: .ref a :: st) h = if i < 0 then none else if (zlg h a i.toNatClampNeg).isSome = true then zexec d y pc' ls st (zql h a i.toNatClampNeg x) else none := by
  obtain ⟨len, ha, rfl⟩ := zok_out hok
  refine (zexec_eq ha d ls _ h).trans ?_
  by_cases h0 : i < 0
  · simp [zstep, zpure, zloc, zjmp, zheap, zretn, zcal, zgo, h0]
  · by_cases hg : (zlg h a i.toNatClampNeg).isSome = true
    · simp [zstep, zpure, zloc, zjmp, zheap, zretn, zcal, zgo, hg, h0, zql_eq _ hg]
    · simp [zstep, zpure, zloc, zjmp, zheap, zretn, zcal, zgo, hg, h0]

def zok_ldc2 (y pc : Nat) (ix : Nat) (v : Int64) (pc' : Nat) : Bool := zok y pc (.ldc2_w ix) pc' && decide ((zJk.getD (zow y) []).lookup ix = some v)
theorem zx_ldc2 (y pc pc' ix : Nat) (v : Int64) (hok : zok_ldc2 y pc ix v pc' = true) (d : Nat) (ls : zL) (st : List Value) (h : zH) : zexec d y pc ls st h = zexec d y pc' ls (.long v :: st) h := by
  simp only [zok_ldc2, Bool.and_eq_true, decide_eq_true_eq] at hok
  obtain ⟨h1, h2⟩ := hok
  try rw [List.getD_eq_getElem?_getD] at h2
  obtain ⟨len, ha, rfl⟩ := zok_out h1
  refine (zexec_eq ha d ls _ h).trans ?_
  simp [zstep, zpure, zloc, zjmp, zheap, zgo, h2]

theorem zx_lmul (y pc pc' : Nat) (hok : zok y pc .lmul pc' = true) (d : Nat) (a b : Int64) (ls : zL) (st : List Value) (h : zH) : zexec d y pc ls (.long b :: .long a :: st) h = zexec d y pc' ls (.long (a * b) :: st) h := by
  obtain ⟨len, ha, rfl⟩ := zok_out hok
  exact (zexec_eq ha d ls _ h).trans rfl

theorem zx_i2l (y pc pc' : Nat) (hok : zok y pc .i2l pc' = true) (d : Nat) (a : Int32) (ls : zL) (st : List Value) (h : zH) : zexec d y pc ls (.int a :: st) h = zexec d y pc' ls (.long (a.toInt64) :: st) h := by
  obtain ⟨len, ha, rfl⟩ := zok_out hok
  exact (zexec_eq ha d ls _ h).trans rfl

theorem zx_ladd (y pc pc' : Nat) (hok : zok y pc .ladd pc' = true) (d : Nat) (a b : Int64) (ls : zL) (st : List Value) (h : zH) : zexec d y pc ls (.long b :: .long a :: st) h = zexec d y pc' ls (.long (a + b) :: st) h := by
  obtain ⟨len, ha, rfl⟩ := zok_out hok
  exact (zexec_eq ha d ls _ h).trans rfl

theorem zx_alen (y pc pc' : Nat) (hok : zok y pc .arraylength pc' = true) (d : Nat) (a : Nat) (ls : zL) (st : List Value) (h : zH) : zexec d y pc ls (.ref a :: st) h = (zlen h a).bind (fun n => zexec d y pc' ls (.int (Int32.ofNat n) :: st) h) := by
  obtain ⟨len, ha, rfl⟩ := zok_out hok
  refine (zexec_eq ha d ls _ h).trans ?_
  cases hg : zlen h a <;> simp [zstep, zpure, zloc, zjmp, zheap, zretn, zcal, zgo, hg]

theorem zx_calls_ii_2 (y pc pc' ix z : Nat) (hok : (zok y pc (.invokestatic ix) pc' && pc + 3 == pc' && decide ((zMk.getD (zow y) []).lookup ix = some (1, z)) && zpn z == 2 && decide (2 ≤ zml z)) = true) (d : Nat) (a0 : Int32) (a1 : Int32) (r0 : Value) (r1 : Value) (ls : zL) (h : zH) : zexec (d + 1) y pc ls [.int a1, .int a0, r0, r1] h = (zcall d z [.int a0, .int a1] h).bind (fun q => zexec (d + 1) y pc' ls (q.1.toList ++ [r0, r1]) q.2) := by
  simp only [Bool.and_eq_true, decide_eq_true_eq, beq_iff_eq] at hok
  obtain ⟨⟨⟨⟨h1, h1'⟩, h2⟩, h3⟩, h4⟩ := hok
  rw [List.getD_eq_getElem?_getD] at h2
  obtain ⟨len, ha, h5⟩ := zok_out h1
  subst h1'
  refine (zexec_eq ha (d + 1) ls _ h).trans ?_
  have k1 : zcal y (.invokestatic ix) [.int a1, .int a0, r0, r1] h = some (z, [.int a0, .int a1], [r0, r1]) := by simp [zcal, h2, h3, zargs, h4]
  have k2 : zheap y (.invokestatic ix) [.int a1, .int a0, r0, r1] h = none := by simp [zheap, h2]
  simp only [zstep, zpure, zloc, zjmp, k2, zretn, k1]
  rfl

theorem zx_calls_ii_1 (y pc pc' ix z : Nat) (hok : (zok y pc (.invokestatic ix) pc' && pc + 3 == pc' && decide ((zMk.getD (zow y) []).lookup ix = some (1, z)) && zpn z == 2 && decide (2 ≤ zml z)) = true) (d : Nat) (a0 : Int32) (a1 : Int32) (r0 : Value) (ls : zL) (h : zH) : zexec (d + 1) y pc ls [.int a1, .int a0, r0] h = (zcall d z [.int a0, .int a1] h).bind (fun q => zexec (d + 1) y pc' ls (q.1.toList ++ [r0]) q.2) := by
  simp only [Bool.and_eq_true, decide_eq_true_eq, beq_iff_eq] at hok
  obtain ⟨⟨⟨⟨h1, h1'⟩, h2⟩, h3⟩, h4⟩ := hok
  rw [List.getD_eq_getElem?_getD] at h2
  obtain ⟨len, ha, h5⟩ := zok_out h1
  subst h1'
  refine (zexec_eq ha (d + 1) ls _ h).trans ?_
  have k1 : zcal y (.invokestatic ix) [.int a1, .int a0, r0] h = some (z, [.int a0, .int a1], [r0]) := by simp [zcal, h2, h3, zargs, h4]
  have k2 : zheap y (.invokestatic ix) [.int a1, .int a0, r0] h = none := by simp [zheap, h2]
  simp only [zstep, zpure, zloc, zjmp, k2, zretn, k1]
  rfl

theorem zx_baload (y pc pc' : Nat) (hok : zok y pc .baload pc' = true) (d : Nat) (i : Int32) (a : Nat) (ls : zL) (st : List Value) (h : zH) : zexec d y pc ls (.int i :: .ref a :: st) h = (zbd h a i).bind (fun v => zexec d y pc' ls (.int v :: st) h) := by
  obtain ⟨len, ha, rfl⟩ := zok_out hok
  refine (zexec_eq ha d ls _ h).trans ?_
  cases hg : zbd h a i <;> simp [zstep, zpure, zloc, zjmp, zheap, zretn, zcal, zgo, hg]

theorem zx_calls_ril_1 (y pc pc' ix z : Nat) (hok : (zok y pc (.invokestatic ix) pc' && pc + 3 == pc' && decide ((zMk.getD (zow y) []).lookup ix = some (1, z)) && zpn z == 3 && decide (4 ≤ zml z)) = true) (d : Nat) (a0 : Nat) (a1 : Int32) (a2 : Int64) (r0 : Value) (ls : zL) (h : zH) : zexec (d + 1) y pc ls [.long a2, .int a1, .ref a0, r0] h = (zcall d z [.ref a0, .int a1, .long a2] h).bind (fun q => zexec (d + 1) y pc' ls (q.1.toList ++ [r0]) q.2) := by
  simp only [Bool.and_eq_true, decide_eq_true_eq, beq_iff_eq] at hok
  obtain ⟨⟨⟨⟨h1, h1'⟩, h2⟩, h3⟩, h4⟩ := hok
  rw [List.getD_eq_getElem?_getD] at h2
  obtain ⟨len, ha, h5⟩ := zok_out h1
  subst h1'
  refine (zexec_eq ha (d + 1) ls _ h).trans ?_
  have k1 : zcal y (.invokestatic ix) [.long a2, .int a1, .ref a0, r0] h = some (z, [.ref a0, .int a1, .long a2], [r0]) := by simp [zcal, h2, h3, zargs, h4]
  have k2 : zheap y (.invokestatic ix) [.long a2, .int a1, .ref a0, r0] h = none := by simp [zheap, h2]
  simp only [zstep, zpure, zloc, zjmp, k2, zretn, k1]
  rfl

theorem zx_lcmp (y pc pc' : Nat) (hok : zok y pc .lcmp pc' = true) (d : Nat) (a b : Int64) (ls : zL) (st : List Value) (h : zH) : zexec d y pc ls (.long b :: .long a :: st) h = zexec d y pc' ls (.int (lg_cmp a b) :: st) h := by
  obtain ⟨len, ha, rfl⟩ := zok_out hok
  exact (zexec_eq ha d ls _ h).trans rfl

theorem zx_i2c (y pc pc' : Nat) (hok : zok y pc .i2c pc' = true) (d : Nat) (a : Int32) (ls : zL) (st : List Value) (h : zH) : zexec d y pc ls (.int a :: st) h = zexec d y pc' ls (.int ((a.toUInt32 % 65536).toInt32) :: st) h := by
  obtain ⟨len, ha, rfl⟩ := zok_out hok
  exact (zexec_eq ha d ls _ h).trans rfl

theorem zx_calls_ril_0 (y pc pc' ix z : Nat) (hok : (zok y pc (.invokestatic ix) pc' && pc + 3 == pc' && decide ((zMk.getD (zow y) []).lookup ix = some (1, z)) && zpn z == 3 && decide (4 ≤ zml z)) = true) (d : Nat) (a0 : Nat) (a1 : Int32) (a2 : Int64)  (ls : zL) (h : zH) : zexec (d + 1) y pc ls [.long a2, .int a1, .ref a0] h = (zcall d z [.ref a0, .int a1, .long a2] h).bind (fun q => zexec (d + 1) y pc' ls (q.1.toList ++ []) q.2) := by
  simp only [Bool.and_eq_true, decide_eq_true_eq, beq_iff_eq] at hok
  obtain ⟨⟨⟨⟨h1, h1'⟩, h2⟩, h3⟩, h4⟩ := hok
  rw [List.getD_eq_getElem?_getD] at h2
  obtain ⟨len, ha, h5⟩ := zok_out h1
  subst h1'
  refine (zexec_eq ha (d + 1) ls _ h).trans ?_
  have k1 : zcal y (.invokestatic ix) [.long a2, .int a1, .ref a0] h = some (z, [.ref a0, .int a1, .long a2], []) := by simp [zcal, h2, h3, zargs, h4]
  have k2 : zheap y (.invokestatic ix) [.long a2, .int a1, .ref a0] h = none := by simp [zheap, h2]
  simp only [zstep, zpure, zloc, zjmp, k2, zretn, k1]
  rfl

theorem zx_laload (y pc pc' : Nat) (hok : zok y pc .laload pc' = true) (d : Nat) (i : Int32) (a : Nat) (ls : zL) (st : List Value) (h : zH) : zexec d y pc ls (.int i :: .ref a :: st) h = if i < 0 then none else (zlg h a i.toNatClampNeg).bind (fun v => zexec d y pc' ls (.long v :: st) h) := by
  obtain ⟨len, ha, rfl⟩ := zok_out hok
  refine (zexec_eq ha d ls _ h).trans ?_
  by_cases h0 : i < 0
  · simp [zstep, zpure, zloc, zjmp, zheap, zretn, zcal, zgo, h0]
  · cases hg : zlg h a i.toNatClampNeg <;> simp [zstep, zpure, zloc, zjmp, zheap, zretn, zcal, zgo, hg, h0]

theorem zx_callv_r_0 (y pc pc' ix z c : Nat) (hok : (zok y pc (.invokevirtual ix) pc' && pc + 3 == pc' && decide ((zMk.getD (zow y) []).lookup ix = some (0, z)) && zpn z == 1 && decide (2 ≤ zml z) && zow z == c && decide (c < 13)) = true) (d o : Nat) (a0 : Nat)  (ls : zL) (h : zH) : zexec (d + 1) y pc ls [.ref a0, .ref o] h = if zcls h o = c then (zcall d z [.ref o, .ref a0] h).bind (fun q => zexec (d + 1) y pc' ls (q.1.toList ++ []) q.2) else none := by
  simp only [Bool.and_eq_true, decide_eq_true_eq, beq_iff_eq] at hok
  obtain ⟨⟨⟨⟨⟨⟨h1, h1'⟩, h2⟩, h3⟩, h4⟩, rfl⟩, h6⟩ := hok
  rw [List.getD_eq_getElem?_getD] at h2
  obtain ⟨len, ha, h5⟩ := zok_out h1
  subst h1'
  refine (zexec_eq ha (d + 1) ls _ h).trans ?_
  have k1 : zcal y (.invokevirtual ix) [.ref a0, .ref o] h = if zcls h o = zow z then some (z, [.ref o, .ref a0], []) else none := by
    by_cases hc : zcls h o = zow z
    · simp [zcal, h2, h3, hc, h6, zargs, h4]
    · simp [zcal, h2, h3, hc]
  simp only [zstep, zpure, zloc, zjmp, zheap, zretn, k1]
  by_cases hc : zcls h o = zow z
  · rw [if_pos hc, if_pos hc]
    rfl
  · rw [if_neg hc, if_neg hc]
    rfl

theorem zx_callv_ri_2 (y pc pc' ix z c : Nat) (hok : (zok y pc (.invokevirtual ix) pc' && pc + 3 == pc' && decide ((zMk.getD (zow y) []).lookup ix = some (0, z)) && zpn z == 2 && decide (3 ≤ zml z) && zow z == c && decide (c < 13)) = true) (d o : Nat) (a0 : Nat) (a1 : Int32) (r0 : Value) (r1 : Value) (ls : zL) (h : zH) : zexec (d + 1) y pc ls [.int a1, .ref a0, .ref o, r0, r1] h = if zcls h o = c then (zcall d z [.ref o, .ref a0, .int a1] h).bind (fun q => zexec (d + 1) y pc' ls (q.1.toList ++ [r0, r1]) q.2) else none := by
  simp only [Bool.and_eq_true, decide_eq_true_eq, beq_iff_eq] at hok
  obtain ⟨⟨⟨⟨⟨⟨h1, h1'⟩, h2⟩, h3⟩, h4⟩, rfl⟩, h6⟩ := hok
  rw [List.getD_eq_getElem?_getD] at h2
  obtain ⟨len, ha, h5⟩ := zok_out h1
  subst h1'
  refine (zexec_eq ha (d + 1) ls _ h).trans ?_
  have k1 : zcal y (.invokevirtual ix) [.int a1, .ref a0, .ref o, r0, r1] h = if zcls h o = zow z then some (z, [.ref o, .ref a0, .int a1], [r0, r1]) else none := by
    by_cases hc : zcls h o = zow z
    · simp [zcal, h2, h3, hc, h6, zargs, h4]
    · simp [zcal, h2, h3, hc]
  simp only [zstep, zpure, zloc, zjmp, zheap, zretn, k1]
  by_cases hc : zcls h o = zow z
  · rw [if_pos hc, if_pos hc]
    rfl
  · rw [if_neg hc, if_neg hc]
    rfl

theorem zx_ixor (y pc pc' : Nat) (hok : zok y pc .ixor pc' = true) (d : Nat) (a b : Int32) (ls : zL) (st : List Value) (h : zH) : zexec d y pc ls (.int b :: .int a :: st) h = zexec d y pc' ls (.int (a ^^^ b) :: st) h := by
  obtain ⟨len, ha, rfl⟩ := zok_out hok
  exact (zexec_eq ha d ls _ h).trans rfl

def zokn (y pc : Nat) (ix ci pc' : Nat) : Bool := zok y pc (.new ix) pc' && decide ((zCk.getD (zow y) []).lookup ix = some ci) && decide (ci < 13 ∧ ci ≠ 1)
theorem zx_new (y pc pc' ix ci : Nat) (hok : zokn y pc ix ci pc' = true) (d : Nat) (ls : zL) (st : List Value) (h : zH) : zexec d y pc ls st h = zexec d y pc' ls (.ref h.1 :: st) (znew h ci) := by
  simp only [zokn, Bool.and_eq_true, decide_eq_true_eq] at hok
  obtain ⟨⟨h1, h2⟩, h3⟩ := hok
  rw [List.getD_eq_getElem?_getD] at h2
  obtain ⟨len, ha, rfl⟩ := zok_out h1
  refine (zexec_eq ha d ls _ h).trans ?_
  simp [zstep, zpure, zloc, zjmp, zheap, zgo, h2, h3]

theorem zx_calli_x_2 (y pc pc' ix z : Nat) (hok : (zok y pc (.invokespecial ix) pc' && pc + 3 == pc' && decide ((zMk.getD (zow y) []).lookup ix = some (2, z)) && zpn z == 0 && decide (1 ≤ zml z)) = true) (d o : Nat)  (r0 : Value) (r1 : Value) (ls : zL) (h : zH) : zexec (d + 1) y pc ls [.ref o, r0, r1] h = (zcall d z [.ref o] h).bind (fun q => zexec (d + 1) y pc' ls (q.1.toList ++ [r0, r1]) q.2) := by
  simp only [Bool.and_eq_true, decide_eq_true_eq, beq_iff_eq] at hok
  obtain ⟨⟨⟨⟨h1, h1'⟩, h2⟩, h3⟩, h4⟩ := hok
  rw [List.getD_eq_getElem?_getD] at h2
  obtain ⟨len, ha, h5⟩ := zok_out h1
  subst h1'
  refine (zexec_eq ha (d + 1) ls _ h).trans ?_
  have k1 : zcal y (.invokespecial ix) [.ref o, r0, r1] h = some (z, [.ref o], [r0, r1]) := by simp [zcal, h2, h3, zargs, h4]
  have k2 : zheap y (.invokespecial ix) [.ref o, r0, r1] h = none := by simp [zheap, h2]
  simp only [zstep, zpure, zloc, zjmp, k2, zretn, k1]
  rfl

theorem zx_lload_n_1 (y pc pc' : Nat) (hok : zok y pc (.lload_n 1) pc' = true) (d : Nat) (x : Int64) (l0 : Option Value) (ls : zL) (st : List Value) (h : zH) : zexec d y pc (l0 :: some (.long x) :: ls) st h = zexec d y pc' (l0 :: some (.long x) :: ls) (.long x :: st) h := by
  obtain ⟨len, ha, rfl⟩ := zok_out hok
  exact (zexec_eq ha d _ _ h).trans rfl

theorem zx_if_lt (y pc pc' tg : Nat) (off : Int) (hok : zokj y pc (.ifCond .lt off) off pc' tg = true) (d : Nat) (a : Int32) (ls : zL) (st : List Value) (h : zH) : zexec d y pc ls (.int a :: st) h = if a < 0 then zexec d y tg ls st h else zexec d y pc' ls st h := by
  obtain ⟨ha, rfl, h0, rfl⟩ := zokj_out hok
  refine (zexec_eq ha d _ _ h).trans ?_
  by_cases hc : a < 0 <;> simp [zstep, zpure, zloc, zjmp, zbr, zgo, h0, hc]

theorem zx_callv_r_1 (y pc pc' ix z c : Nat) (hok : (zok y pc (.invokevirtual ix) pc' && pc + 3 == pc' && decide ((zMk.getD (zow y) []).lookup ix = some (0, z)) && zpn z == 1 && decide (2 ≤ zml z) && zow z == c && decide (c < 13)) = true) (d o : Nat) (a0 : Nat) (r0 : Value) (ls : zL) (h : zH) : zexec (d + 1) y pc ls [.ref a0, .ref o, r0] h = if zcls h o = c then (zcall d z [.ref o, .ref a0] h).bind (fun q => zexec (d + 1) y pc' ls (q.1.toList ++ [r0]) q.2) else none := by
  simp only [Bool.and_eq_true, decide_eq_true_eq, beq_iff_eq] at hok
  obtain ⟨⟨⟨⟨⟨⟨h1, h1'⟩, h2⟩, h3⟩, h4⟩, rfl⟩, h6⟩ := hok
  rw [List.getD_eq_getElem?_getD] at h2
  obtain ⟨len, ha, h5⟩ := zok_out h1
  subst h1'
  refine (zexec_eq ha (d + 1) ls _ h).trans ?_
  have k1 : zcal y (.invokevirtual ix) [.ref a0, .ref o, r0] h = if zcls h o = zow z then some (z, [.ref o, .ref a0], [r0]) else none := by
    by_cases hc : zcls h o = zow z
    · simp [zcal, h2, h3, hc, h6, zargs, h4]
    · simp [zcal, h2, h3, hc]
  simp only [zstep, zpure, zloc, zjmp, zheap, zretn, k1]
  by_cases hc : zcls h o = zow z
  · rw [if_pos hc, if_pos hc]
    rfl
  · rw [if_neg hc, if_neg hc]
    rfl

theorem zx_calls_ii_0 (y pc pc' ix z : Nat) (hok : (zok y pc (.invokestatic ix) pc' && pc + 3 == pc' && decide ((zMk.getD (zow y) []).lookup ix = some (1, z)) && zpn z == 2 && decide (2 ≤ zml z)) = true) (d : Nat) (a0 : Int32) (a1 : Int32)  (ls : zL) (h : zH) : zexec (d + 1) y pc ls [.int a1, .int a0] h = (zcall d z [.int a0, .int a1] h).bind (fun q => zexec (d + 1) y pc' ls (q.1.toList ++ []) q.2) := by
  simp only [Bool.and_eq_true, decide_eq_true_eq, beq_iff_eq] at hok
  obtain ⟨⟨⟨⟨h1, h1'⟩, h2⟩, h3⟩, h4⟩ := hok
  rw [List.getD_eq_getElem?_getD] at h2
  obtain ⟨len, ha, h5⟩ := zok_out h1
  subst h1'
  refine (zexec_eq ha (d + 1) ls _ h).trans ?_
  have k1 : zcal y (.invokestatic ix) [.int a1, .int a0] h = some (z, [.int a0, .int a1], []) := by simp [zcal, h2, h3, zargs, h4]
  have k2 : zheap y (.invokestatic ix) [.int a1, .int a0] h = none := by simp [zheap, h2]
  simp only [zstep, zpure, zloc, zjmp, k2, zretn, k1]
  rfl

theorem zx_callv_li_0 (y pc pc' ix z c : Nat) (hok : (zok y pc (.invokevirtual ix) pc' && pc + 3 == pc' && decide ((zMk.getD (zow y) []).lookup ix = some (0, z)) && zpn z == 2 && decide (4 ≤ zml z) && zow z == c && decide (c < 13)) = true) (d o : Nat) (a0 : Int64) (a1 : Int32)  (ls : zL) (h : zH) : zexec (d + 1) y pc ls [.int a1, .long a0, .ref o] h = if zcls h o = c then (zcall d z [.ref o, .long a0, .int a1] h).bind (fun q => zexec (d + 1) y pc' ls (q.1.toList ++ []) q.2) else none := by
  simp only [Bool.and_eq_true, decide_eq_true_eq, beq_iff_eq] at hok
  obtain ⟨⟨⟨⟨⟨⟨h1, h1'⟩, h2⟩, h3⟩, h4⟩, rfl⟩, h6⟩ := hok
  rw [List.getD_eq_getElem?_getD] at h2
  obtain ⟨len, ha, h5⟩ := zok_out h1
  subst h1'
  refine (zexec_eq ha (d + 1) ls _ h).trans ?_
  have k1 : zcal y (.invokevirtual ix) [.int a1, .long a0, .ref o] h = if zcls h o = zow z then some (z, [.ref o, .long a0, .int a1], []) else none := by
    by_cases hc : zcls h o = zow z
    · simp [zcal, h2, h3, hc, h6, zargs, h4]
    · simp [zcal, h2, h3, hc]
  simp only [zstep, zpure, zloc, zjmp, zheap, zretn, k1]
  by_cases hc : zcls h o = zow z
  · rw [if_pos hc, if_pos hc]
    rfl
  · rw [if_neg hc, if_neg hc]
    rfl

theorem zx_callv_ii_1 (y pc pc' ix z c : Nat) (hok : (zok y pc (.invokevirtual ix) pc' && pc + 3 == pc' && decide ((zMk.getD (zow y) []).lookup ix = some (0, z)) && zpn z == 2 && decide (3 ≤ zml z) && zow z == c && decide (c < 13)) = true) (d o : Nat) (a0 : Int32) (a1 : Int32) (r0 : Value) (ls : zL) (h : zH) : zexec (d + 1) y pc ls [.int a1, .int a0, .ref o, r0] h = if zcls h o = c then (zcall d z [.ref o, .int a0, .int a1] h).bind (fun q => zexec (d + 1) y pc' ls (q.1.toList ++ [r0]) q.2) else none := by
  simp only [Bool.and_eq_true, decide_eq_true_eq, beq_iff_eq] at hok
  obtain ⟨⟨⟨⟨⟨⟨h1, h1'⟩, h2⟩, h3⟩, h4⟩, rfl⟩, h6⟩ := hok
  rw [List.getD_eq_getElem?_getD] at h2
  obtain ⟨len, ha, h5⟩ := zok_out h1
  subst h1'
  refine (zexec_eq ha (d + 1) ls _ h).trans ?_
  have k1 : zcal y (.invokevirtual ix) [.int a1, .int a0, .ref o, r0] h = if zcls h o = zow z then some (z, [.ref o, .int a0, .int a1], [r0]) else none := by
    by_cases hc : zcls h o = zow z
    · simp [zcal, h2, h3, hc, h6, zargs, h4]
    · simp [zcal, h2, h3, hc]
  simp only [zstep, zpure, zloc, zjmp, zheap, zretn, k1]
  by_cases hc : zcls h o = zow z
  · rw [if_pos hc, if_pos hc]
    rfl
  · rw [if_neg hc, if_neg hc]
    rfl

theorem zx_callv_l_0 (y pc pc' ix z c : Nat) (hok : (zok y pc (.invokevirtual ix) pc' && pc + 3 == pc' && decide ((zMk.getD (zow y) []).lookup ix = some (0, z)) && zpn z == 1 && decide (3 ≤ zml z) && zow z == c && decide (c < 13)) = true) (d o : Nat) (a0 : Int64)  (ls : zL) (h : zH) : zexec (d + 1) y pc ls [.long a0, .ref o] h = if zcls h o = c then (zcall d z [.ref o, .long a0] h).bind (fun q => zexec (d + 1) y pc' ls (q.1.toList ++ []) q.2) else none := by
  simp only [Bool.and_eq_true, decide_eq_true_eq, beq_iff_eq] at hok
  obtain ⟨⟨⟨⟨⟨⟨h1, h1'⟩, h2⟩, h3⟩, h4⟩, rfl⟩, h6⟩ := hok
  rw [List.getD_eq_getElem?_getD] at h2
  obtain ⟨len, ha, h5⟩ := zok_out h1
  subst h1'
  refine (zexec_eq ha (d + 1) ls _ h).trans ?_
  have k1 : zcal y (.invokevirtual ix) [.long a0, .ref o] h = if zcls h o = zow z then some (z, [.ref o, .long a0], []) else none := by
    by_cases hc : zcls h o = zow z
    · simp [zcal, h2, h3, hc, h6, zargs, h4]
    · simp [zcal, h2, h3, hc]
  simp only [zstep, zpure, zloc, zjmp, zheap, zretn, k1]
  by_cases hc : zcls h o = zow z
  · rw [if_pos hc, if_pos hc]
    rfl
  · rw [if_neg hc, if_neg hc]
    rfl

theorem zx_callv_ii_2 (y pc pc' ix z c : Nat) (hok : (zok y pc (.invokevirtual ix) pc' && pc + 3 == pc' && decide ((zMk.getD (zow y) []).lookup ix = some (0, z)) && zpn z == 2 && decide (3 ≤ zml z) && zow z == c && decide (c < 13)) = true) (d o : Nat) (a0 : Int32) (a1 : Int32) (r0 : Value) (r1 : Value) (ls : zL) (h : zH) : zexec (d + 1) y pc ls [.int a1, .int a0, .ref o, r0, r1] h = if zcls h o = c then (zcall d z [.ref o, .int a0, .int a1] h).bind (fun q => zexec (d + 1) y pc' ls (q.1.toList ++ [r0, r1]) q.2) else none := by
  simp only [Bool.and_eq_true, decide_eq_true_eq, beq_iff_eq] at hok
  obtain ⟨⟨⟨⟨⟨⟨h1, h1'⟩, h2⟩, h3⟩, h4⟩, rfl⟩, h6⟩ := hok
  rw [List.getD_eq_getElem?_getD] at h2
  obtain ⟨len, ha, h5⟩ := zok_out h1
  subst h1'
  refine (zexec_eq ha (d + 1) ls _ h).trans ?_
  have k1 : zcal y (.invokevirtual ix) [.int a1, .int a0, .ref o, r0, r1] h = if zcls h o = zow z then some (z, [.ref o, .int a0, .int a1], [r0, r1]) else none := by
    by_cases hc : zcls h o = zow z
    · simp [zcal, h2, h3, hc, h6, zargs, h4]
    · simp [zcal, h2, h3, hc]
  simp only [zstep, zpure, zloc, zjmp, zheap, zretn, k1]
  by_cases hc : zcls h o = zow z
  · rw [if_pos hc, if_pos hc]
    rfl
  · rw [if_neg hc, if_neg hc]
    rfl

theorem zx_lstore_n_1 (y pc pc' : Nat) (hok : zok y pc (.lstore_n 1) pc' = true) (d : Nat) (x : Int64) (l0 l1 l2 : Option Value) (ls : zL) (st : List Value) (h : zH) : zexec d y pc (l0 :: l1 :: l2 :: ls) (.long x :: st) h = zexec d y pc' (zclr l0 :: some (.long x) :: none :: ls) st h := by
  obtain ⟨len, ha, rfl⟩ := zok_out hok
  have e1 : zloc (.lstore_n 1) (l0 :: l1 :: l2 :: ls) (.long x :: st) = some (zclr l0 :: some (.long x) :: none :: ls, st) := by
    have e0 : zlst (l0 :: l1 :: l2 :: ls) 1 (.long x :: st) = some (zclr l0 :: some (.long x) :: none :: ls, st) := by simp [zlst, zset2]
    exact e0
  refine (zexec_eq ha d _ _ h).trans ?_
  simp only [zstep, zpure, e1, zgo]

theorem zx_mnew (y pc pc' : Nat) (hok : (zok y pc (.multianewarray 18 2) pc' && decide (zow y = 9)) = true) (d : Nat) (n k : Int32) (ls : zL) (st : List Value) (h : zH) : zexec d y pc ls (.int k :: .int n :: st) h = if zsz n = true ∧ zsz k = true then zexec d y pc' ls (.ref h.1 :: st) (znewg h n.toNatClampNeg k.toNatClampNeg) else none := by
  simp only [Bool.and_eq_true, decide_eq_true_eq] at hok
  obtain ⟨h1, h2⟩ := hok
  try rw [List.getD_eq_getElem?_getD] at h2
  obtain ⟨len, ha, rfl⟩ := zok_out h1
  refine (zexec_eq ha d ls _ h).trans ?_
  by_cases hz : zsz n = true ∧ zsz k = true
  · simp [zstep, zpure, zloc, zjmp, zheap, zgo, h2, hz]
  · rw [if_neg hz]
    have hz' : ¬ (zsz n = true ∧ zsz k = true ∧ zow y = 9 ∧ True) := fun q => hz ⟨q.1, q.2.1⟩
    simp only [zstep, zpure, zloc, zjmp, zheap, zretn, zcal]
    rw [if_neg hz']
    rfl

theorem zx_aaload (y pc pc' : Nat) (hok : zok y pc .aaload pc' = true) (d : Nat) (i : Int32) (a : Nat) (ls : zL) (st : List Value) (h : zH) : zexec d y pc ls (.int i :: .ref a :: st) h = if i < 0 then none else (zag h a i.toNatClampNeg).bind (fun v => zexec d y pc' ls (.ref v :: st) h) := by
  obtain ⟨len, ha, rfl⟩ := zok_out hok
  refine (zexec_eq ha d ls _ h).trans ?_
  by_cases h0 : i < 0
  · simp [zstep, zpure, zloc, zjmp, zheap, zretn, zcal, zgo, h0]
  · cases hg : zag h a i.toNatClampNeg <;> simp [zstep, zpure, zloc, zjmp, zheap, zretn, zcal, zgo, hg, h0]

theorem zx_calls_rl_0 (y pc pc' ix z : Nat) (hok : (zok y pc (.invokestatic ix) pc' && pc + 3 == pc' && decide ((zMk.getD (zow y) []).lookup ix = some (1, z)) && zpn z == 2 && decide (3 ≤ zml z)) = true) (d : Nat) (a0 : Nat) (a1 : Int64)  (ls : zL) (h : zH) : zexec (d + 1) y pc ls [.long a1, .ref a0] h = (zcall d z [.ref a0, .long a1] h).bind (fun q => zexec (d + 1) y pc' ls (q.1.toList ++ []) q.2) := by
  simp only [Bool.and_eq_true, decide_eq_true_eq, beq_iff_eq] at hok
  obtain ⟨⟨⟨⟨h1, h1'⟩, h2⟩, h3⟩, h4⟩ := hok
  rw [List.getD_eq_getElem?_getD] at h2
  obtain ⟨len, ha, h5⟩ := zok_out h1
  subst h1'
  refine (zexec_eq ha (d + 1) ls _ h).trans ?_
  have k1 : zcal y (.invokestatic ix) [.long a1, .ref a0] h = some (z, [.ref a0, .long a1], []) := by simp [zcal, h2, h3, zargs, h4]
  have k2 : zheap y (.invokestatic ix) [.long a1, .ref a0] h = none := by simp [zheap, h2]
  simp only [zstep, zpure, zloc, zjmp, k2, zretn, k1]
  rfl

theorem zx_lload_n_3 (y pc pc' : Nat) (hok : zok y pc (.lload_n 3) pc' = true) (d : Nat) (x : Int64) (l0 l1 l2 : Option Value) (ls : zL) (st : List Value) (h : zH) : zexec d y pc (l0 :: l1 :: l2 :: some (.long x) :: ls) st h = zexec d y pc' (l0 :: l1 :: l2 :: some (.long x) :: ls) (.long x :: st) h := by
  obtain ⟨len, ha, rfl⟩ := zok_out hok
  exact (zexec_eq ha d _ _ h).trans rfl

theorem zx_calls_il_2 (y pc pc' ix z : Nat) (hok : (zok y pc (.invokestatic ix) pc' && pc + 3 == pc' && decide ((zMk.getD (zow y) []).lookup ix = some (1, z)) && zpn z == 2 && decide (3 ≤ zml z)) = true) (d : Nat) (a0 : Int32) (a1 : Int64) (r0 : Value) (r1 : Value) (ls : zL) (h : zH) : zexec (d + 1) y pc ls [.long a1, .int a0, r0, r1] h = (zcall d z [.int a0, .long a1] h).bind (fun q => zexec (d + 1) y pc' ls (q.1.toList ++ [r0, r1]) q.2) := by
  simp only [Bool.and_eq_true, decide_eq_true_eq, beq_iff_eq] at hok
  obtain ⟨⟨⟨⟨h1, h1'⟩, h2⟩, h3⟩, h4⟩ := hok
  rw [List.getD_eq_getElem?_getD] at h2
  obtain ⟨len, ha, h5⟩ := zok_out h1
  subst h1'
  refine (zexec_eq ha (d + 1) ls _ h).trans ?_
  have k1 : zcal y (.invokestatic ix) [.long a1, .int a0, r0, r1] h = some (z, [.int a0, .long a1], [r0, r1]) := by simp [zcal, h2, h3, zargs, h4]
  have k2 : zheap y (.invokestatic ix) [.long a1, .int a0, r0, r1] h = none := by simp [zheap, h2]
  simp only [zstep, zpure, zloc, zjmp, k2, zretn, k1]
  rfl

theorem zx_lret (y pc pc' : Nat) (hok : (zok y pc .lreturn pc' && decide (zrt y = some .long)) = true) (d : Nat) (v : Int64) (ls : zL) (h : zH) : zexec d y pc ls [.long v] h = some (some (.long v), h) := by
  simp only [Bool.and_eq_true, decide_eq_true_eq] at hok
  obtain ⟨h1, h2⟩ := hok
  try rw [List.getD_eq_getElem?_getD] at h2
  obtain ⟨len, ha, rfl⟩ := zok_out h1
  refine (zexec_eq ha d ls _ h).trans ?_
  simp [zstep, zpure, zloc, zjmp, zheap, zretn, zgo, h2]

theorem zx_l2i (y pc pc' : Nat) (hok : zok y pc .l2i pc' = true) (d : Nat) (a : Int64) (ls : zL) (st : List Value) (h : zH) : zexec d y pc ls (.long a :: st) h = zexec d y pc' ls (.int (a.toInt32) :: st) h := by
  obtain ⟨len, ha, rfl⟩ := zok_out hok
  exact (zexec_eq ha d ls _ h).trans rfl

theorem zx_i2b (y pc pc' : Nat) (hok : zok y pc .i2b pc' = true) (d : Nat) (a : Int32) (ls : zL) (st : List Value) (h : zH) : zexec d y pc ls (.int a :: st) h = zexec d y pc' ls (.int (a.toInt8.toInt32) :: st) h := by
  obtain ⟨len, ha, rfl⟩ := zok_out hok
  exact (zexec_eq ha d ls _ h).trans rfl

theorem zx_i2s (y pc pc' : Nat) (hok : zok y pc .i2s pc' = true) (d : Nat) (a : Int32) (ls : zL) (st : List Value) (h : zH) : zexec d y pc ls (.int a :: st) h = zexec d y pc' ls (.int (a.toInt16.toInt32) :: st) h := by
  obtain ⟨len, ha, rfl⟩ := zok_out hok
  exact (zexec_eq ha d ls _ h).trans rfl

theorem zx_bastore (y pc pc' : Nat) (hok : zok y pc .bastore pc' = true) (d : Nat) (x : Int32) (i : Int32) (a : Nat) (ls : zL) (st : List Value) (h : zH) : zexec d y pc ls (.int x :: .int i :: .ref a :: st) h = if i < 0 then none else if (zbg h a i.toNatClampNeg).isSome = true then zexec d y pc' ls st (zqb h a i.toNatClampNeg x.toInt8.toInt32) else none := by
  obtain ⟨len, ha, rfl⟩ := zok_out hok
  refine (zexec_eq ha d ls _ h).trans ?_
  by_cases h0 : i < 0
  · simp [zstep, zpure, zloc, zjmp, zheap, zretn, zcal, zgo, h0]
  · by_cases hg : (zbg h a i.toNatClampNeg).isSome = true
    · simp [zstep, zpure, zloc, zjmp, zheap, zretn, zcal, zgo, hg, h0, zqb_eq _ hg]
    · simp [zstep, zpure, zloc, zjmp, zheap, zretn, zcal, zgo, hg, h0]

theorem zx_zret_byte (y pc pc' : Nat) (hok : (zok y pc .ireturn pc' && decide (zrt y = some .byte)) = true) (d : Nat) (v : Int32) (ls : zL) (h : zH) : zexec d y pc ls [.int v] h = if zfit .byte (.int v) = true then some (some (.int v), h) else none := by
  simp only [Bool.and_eq_true, decide_eq_true_eq] at hok
  obtain ⟨h1, h2⟩ := hok
  try rw [List.getD_eq_getElem?_getD] at h2
  obtain ⟨len, ha, rfl⟩ := zok_out h1
  refine (zexec_eq ha d ls _ h).trans ?_
  by_cases hf : zfit .byte (.int v) = true <;> simp [zstep, zpure, zloc, zjmp, zheap, zretn, zcal, zgo, h2, hf]

theorem zx_lconst_1 (y pc pc' : Nat) (hok : zok y pc (.lconst 1) pc' = true) (d : Nat) (ls : zL) (st : List Value) (h : zH) : zexec d y pc ls st h = zexec d y pc' ls (.long 1 :: st) h := by
  obtain ⟨len, ha, rfl⟩ := zok_out hok
  exact (zexec_eq ha d ls _ h).trans rfl

def zokw (y pc : Nat) (ix ci pc' : Nat) : Bool := zok y pc (.anewarray ix) pc' && decide ((zCk.getD (zow y) []).lookup ix = some ci) && decide (ci = 6 ∨ ci = 7)
theorem zx_anew (y pc pc' ix ci : Nat) (hok : zokw y pc ix ci pc' = true) (d : Nat) (n : Int32) (ls : zL) (st : List Value) (h : zH) : zexec d y pc ls (.int n :: st) h = if zsz n = true then zexec d y pc' ls (.ref h.1 :: st) (znewa h ci n.toNatClampNeg) else none := by
  simp only [zokw, Bool.and_eq_true, decide_eq_true_eq] at hok
  obtain ⟨⟨h1, h2⟩, h3⟩ := hok
  rw [List.getD_eq_getElem?_getD] at h2
  obtain ⟨len, ha, rfl⟩ := zok_out h1
  refine (zexec_eq ha d ls _ h).trans ?_
  by_cases hz : zsz n = true <;> simp [zstep, zpure, zloc, zjmp, zheap, zretn, zcal, zgo, h2, h3, hz]

theorem zx_calli_x_3 (y pc pc' ix z : Nat) (hok : (zok y pc (.invokespecial ix) pc' && pc + 3 == pc' && decide ((zMk.getD (zow y) []).lookup ix = some (2, z)) && zpn z == 0 && decide (1 ≤ zml z)) = true) (d o : Nat)  (r0 : Value) (r1 : Value) (r2 : Value) (ls : zL) (h : zH) : zexec (d + 1) y pc ls [.ref o, r0, r1, r2] h = (zcall d z [.ref o] h).bind (fun q => zexec (d + 1) y pc' ls (q.1.toList ++ [r0, r1, r2]) q.2) := by
  simp only [Bool.and_eq_true, decide_eq_true_eq, beq_iff_eq] at hok
  obtain ⟨⟨⟨⟨h1, h1'⟩, h2⟩, h3⟩, h4⟩ := hok
  rw [List.getD_eq_getElem?_getD] at h2
  obtain ⟨len, ha, h5⟩ := zok_out h1
  subst h1'
  refine (zexec_eq ha (d + 1) ls _ h).trans ?_
  have k1 : zcal y (.invokespecial ix) [.ref o, r0, r1, r2] h = some (z, [.ref o], [r0, r1, r2]) := by simp [zcal, h2, h3, zargs, h4]
  have k2 : zheap y (.invokespecial ix) [.ref o, r0, r1, r2] h = none := by simp [zheap, h2]
  simp only [zstep, zpure, zloc, zjmp, k2, zretn, k1]
  rfl

def zokA (h : zH) (a k x : Nat) : Bool := match h.2.2 a with
  | .inl (.object C, n, .inr (.inr (.inr (.inr _)))) => decide (k < n ∧ zcls h x < 13 ∧ zcN (zcls h x) = C ∧ FieldType.object C ∈ zTs)
  | _ => false
theorem zx_aastore (y pc pc' : Nat) (hok : zok y pc .aastore pc' = true) (d : Nat) (i : Int32) (a x : Nat) (ls : zL) (st : List Value) (h : zH) : zexec d y pc ls (.ref x :: .int i :: .ref a :: st) h = if i < 0 then none else if zokA h a i.toNatClampNeg x = true then zexec d y pc' ls st (zpa h a i.toNatClampNeg x) else none := by
  obtain ⟨len, ha, rfl⟩ := zok_out hok
  refine (zexec_eq ha d ls _ h).trans ?_
  by_cases h0 : i < 0
  · simp [zstep, zpure, zloc, zjmp, zheap, zretn, zcal, zgo, h0]
  · have key : zheap y .aastore (.ref x :: .int i :: .ref a :: st) h = if zokA h a i.toNatClampNeg x = true then some (st, zpa h a i.toNatClampNeg x) else none := by
      simp only [zheap, h0, if_false]
      cases hb : zokA h a i.toNatClampNeg x with
      | true =>
        unfold zokA at hb
        split at hb
        · next hc =>
          rw [hc]
          dsimp only
          rw [if_pos (of_decide_eq_true hb)]
          rfl
        · cases hb
      | false =>
        unfold zokA at hb
        split at hb
        · next hc =>
          rw [hc]
          dsimp only
          rw [if_neg (of_decide_eq_false hb)]
          rfl
        · next hc =>
          split
          · next hc2 => exact absurd hc2 (hc _ _ _)
          · rfl
    simp only [zstep, zpure, zloc, zjmp, key, zretn, zcal]
    by_cases hk : zokA h a i.toNatClampNeg x = true
    · simp [hk, zgo, h0]
    · simp [hk, zgo, h0]

theorem zx_if_ge (y pc pc' tg : Nat) (off : Int) (hok : zokj y pc (.ifCond .ge off) off pc' tg = true) (d : Nat) (a : Int32) (ls : zL) (st : List Value) (h : zH) : zexec d y pc ls (.int a :: st) h = if 0 ≤ a then zexec d y tg ls st h else zexec d y pc' ls st h := by
  obtain ⟨ha, rfl, h0, rfl⟩ := zokj_out hok
  refine (zexec_eq ha d _ _ h).trans ?_
  by_cases hc : 0 ≤ a <;> simp [zstep, zpure, zloc, zjmp, zbr, zgo, h0, hc]

theorem zx_callv_iil_0 (y pc pc' ix z c : Nat) (hok : (zok y pc (.invokevirtual ix) pc' && pc + 3 == pc' && decide ((zMk.getD (zow y) []).lookup ix = some (0, z)) && zpn z == 3 && decide (5 ≤ zml z) && zow z == c && decide (c < 13)) = true) (d o : Nat) (a0 : Int32) (a1 : Int32) (a2 : Int64)  (ls : zL) (h : zH) : zexec (d + 1) y pc ls [.long a2, .int a1, .int a0, .ref o] h = if zcls h o = c then (zcall d z [.ref o, .int a0, .int a1, .long a2] h).bind (fun q => zexec (d + 1) y pc' ls (q.1.toList ++ []) q.2) else none := by
  simp only [Bool.and_eq_true, decide_eq_true_eq, beq_iff_eq] at hok
  obtain ⟨⟨⟨⟨⟨⟨h1, h1'⟩, h2⟩, h3⟩, h4⟩, rfl⟩, h6⟩ := hok
  rw [List.getD_eq_getElem?_getD] at h2
  obtain ⟨len, ha, h5⟩ := zok_out h1
  subst h1'
  refine (zexec_eq ha (d + 1) ls _ h).trans ?_
  have k1 : zcal y (.invokevirtual ix) [.long a2, .int a1, .int a0, .ref o] h = if zcls h o = zow z then some (z, [.ref o, .int a0, .int a1, .long a2], []) else none := by
    by_cases hc : zcls h o = zow z
    · simp [zcal, h2, h3, hc, h6, zargs, h4]
    · simp [zcal, h2, h3, hc]
  simp only [zstep, zpure, zloc, zjmp, zheap, zretn, k1]
  by_cases hc : zcls h o = zow z
  · rw [if_pos hc, if_pos hc]
    rfl
  · rw [if_neg hc, if_neg hc]
    rfl

theorem zx_callv_i_1 (y pc pc' ix z c : Nat) (hok : (zok y pc (.invokevirtual ix) pc' && pc + 3 == pc' && decide ((zMk.getD (zow y) []).lookup ix = some (0, z)) && zpn z == 1 && decide (2 ≤ zml z) && zow z == c && decide (c < 13)) = true) (d o : Nat) (a0 : Int32) (r0 : Value) (ls : zL) (h : zH) : zexec (d + 1) y pc ls [.int a0, .ref o, r0] h = if zcls h o = c then (zcall d z [.ref o, .int a0] h).bind (fun q => zexec (d + 1) y pc' ls (q.1.toList ++ [r0]) q.2) else none := by
  simp only [Bool.and_eq_true, decide_eq_true_eq, beq_iff_eq] at hok
  obtain ⟨⟨⟨⟨⟨⟨h1, h1'⟩, h2⟩, h3⟩, h4⟩, rfl⟩, h6⟩ := hok
  rw [List.getD_eq_getElem?_getD] at h2
  obtain ⟨len, ha, h5⟩ := zok_out h1
  subst h1'
  refine (zexec_eq ha (d + 1) ls _ h).trans ?_
  have k1 : zcal y (.invokevirtual ix) [.int a0, .ref o, r0] h = if zcls h o = zow z then some (z, [.ref o, .int a0], [r0]) else none := by
    by_cases hc : zcls h o = zow z
    · simp [zcal, h2, h3, hc, h6, zargs, h4]
    · simp [zcal, h2, h3, hc]
  simp only [zstep, zpure, zloc, zjmp, zheap, zretn, k1]
  by_cases hc : zcls h o = zow z
  · rw [if_pos hc, if_pos hc]
    rfl
  · rw [if_neg hc, if_neg hc]
    rfl

theorem zx_callv_iiiii_0 (y pc pc' ix z c : Nat) (hok : (zok y pc (.invokevirtual ix) pc' && pc + 3 == pc' && decide ((zMk.getD (zow y) []).lookup ix = some (0, z)) && zpn z == 5 && decide (6 ≤ zml z) && zow z == c && decide (c < 13)) = true) (d o : Nat) (a0 : Int32) (a1 : Int32) (a2 : Int32) (a3 : Int32) (a4 : Int32)  (ls : zL) (h : zH) : zexec (d + 1) y pc ls [.int a4, .int a3, .int a2, .int a1, .int a0, .ref o] h = if zcls h o = c then (zcall d z [.ref o, .int a0, .int a1, .int a2, .int a3, .int a4] h).bind (fun q => zexec (d + 1) y pc' ls (q.1.toList ++ []) q.2) else none := by
  simp only [Bool.and_eq_true, decide_eq_true_eq, beq_iff_eq] at hok
  obtain ⟨⟨⟨⟨⟨⟨h1, h1'⟩, h2⟩, h3⟩, h4⟩, rfl⟩, h6⟩ := hok
  rw [List.getD_eq_getElem?_getD] at h2
  obtain ⟨len, ha, h5⟩ := zok_out h1
  subst h1'
  refine (zexec_eq ha (d + 1) ls _ h).trans ?_
  have k1 : zcal y (.invokevirtual ix) [.int a4, .int a3, .int a2, .int a1, .int a0, .ref o] h = if zcls h o = zow z then some (z, [.ref o, .int a0, .int a1, .int a2, .int a3, .int a4], []) else none := by
    by_cases hc : zcls h o = zow z
    · simp [zcal, h2, h3, hc, h6, zargs, h4]
    · simp [zcal, h2, h3, hc]
  simp only [zstep, zpure, zloc, zjmp, zheap, zretn, k1]
  by_cases hc : zcls h o = zow z
  · rw [if_pos hc, if_pos hc]
    rfl
  · rw [if_neg hc, if_neg hc]
    rfl

theorem zx_calli_rr_1 (y pc pc' ix z : Nat) (hok : (zok y pc (.invokespecial ix) pc' && pc + 3 == pc' && decide ((zMk.getD (zow y) []).lookup ix = some (2, z)) && zpn z == 2 && decide (3 ≤ zml z)) = true) (d o : Nat) (a0 : Nat) (a1 : Nat) (r0 : Value) (ls : zL) (h : zH) : zexec (d + 1) y pc ls [.ref a1, .ref a0, .ref o, r0] h = (zcall d z [.ref o, .ref a0, .ref a1] h).bind (fun q => zexec (d + 1) y pc' ls (q.1.toList ++ [r0]) q.2) := by
  simp only [Bool.and_eq_true, decide_eq_true_eq, beq_iff_eq] at hok
  obtain ⟨⟨⟨⟨h1, h1'⟩, h2⟩, h3⟩, h4⟩ := hok
  rw [List.getD_eq_getElem?_getD] at h2
  obtain ⟨len, ha, h5⟩ := zok_out h1
  subst h1'
  refine (zexec_eq ha (d + 1) ls _ h).trans ?_
  have k1 : zcal y (.invokespecial ix) [.ref a1, .ref a0, .ref o, r0] h = some (z, [.ref o, .ref a0, .ref a1], [r0]) := by simp [zcal, h2, h3, zargs, h4]
  have k2 : zheap y (.invokespecial ix) [.ref a1, .ref a0, .ref o, r0] h = none := by simp [zheap, h2]
  simp only [zstep, zpure, zloc, zjmp, k2, zretn, k1]
  rfl

theorem zx_calli_rrr_1 (y pc pc' ix z : Nat) (hok : (zok y pc (.invokespecial ix) pc' && pc + 3 == pc' && decide ((zMk.getD (zow y) []).lookup ix = some (2, z)) && zpn z == 3 && decide (4 ≤ zml z)) = true) (d o : Nat) (a0 : Nat) (a1 : Nat) (a2 : Nat) (r0 : Value) (ls : zL) (h : zH) : zexec (d + 1) y pc ls [.ref a2, .ref a1, .ref a0, .ref o, r0] h = (zcall d z [.ref o, .ref a0, .ref a1, .ref a2] h).bind (fun q => zexec (d + 1) y pc' ls (q.1.toList ++ [r0]) q.2) := by
  simp only [Bool.and_eq_true, decide_eq_true_eq, beq_iff_eq] at hok
  obtain ⟨⟨⟨⟨h1, h1'⟩, h2⟩, h3⟩, h4⟩ := hok
  rw [List.getD_eq_getElem?_getD] at h2
  obtain ⟨len, ha, h5⟩ := zok_out h1
  subst h1'
  refine (zexec_eq ha (d + 1) ls _ h).trans ?_
  have k1 : zcal y (.invokespecial ix) [.ref a2, .ref a1, .ref a0, .ref o, r0] h = some (z, [.ref o, .ref a0, .ref a1, .ref a2], [r0]) := by simp [zcal, h2, h3, zargs, h4]
  have k2 : zheap y (.invokespecial ix) [.ref a2, .ref a1, .ref a0, .ref o, r0] h = none := by simp [zheap, h2]
  simp only [zstep, zpure, zloc, zjmp, k2, zretn, k1]
  rfl

theorem zx_lstore_5 (y pc pc' : Nat) (hok : zok y pc (.lstore 5) pc' = true) (d : Nat) (x : Int64) (l0 l1 l2 l3 l4 l5 l6 : Option Value) (ls : zL) (st : List Value) (h : zH) : zexec d y pc (l0 :: l1 :: l2 :: l3 :: l4 :: l5 :: l6 :: ls) (.long x :: st) h = zexec d y pc' (l0 :: l1 :: l2 :: l3 :: zclr l4 :: some (.long x) :: none :: ls) st h := by
  obtain ⟨len, ha, rfl⟩ := zok_out hok
  have e1 : zloc (.lstore 5) (l0 :: l1 :: l2 :: l3 :: l4 :: l5 :: l6 :: ls) (.long x :: st) = some (l0 :: l1 :: l2 :: l3 :: zclr l4 :: some (.long x) :: none :: ls, st) := by
    have e0 : zlst (l0 :: l1 :: l2 :: l3 :: l4 :: l5 :: l6 :: ls) 5 (.long x :: st) = some (l0 :: l1 :: l2 :: l3 :: zclr l4 :: some (.long x) :: none :: ls, st) := by simp [zlst, zset2]
    exact e0
  refine (zexec_eq ha d _ _ h).trans ?_
  simp only [zstep, zpure, e1, zgo]

theorem zx_lload_5 (y pc pc' : Nat) (hok : zok y pc (.lload 5) pc' = true) (d : Nat) (x : Int64) (l0 l1 l2 l3 l4 : Option Value) (ls : zL) (st : List Value) (h : zH) : zexec d y pc (l0 :: l1 :: l2 :: l3 :: l4 :: some (.long x) :: ls) st h = zexec d y pc' (l0 :: l1 :: l2 :: l3 :: l4 :: some (.long x) :: ls) (.long x :: st) h := by
  obtain ⟨len, ha, rfl⟩ := zok_out hok
  exact (zexec_eq ha d _ _ h).trans rfl

theorem zx_iinc_7 (y pc pc' : Nat) (n : Int) (v : Int32) (hok : zok y pc (.iinc 7 n) pc' = true) (hv : Int32.ofInt n = v) (d : Nat) (x : Int32) (l0 l1 l2 l3 l4 l5 l6 : Option Value) (ls : zL) (st : List Value) (h : zH) : zexec d y pc (l0 :: l1 :: l2 :: l3 :: l4 :: l5 :: l6 :: some (.int x) :: ls) st h = zexec d y pc' (l0 :: l1 :: l2 :: l3 :: l4 :: l5 :: zclr l6 :: some (.int (x + v)) :: ls) st h := by
  subst hv
  obtain ⟨len, ha, rfl⟩ := zok_out hok
  refine (zexec_eq ha d _ _ h).trans ?_
  simp [zstep, zpure, zloc, zivar, zset1, zgo]

theorem zx_callv_ll_0 (y pc pc' ix z c : Nat) (hok : (zok y pc (.invokevirtual ix) pc' && pc + 3 == pc' && decide ((zMk.getD (zow y) []).lookup ix = some (0, z)) && zpn z == 2 && decide (5 ≤ zml z) && zow z == c && decide (c < 13)) = true) (d o : Nat) (a0 : Int64) (a1 : Int64)  (ls : zL) (h : zH) : zexec (d + 1) y pc ls [.long a1, .long a0, .ref o] h = if zcls h o = c then (zcall d z [.ref o, .long a0, .long a1] h).bind (fun q => zexec (d + 1) y pc' ls (q.1.toList ++ []) q.2) else none := by
  simp only [Bool.and_eq_true, decide_eq_true_eq, beq_iff_eq] at hok
  obtain ⟨⟨⟨⟨⟨⟨h1, h1'⟩, h2⟩, h3⟩, h4⟩, rfl⟩, h6⟩ := hok
  rw [List.getD_eq_getElem?_getD] at h2
  obtain ⟨len, ha, h5⟩ := zok_out h1
  subst h1'
  refine (zexec_eq ha (d + 1) ls _ h).trans ?_
  have k1 : zcal y (.invokevirtual ix) [.long a1, .long a0, .ref o] h = if zcls h o = zow z then some (z, [.ref o, .long a0, .long a1], []) else none := by
    by_cases hc : zcls h o = zow z
    · simp [zcal, h2, h3, hc, h6, zargs, h4]
    · simp [zcal, h2, h3, hc]
  simp only [zstep, zpure, zloc, zjmp, zheap, zretn, k1]
  by_cases hc : zcls h o = zow z
  · rw [if_pos hc, if_pos hc]
    rfl
  · rw [if_neg hc, if_neg hc]
    rfl

theorem zx_callv_iii_1 (y pc pc' ix z c : Nat) (hok : (zok y pc (.invokevirtual ix) pc' && pc + 3 == pc' && decide ((zMk.getD (zow y) []).lookup ix = some (0, z)) && zpn z == 3 && decide (4 ≤ zml z) && zow z == c && decide (c < 13)) = true) (d o : Nat) (a0 : Int32) (a1 : Int32) (a2 : Int32) (r0 : Value) (ls : zL) (h : zH) : zexec (d + 1) y pc ls [.int a2, .int a1, .int a0, .ref o, r0] h = if zcls h o = c then (zcall d z [.ref o, .int a0, .int a1, .int a2] h).bind (fun q => zexec (d + 1) y pc' ls (q.1.toList ++ [r0]) q.2) else none := by
  simp only [Bool.and_eq_true, decide_eq_true_eq, beq_iff_eq] at hok
  obtain ⟨⟨⟨⟨⟨⟨h1, h1'⟩, h2⟩, h3⟩, h4⟩, rfl⟩, h6⟩ := hok
  rw [List.getD_eq_getElem?_getD] at h2
  obtain ⟨len, ha, h5⟩ := zok_out h1
  subst h1'
  refine (zexec_eq ha (d + 1) ls _ h).trans ?_
  have k1 : zcal y (.invokevirtual ix) [.int a2, .int a1, .int a0, .ref o, r0] h = if zcls h o = zow z then some (z, [.ref o, .int a0, .int a1, .int a2], [r0]) else none := by
    by_cases hc : zcls h o = zow z
    · simp [zcal, h2, h3, hc, h6, zargs, h4]
    · simp [zcal, h2, h3, hc]
  simp only [zstep, zpure, zloc, zjmp, zheap, zretn, k1]
  by_cases hc : zcls h o = zow z
  · rw [if_pos hc, if_pos hc]
    rfl
  · rw [if_neg hc, if_neg hc]
    rfl

theorem zx_callv_ri_1 (y pc pc' ix z c : Nat) (hok : (zok y pc (.invokevirtual ix) pc' && pc + 3 == pc' && decide ((zMk.getD (zow y) []).lookup ix = some (0, z)) && zpn z == 2 && decide (3 ≤ zml z) && zow z == c && decide (c < 13)) = true) (d o : Nat) (a0 : Nat) (a1 : Int32) (r0 : Value) (ls : zL) (h : zH) : zexec (d + 1) y pc ls [.int a1, .ref a0, .ref o, r0] h = if zcls h o = c then (zcall d z [.ref o, .ref a0, .int a1] h).bind (fun q => zexec (d + 1) y pc' ls (q.1.toList ++ [r0]) q.2) else none := by
  simp only [Bool.and_eq_true, decide_eq_true_eq, beq_iff_eq] at hok
  obtain ⟨⟨⟨⟨⟨⟨h1, h1'⟩, h2⟩, h3⟩, h4⟩, rfl⟩, h6⟩ := hok
  rw [List.getD_eq_getElem?_getD] at h2
  obtain ⟨len, ha, h5⟩ := zok_out h1
  subst h1'
  refine (zexec_eq ha (d + 1) ls _ h).trans ?_
  have k1 : zcal y (.invokevirtual ix) [.int a1, .ref a0, .ref o, r0] h = if zcls h o = zow z then some (z, [.ref o, .ref a0, .int a1], [r0]) else none := by
    by_cases hc : zcls h o = zow z
    · simp [zcal, h2, h3, hc, h6, zargs, h4]
    · simp [zcal, h2, h3, hc]
  simp only [zstep, zpure, zloc, zjmp, zheap, zretn, k1]
  by_cases hc : zcls h o = zow z
  · rw [if_pos hc, if_pos hc]
    rfl
  · rw [if_neg hc, if_neg hc]
    rfl

theorem zx_calls_rii_1 (y pc pc' ix z : Nat) (hok : (zok y pc (.invokestatic ix) pc' && pc + 3 == pc' && decide ((zMk.getD (zow y) []).lookup ix = some (1, z)) && zpn z == 3 && decide (3 ≤ zml z)) = true) (d : Nat) (a0 : Nat) (a1 : Int32) (a2 : Int32) (r0 : Value) (ls : zL) (h : zH) : zexec (d + 1) y pc ls [.int a2, .int a1, .ref a0, r0] h = (zcall d z [.ref a0, .int a1, .int a2] h).bind (fun q => zexec (d + 1) y pc' ls (q.1.toList ++ [r0]) q.2) := by
  simp only [Bool.and_eq_true, decide_eq_true_eq, beq_iff_eq] at hok
  obtain ⟨⟨⟨⟨h1, h1'⟩, h2⟩, h3⟩, h4⟩ := hok
  rw [List.getD_eq_getElem?_getD] at h2
  obtain ⟨len, ha, h5⟩ := zok_out h1
  subst h1'
  refine (zexec_eq ha (d + 1) ls _ h).trans ?_
  have k1 : zcal y (.invokestatic ix) [.int a2, .int a1, .ref a0, r0] h = some (z, [.ref a0, .int a1, .int a2], [r0]) := by simp [zcal, h2, h3, zargs, h4]
  have k2 : zheap y (.invokestatic ix) [.int a2, .int a1, .ref a0, r0] h = none := by simp [zheap, h2]
  simp only [zstep, zpure, zloc, zjmp, k2, zretn, k1]
  rfl

theorem zx_calls_riii_0 (y pc pc' ix z : Nat) (hok : (zok y pc (.invokestatic ix) pc' && pc + 3 == pc' && decide ((zMk.getD (zow y) []).lookup ix = some (1, z)) && zpn z == 4 && decide (4 ≤ zml z)) = true) (d : Nat) (a0 : Nat) (a1 : Int32) (a2 : Int32) (a3 : Int32)  (ls : zL) (h : zH) : zexec (d + 1) y pc ls [.int a3, .int a2, .int a1, .ref a0] h = (zcall d z [.ref a0, .int a1, .int a2, .int a3] h).bind (fun q => zexec (d + 1) y pc' ls (q.1.toList ++ []) q.2) := by
  simp only [Bool.and_eq_true, decide_eq_true_eq, beq_iff_eq] at hok
  obtain ⟨⟨⟨⟨h1, h1'⟩, h2⟩, h3⟩, h4⟩ := hok
  rw [List.getD_eq_getElem?_getD] at h2
  obtain ⟨len, ha, h5⟩ := zok_out h1
  subst h1'
  refine (zexec_eq ha (d + 1) ls _ h).trans ?_
  have k1 : zcal y (.invokestatic ix) [.int a3, .int a2, .int a1, .ref a0] h = some (z, [.ref a0, .int a1, .int a2, .int a3], []) := by simp [zcal, h2, h3, zargs, h4]
  have k2 : zheap y (.invokestatic ix) [.int a3, .int a2, .int a1, .ref a0] h = none := by simp [zheap, h2]
  simp only [zstep, zpure, zloc, zjmp, k2, zretn, k1]
  rfl

theorem zx_calls_riii_1 (y pc pc' ix z : Nat) (hok : (zok y pc (.invokestatic ix) pc' && pc + 3 == pc' && decide ((zMk.getD (zow y) []).lookup ix = some (1, z)) && zpn z == 4 && decide (4 ≤ zml z)) = true) (d : Nat) (a0 : Nat) (a1 : Int32) (a2 : Int32) (a3 : Int32) (r0 : Value) (ls : zL) (h : zH) : zexec (d + 1) y pc ls [.int a3, .int a2, .int a1, .ref a0, r0] h = (zcall d z [.ref a0, .int a1, .int a2, .int a3] h).bind (fun q => zexec (d + 1) y pc' ls (q.1.toList ++ [r0]) q.2) := by
  simp only [Bool.and_eq_true, decide_eq_true_eq, beq_iff_eq] at hok
  obtain ⟨⟨⟨⟨h1, h1'⟩, h2⟩, h3⟩, h4⟩ := hok
  rw [List.getD_eq_getElem?_getD] at h2
  obtain ⟨len, ha, h5⟩ := zok_out h1
  subst h1'
  refine (zexec_eq ha (d + 1) ls _ h).trans ?_
  have k1 : zcal y (.invokestatic ix) [.int a3, .int a2, .int a1, .ref a0, r0] h = some (z, [.ref a0, .int a1, .int a2, .int a3], [r0]) := by simp [zcal, h2, h3, zargs, h4]
  have k2 : zheap y (.invokestatic ix) [.int a3, .int a2, .int a1, .ref a0, r0] h = none := by simp [zheap, h2]
  simp only [zstep, zpure, zloc, zjmp, k2, zretn, k1]
  rfl

theorem zx_lstore_7 (y pc pc' : Nat) (hok : zok y pc (.lstore 7) pc' = true) (d : Nat) (x : Int64) (l0 l1 l2 l3 l4 l5 l6 l7 l8 : Option Value) (ls : zL) (st : List Value) (h : zH) : zexec d y pc (l0 :: l1 :: l2 :: l3 :: l4 :: l5 :: l6 :: l7 :: l8 :: ls) (.long x :: st) h = zexec d y pc' (l0 :: l1 :: l2 :: l3 :: l4 :: l5 :: zclr l6 :: some (.long x) :: none :: ls) st h := by
  obtain ⟨len, ha, rfl⟩ := zok_out hok
  have e1 : zloc (.lstore 7) (l0 :: l1 :: l2 :: l3 :: l4 :: l5 :: l6 :: l7 :: l8 :: ls) (.long x :: st) = some (l0 :: l1 :: l2 :: l3 :: l4 :: l5 :: zclr l6 :: some (.long x) :: none :: ls, st) := by
    have e0 : zlst (l0 :: l1 :: l2 :: l3 :: l4 :: l5 :: l6 :: l7 :: l8 :: ls) 7 (.long x :: st) = some (l0 :: l1 :: l2 :: l3 :: l4 :: l5 :: zclr l6 :: some (.long x) :: none :: ls, st) := by simp [zlst, zset2]
    exact e0
  refine (zexec_eq ha d _ _ h).trans ?_
  simp only [zstep, zpure, e1, zgo]

theorem zx_istore_9 (y pc pc' : Nat) (hok : zok y pc (.istore 9) pc' = true) (d : Nat) (x : Int32) (l0 l1 l2 l3 l4 l5 l6 l7 l8 l9 : Option Value) (ls : zL) (st : List Value) (h : zH) : zexec d y pc (l0 :: l1 :: l2 :: l3 :: l4 :: l5 :: l6 :: l7 :: l8 :: l9 :: ls) (.int x :: st) h = zexec d y pc' (l0 :: l1 :: l2 :: l3 :: l4 :: l5 :: l6 :: l7 :: zclr l8 :: some (.int x) :: ls) st h := by
  obtain ⟨len, ha, rfl⟩ := zok_out hok
  have e1 : zloc (.istore 9) (l0 :: l1 :: l2 :: l3 :: l4 :: l5 :: l6 :: l7 :: l8 :: l9 :: ls) (.int x :: st) = some (l0 :: l1 :: l2 :: l3 :: l4 :: l5 :: l6 :: l7 :: zclr l8 :: some (.int x) :: ls, st) := by
    have e0 : zist (l0 :: l1 :: l2 :: l3 :: l4 :: l5 :: l6 :: l7 :: l8 :: l9 :: ls) 9 (.int x :: st) = some (l0 :: l1 :: l2 :: l3 :: l4 :: l5 :: l6 :: l7 :: zclr l8 :: some (.int x) :: ls, st) := by simp [zist, zset1]
    exact e0
  refine (zexec_eq ha d _ _ h).trans ?_
  simp only [zstep, zpure, e1, zgo]

theorem zx_iload_9 (y pc pc' : Nat) (hok : zok y pc (.iload 9) pc' = true) (d : Nat) (x : Int32) (l0 l1 l2 l3 l4 l5 l6 l7 l8 : Option Value) (ls : zL) (st : List Value) (h : zH) : zexec d y pc (l0 :: l1 :: l2 :: l3 :: l4 :: l5 :: l6 :: l7 :: l8 :: some (.int x) :: ls) st h = zexec d y pc' (l0 :: l1 :: l2 :: l3 :: l4 :: l5 :: l6 :: l7 :: l8 :: some (.int x) :: ls) (.int x :: st) h := by
  obtain ⟨len, ha, rfl⟩ := zok_out hok
  exact (zexec_eq ha d _ _ h).trans rfl

theorem zx_lload_7 (y pc pc' : Nat) (hok : zok y pc (.lload 7) pc' = true) (d : Nat) (x : Int64) (l0 l1 l2 l3 l4 l5 l6 : Option Value) (ls : zL) (st : List Value) (h : zH) : zexec d y pc (l0 :: l1 :: l2 :: l3 :: l4 :: l5 :: l6 :: some (.long x) :: ls) st h = zexec d y pc' (l0 :: l1 :: l2 :: l3 :: l4 :: l5 :: l6 :: some (.long x) :: ls) (.long x :: st) h := by
  obtain ⟨len, ha, rfl⟩ := zok_out hok
  exact (zexec_eq ha d _ _ h).trans rfl

theorem zx_lrem (y pc pc' : Nat) (hok : zok y pc .lrem pc' = true) (d : Nat) (a b : Int64) (ls : zL) (st : List Value) (h : zH) : zexec d y pc ls (.long b :: .long a :: st) h = if b = 0 then none else zexec d y pc' ls (.long (a - a / b * b) :: st) h := by
  obtain ⟨len, ha, rfl⟩ := zok_out hok
  refine (zexec_eq ha d ls _ h).trans ?_
  by_cases hb : b = 0
  · simp [zstep, zpure, zloc, zjmp, zheap, zretn, zcal, zgo, hb]
  · simp [zstep, zpure, zgo, hb]

theorem zx_lstore_10 (y pc pc' : Nat) (hok : zok y pc (.lstore 10) pc' = true) (d : Nat) (x : Int64) (l0 l1 l2 l3 l4 l5 l6 l7 l8 l9 l10 l11 : Option Value) (ls : zL) (st : List Value) (h : zH) : zexec d y pc (l0 :: l1 :: l2 :: l3 :: l4 :: l5 :: l6 :: l7 :: l8 :: l9 :: l10 :: l11 :: ls) (.long x :: st) h = zexec d y pc' (l0 :: l1 :: l2 :: l3 :: l4 :: l5 :: l6 :: l7 :: l8 :: zclr l9 :: some (.long x) :: none :: ls) st h := by
  obtain ⟨len, ha, rfl⟩ := zok_out hok
  have e1 : zloc (.lstore 10) (l0 :: l1 :: l2 :: l3 :: l4 :: l5 :: l6 :: l7 :: l8 :: l9 :: l10 :: l11 :: ls) (.long x :: st) = some (l0 :: l1 :: l2 :: l3 :: l4 :: l5 :: l6 :: l7 :: l8 :: zclr l9 :: some (.long x) :: none :: ls, st) := by
    have e0 : zlst (l0 :: l1 :: l2 :: l3 :: l4 :: l5 :: l6 :: l7 :: l8 :: l9 :: l10 :: l11 :: ls) 10 (.long x :: st) = some (l0 :: l1 :: l2 :: l3 :: l4 :: l5 :: l6 :: l7 :: l8 :: zclr l9 :: some (.long x) :: none :: ls, st) := by simp [zlst, zset2]
    exact e0
  refine (zexec_eq ha d _ _ h).trans ?_
  simp only [zstep, zpure, e1, zgo]

theorem zx_lload_10 (y pc pc' : Nat) (hok : zok y pc (.lload 10) pc' = true) (d : Nat) (x : Int64) (l0 l1 l2 l3 l4 l5 l6 l7 l8 l9 : Option Value) (ls : zL) (st : List Value) (h : zH) : zexec d y pc (l0 :: l1 :: l2 :: l3 :: l4 :: l5 :: l6 :: l7 :: l8 :: l9 :: some (.long x) :: ls) st h = zexec d y pc' (l0 :: l1 :: l2 :: l3 :: l4 :: l5 :: l6 :: l7 :: l8 :: l9 :: some (.long x) :: ls) (.long x :: st) h := by
  obtain ⟨len, ha, rfl⟩ := zok_out hok
  exact (zexec_eq ha d _ _ h).trans rfl

theorem zx_iinc_9 (y pc pc' : Nat) (n : Int) (v : Int32) (hok : zok y pc (.iinc 9 n) pc' = true) (hv : Int32.ofInt n = v) (d : Nat) (x : Int32) (l0 l1 l2 l3 l4 l5 l6 l7 l8 : Option Value) (ls : zL) (st : List Value) (h : zH) : zexec d y pc (l0 :: l1 :: l2 :: l3 :: l4 :: l5 :: l6 :: l7 :: l8 :: some (.int x) :: ls) st h = zexec d y pc' (l0 :: l1 :: l2 :: l3 :: l4 :: l5 :: l6 :: l7 :: zclr l8 :: some (.int (x + v)) :: ls) st h := by
  subst hv
  obtain ⟨len, ha, rfl⟩ := zok_out hok
  refine (zexec_eq ha d _ _ h).trans ?_
  simp [zstep, zpure, zloc, zivar, zset1, zgo]

theorem zx_ldiv (y pc pc' : Nat) (hok : zok y pc .ldiv pc' = true) (d : Nat) (a b : Int64) (ls : zL) (st : List Value) (h : zH) : zexec d y pc ls (.long b :: .long a :: st) h = if b = 0 then none else zexec d y pc' ls (.long (a / b) :: st) h := by
  obtain ⟨len, ha, rfl⟩ := zok_out hok
  refine (zexec_eq ha d ls _ h).trans ?_
  by_cases hb : b = 0
  · simp [zstep, zpure, zloc, zjmp, zheap, zretn, zcal, zgo, hb]
  · simp [zstep, zpure, zgo, hb]

theorem zx_lload_n_0 (y pc pc' : Nat) (hok : zok y pc (.lload_n 0) pc' = true) (d : Nat) (x : Int64) (ls : zL) (st : List Value) (h : zH) : zexec d y pc (some (.long x) :: ls) st h = zexec d y pc' (some (.long x) :: ls) (.long x :: st) h := by
  obtain ⟨len, ha, rfl⟩ := zok_out hok
  exact (zexec_eq ha d _ _ h).trans rfl

theorem zx_lload_4 (y pc pc' : Nat) (hok : zok y pc (.lload 4) pc' = true) (d : Nat) (x : Int64) (l0 l1 l2 l3 : Option Value) (ls : zL) (st : List Value) (h : zH) : zexec d y pc (l0 :: l1 :: l2 :: l3 :: some (.long x) :: ls) st h = zexec d y pc' (l0 :: l1 :: l2 :: l3 :: some (.long x) :: ls) (.long x :: st) h := by
  obtain ⟨len, ha, rfl⟩ := zok_out hok
  exact (zexec_eq ha d _ _ h).trans rfl

theorem zx_calls_l_0 (y pc pc' ix z : Nat) (hok : (zok y pc (.invokestatic ix) pc' && pc + 3 == pc' && decide ((zMk.getD (zow y) []).lookup ix = some (1, z)) && zpn z == 1 && decide (2 ≤ zml z)) = true) (d : Nat) (a0 : Int64)  (ls : zL) (h : zH) : zexec (d + 1) y pc ls [.long a0] h = (zcall d z [.long a0] h).bind (fun q => zexec (d + 1) y pc' ls (q.1.toList ++ []) q.2) := by
  simp only [Bool.and_eq_true, decide_eq_true_eq, beq_iff_eq] at hok
  obtain ⟨⟨⟨⟨h1, h1'⟩, h2⟩, h3⟩, h4⟩ := hok
  rw [List.getD_eq_getElem?_getD] at h2
  obtain ⟨len, ha, h5⟩ := zok_out h1
  subst h1'
  refine (zexec_eq ha (d + 1) ls _ h).trans ?_
  have k1 : zcal y (.invokestatic ix) [.long a0] h = some (z, [.long a0], []) := by simp [zcal, h2, h3, zargs, h4]
  have k2 : zheap y (.invokestatic ix) [.long a0] h = none := by simp [zheap, h2]
  simp only [zstep, zpure, zloc, zjmp, k2, zretn, k1]
  rfl

theorem zx_lstore_9 (y pc pc' : Nat) (hok : zok y pc (.lstore 9) pc' = true) (d : Nat) (x : Int64) (l0 l1 l2 l3 l4 l5 l6 l7 l8 l9 l10 : Option Value) (ls : zL) (st : List Value) (h : zH) : zexec d y pc (l0 :: l1 :: l2 :: l3 :: l4 :: l5 :: l6 :: l7 :: l8 :: l9 :: l10 :: ls) (.long x :: st) h = zexec d y pc' (l0 :: l1 :: l2 :: l3 :: l4 :: l5 :: l6 :: l7 :: zclr l8 :: some (.long x) :: none :: ls) st h := by
  obtain ⟨len, ha, rfl⟩ := zok_out hok
  have e1 : zloc (.lstore 9) (l0 :: l1 :: l2 :: l3 :: l4 :: l5 :: l6 :: l7 :: l8 :: l9 :: l10 :: ls) (.long x :: st) = some (l0 :: l1 :: l2 :: l3 :: l4 :: l5 :: l6 :: l7 :: zclr l8 :: some (.long x) :: none :: ls, st) := by
    have e0 : zlst (l0 :: l1 :: l2 :: l3 :: l4 :: l5 :: l6 :: l7 :: l8 :: l9 :: l10 :: ls) 9 (.long x :: st) = some (l0 :: l1 :: l2 :: l3 :: l4 :: l5 :: l6 :: l7 :: zclr l8 :: some (.long x) :: none :: ls, st) := by simp [zlst, zset2]
    exact e0
  refine (zexec_eq ha d _ _ h).trans ?_
  simp only [zstep, zpure, e1, zgo]

theorem zx_lload_9 (y pc pc' : Nat) (hok : zok y pc (.lload 9) pc' = true) (d : Nat) (x : Int64) (l0 l1 l2 l3 l4 l5 l6 l7 l8 : Option Value) (ls : zL) (st : List Value) (h : zH) : zexec d y pc (l0 :: l1 :: l2 :: l3 :: l4 :: l5 :: l6 :: l7 :: l8 :: some (.long x) :: ls) st h = zexec d y pc' (l0 :: l1 :: l2 :: l3 :: l4 :: l5 :: l6 :: l7 :: l8 :: some (.long x) :: ls) (.long x :: st) h := by
  obtain ⟨len, ha, rfl⟩ := zok_out hok
  exact (zexec_eq ha d _ _ h).trans rfl

theorem zx_istore_8 (y pc pc' : Nat) (hok : zok y pc (.istore 8) pc' = true) (d : Nat) (x : Int32) (l0 l1 l2 l3 l4 l5 l6 l7 l8 : Option Value) (ls : zL) (st : List Value) (h : zH) : zexec d y pc (l0 :: l1 :: l2 :: l3 :: l4 :: l5 :: l6 :: l7 :: l8 :: ls) (.int x :: st) h = zexec d y pc' (l0 :: l1 :: l2 :: l3 :: l4 :: l5 :: l6 :: zclr l7 :: some (.int x) :: ls) st h := by
  obtain ⟨len, ha, rfl⟩ := zok_out hok
  have e1 : zloc (.istore 8) (l0 :: l1 :: l2 :: l3 :: l4 :: l5 :: l6 :: l7 :: l8 :: ls) (.int x :: st) = some (l0 :: l1 :: l2 :: l3 :: l4 :: l5 :: l6 :: zclr l7 :: some (.int x) :: ls, st) := by
    have e0 : zist (l0 :: l1 :: l2 :: l3 :: l4 :: l5 :: l6 :: l7 :: l8 :: ls) 8 (.int x :: st) = some (l0 :: l1 :: l2 :: l3 :: l4 :: l5 :: l6 :: zclr l7 :: some (.int x) :: ls, st) := by simp [zist, zset1]
    exact e0
  refine (zexec_eq ha d _ _ h).trans ?_
  simp only [zstep, zpure, e1, zgo]

theorem zx_iload_8 (y pc pc' : Nat) (hok : zok y pc (.iload 8) pc' = true) (d : Nat) (x : Int32) (l0 l1 l2 l3 l4 l5 l6 l7 : Option Value) (ls : zL) (st : List Value) (h : zH) : zexec d y pc (l0 :: l1 :: l2 :: l3 :: l4 :: l5 :: l6 :: l7 :: some (.int x) :: ls) st h = zexec d y pc' (l0 :: l1 :: l2 :: l3 :: l4 :: l5 :: l6 :: l7 :: some (.int x) :: ls) (.int x :: st) h := by
  obtain ⟨len, ha, rfl⟩ := zok_out hok
  exact (zexec_eq ha d _ _ h).trans rfl

theorem zx_calls_lll_0 (y pc pc' ix z : Nat) (hok : (zok y pc (.invokestatic ix) pc' && pc + 3 == pc' && decide ((zMk.getD (zow y) []).lookup ix = some (1, z)) && zpn z == 3 && decide (6 ≤ zml z)) = true) (d : Nat) (a0 : Int64) (a1 : Int64) (a2 : Int64)  (ls : zL) (h : zH) : zexec (d + 1) y pc ls [.long a2, .long a1, .long a0] h = (zcall d z [.long a0, .long a1, .long a2] h).bind (fun q => zexec (d + 1) y pc' ls (q.1.toList ++ []) q.2) := by
  simp only [Bool.and_eq_true, decide_eq_true_eq, beq_iff_eq] at hok
  obtain ⟨⟨⟨⟨h1, h1'⟩, h2⟩, h3⟩, h4⟩ := hok
  rw [List.getD_eq_getElem?_getD] at h2
  obtain ⟨len, ha, h5⟩ := zok_out h1
  subst h1'
  refine (zexec_eq ha (d + 1) ls _ h).trans ?_
  have k1 : zcal y (.invokestatic ix) [.long a2, .long a1, .long a0] h = some (z, [.long a0, .long a1, .long a2], []) := by simp [zcal, h2, h3, zargs, h4]
  have k2 : zheap y (.invokestatic ix) [.long a2, .long a1, .long a0] h = none := by simp [zheap, h2]
  simp only [zstep, zpure, zloc, zjmp, k2, zretn, k1]
  rfl

theorem zx_lsub (y pc pc' : Nat) (hok : zok y pc .lsub pc' = true) (d : Nat) (a b : Int64) (ls : zL) (st : List Value) (h : zH) : zexec d y pc ls (.long b :: .long a :: st) h = zexec d y pc' ls (.long (a - b) :: st) h := by
  obtain ⟨len, ha, rfl⟩ := zok_out hok
  exact (zexec_eq ha d ls _ h).trans rfl

theorem zx_lstore_6 (y pc pc' : Nat) (hok : zok y pc (.lstore 6) pc' = true) (d : Nat) (x : Int64) (l0 l1 l2 l3 l4 l5 l6 l7 : Option Value) (ls : zL) (st : List Value) (h : zH) : zexec d y pc (l0 :: l1 :: l2 :: l3 :: l4 :: l5 :: l6 :: l7 :: ls) (.long x :: st) h = zexec d y pc' (l0 :: l1 :: l2 :: l3 :: l4 :: zclr l5 :: some (.long x) :: none :: ls) st h := by
  obtain ⟨len, ha, rfl⟩ := zok_out hok
  have e1 : zloc (.lstore 6) (l0 :: l1 :: l2 :: l3 :: l4 :: l5 :: l6 :: l7 :: ls) (.long x :: st) = some (l0 :: l1 :: l2 :: l3 :: l4 :: zclr l5 :: some (.long x) :: none :: ls, st) := by
    have e0 : zlst (l0 :: l1 :: l2 :: l3 :: l4 :: l5 :: l6 :: l7 :: ls) 6 (.long x :: st) = some (l0 :: l1 :: l2 :: l3 :: l4 :: zclr l5 :: some (.long x) :: none :: ls, st) := by simp [zlst, zset2]
    exact e0
  refine (zexec_eq ha d _ _ h).trans ?_
  simp only [zstep, zpure, e1, zgo]

theorem zx_lload_6 (y pc pc' : Nat) (hok : zok y pc (.lload 6) pc' = true) (d : Nat) (x : Int64) (l0 l1 l2 l3 l4 l5 : Option Value) (ls : zL) (st : List Value) (h : zH) : zexec d y pc (l0 :: l1 :: l2 :: l3 :: l4 :: l5 :: some (.long x) :: ls) st h = zexec d y pc' (l0 :: l1 :: l2 :: l3 :: l4 :: l5 :: some (.long x) :: ls) (.long x :: st) h := by
  obtain ⟨len, ha, rfl⟩ := zok_out hok
  exact (zexec_eq ha d _ _ h).trans rfl

theorem zx_calls_iiiiii_1 (y pc pc' ix z : Nat) (hok : (zok y pc (.invokestatic ix) pc' && pc + 3 == pc' && decide ((zMk.getD (zow y) []).lookup ix = some (1, z)) && zpn z == 6 && decide (6 ≤ zml z)) = true) (d : Nat) (a0 : Int32) (a1 : Int32) (a2 : Int32) (a3 : Int32) (a4 : Int32) (a5 : Int32) (r0 : Value) (ls : zL) (h : zH) : zexec (d + 1) y pc ls [.int a5, .int a4, .int a3, .int a2, .int a1, .int a0, r0] h = (zcall d z [.int a0, .int a1, .int a2, .int a3, .int a4, .int a5] h).bind (fun q => zexec (d + 1) y pc' ls (q.1.toList ++ [r0]) q.2) := by
  simp only [Bool.and_eq_true, decide_eq_true_eq, beq_iff_eq] at hok
  obtain ⟨⟨⟨⟨h1, h1'⟩, h2⟩, h3⟩, h4⟩ := hok
  rw [List.getD_eq_getElem?_getD] at h2
  obtain ⟨len, ha, h5⟩ := zok_out h1
  subst h1'
  refine (zexec_eq ha (d + 1) ls _ h).trans ?_
  have k1 : zcal y (.invokestatic ix) [.int a5, .int a4, .int a3, .int a2, .int a1, .int a0, r0] h = some (z, [.int a0, .int a1, .int a2, .int a3, .int a4, .int a5], [r0]) := by simp [zcal, h2, h3, zargs, h4]
  have k2 : zheap y (.invokestatic ix) [.int a5, .int a4, .int a3, .int a2, .int a1, .int a0, r0] h = none := by simp [zheap, h2]
  simp only [zstep, zpure, zloc, zjmp, k2, zretn, k1]
  rfl

theorem zx_callv_x_3 (y pc pc' ix z c : Nat) (hok : (zok y pc (.invokevirtual ix) pc' && pc + 3 == pc' && decide ((zMk.getD (zow y) []).lookup ix = some (0, z)) && zpn z == 0 && decide (1 ≤ zml z) && zow z == c && decide (c < 13)) = true) (d o : Nat)  (r0 : Value) (r1 : Value) (r2 : Value) (ls : zL) (h : zH) : zexec (d + 1) y pc ls [.ref o, r0, r1, r2] h = if zcls h o = c then (zcall d z [.ref o] h).bind (fun q => zexec (d + 1) y pc' ls (q.1.toList ++ [r0, r1, r2]) q.2) else none := by
  simp only [Bool.and_eq_true, decide_eq_true_eq, beq_iff_eq] at hok
  obtain ⟨⟨⟨⟨⟨⟨h1, h1'⟩, h2⟩, h3⟩, h4⟩, rfl⟩, h6⟩ := hok
  rw [List.getD_eq_getElem?_getD] at h2
  obtain ⟨len, ha, h5⟩ := zok_out h1
  subst h1'
  refine (zexec_eq ha (d + 1) ls _ h).trans ?_
  have k1 : zcal y (.invokevirtual ix) [.ref o, r0, r1, r2] h = if zcls h o = zow z then some (z, [.ref o], [r0, r1, r2]) else none := by
    by_cases hc : zcls h o = zow z
    · simp [zcal, h2, h3, hc, h6, zargs, h4]
    · simp [zcal, h2, h3, hc]
  simp only [zstep, zpure, zloc, zjmp, zheap, zretn, k1]
  by_cases hc : zcls h o = zow z
  · rw [if_pos hc, if_pos hc]
    rfl
  · rw [if_neg hc, if_neg hc]
    rfl

theorem zx_callv_iii_2 (y pc pc' ix z c : Nat) (hok : (zok y pc (.invokevirtual ix) pc' && pc + 3 == pc' && decide ((zMk.getD (zow y) []).lookup ix = some (0, z)) && zpn z == 3 && decide (4 ≤ zml z) && zow z == c && decide (c < 13)) = true) (d o : Nat) (a0 : Int32) (a1 : Int32) (a2 : Int32) (r0 : Value) (r1 : Value) (ls : zL) (h : zH) : zexec (d + 1) y pc ls [.int a2, .int a1, .int a0, .ref o, r0, r1] h = if zcls h o = c then (zcall d z [.ref o, .int a0, .int a1, .int a2] h).bind (fun q => zexec (d + 1) y pc' ls (q.1.toList ++ [r0, r1]) q.2) else none := by
  simp only [Bool.and_eq_true, decide_eq_true_eq, beq_iff_eq] at hok
  obtain ⟨⟨⟨⟨⟨⟨h1, h1'⟩, h2⟩, h3⟩, h4⟩, rfl⟩, h6⟩ := hok
  rw [List.getD_eq_getElem?_getD] at h2
  obtain ⟨len, ha, h5⟩ := zok_out h1
  subst h1'
  refine (zexec_eq ha (d + 1) ls _ h).trans ?_
  have k1 : zcal y (.invokevirtual ix) [.int a2, .int a1, .int a0, .ref o, r0, r1] h = if zcls h o = zow z then some (z, [.ref o, .int a0, .int a1, .int a2], [r0, r1]) else none := by
    by_cases hc : zcls h o = zow z
    · simp [zcal, h2, h3, hc, h6, zargs, h4]
    · simp [zcal, h2, h3, hc]
  simp only [zstep, zpure, zloc, zjmp, zheap, zretn, k1]
  by_cases hc : zcls h o = zow z
  · rw [if_pos hc, if_pos hc]
    rfl
  · rw [if_neg hc, if_neg hc]
    rfl

theorem zx_iinc_8 (y pc pc' : Nat) (n : Int) (v : Int32) (hok : zok y pc (.iinc 8 n) pc' = true) (hv : Int32.ofInt n = v) (d : Nat) (x : Int32) (l0 l1 l2 l3 l4 l5 l6 l7 : Option Value) (ls : zL) (st : List Value) (h : zH) : zexec d y pc (l0 :: l1 :: l2 :: l3 :: l4 :: l5 :: l6 :: l7 :: some (.int x) :: ls) st h = zexec d y pc' (l0 :: l1 :: l2 :: l3 :: l4 :: l5 :: l6 :: zclr l7 :: some (.int (x + v)) :: ls) st h := by
  subst hv
  obtain ⟨len, ha, rfl⟩ := zok_out hok
  refine (zexec_eq ha d _ _ h).trans ?_
  simp [zstep, zpure, zloc, zivar, zset1, zgo]

theorem zx_iinc_6 (y pc pc' : Nat) (n : Int) (v : Int32) (hok : zok y pc (.iinc 6 n) pc' = true) (hv : Int32.ofInt n = v) (d : Nat) (x : Int32) (l0 l1 l2 l3 l4 l5 : Option Value) (ls : zL) (st : List Value) (h : zH) : zexec d y pc (l0 :: l1 :: l2 :: l3 :: l4 :: l5 :: some (.int x) :: ls) st h = zexec d y pc' (l0 :: l1 :: l2 :: l3 :: l4 :: zclr l5 :: some (.int (x + v)) :: ls) st h := by
  subst hv
  obtain ⟨len, ha, rfl⟩ := zok_out hok
  refine (zexec_eq ha d _ _ h).trans ?_
  simp [zstep, zpure, zloc, zivar, zset1, zgo]

def zok_ldc_w (y pc : Nat) (ix : Nat) (v : Int32) (pc' : Nat) : Bool := zok y pc (.ldc_w ix) pc' && decide ((zKk.getD (zow y) []).lookup ix = some v)
theorem zx_ldc_w (y pc pc' ix : Nat) (v : Int32) (hok : zok_ldc_w y pc ix v pc' = true) (d : Nat) (ls : zL) (st : List Value) (h : zH) : zexec d y pc ls st h = zexec d y pc' ls (.int v :: st) h := by
  simp only [zok_ldc_w, Bool.and_eq_true, decide_eq_true_eq] at hok
  obtain ⟨h1, h2⟩ := hok
  try rw [List.getD_eq_getElem?_getD] at h2
  obtain ⟨len, ha, rfl⟩ := zok_out h1
  refine (zexec_eq ha d ls _ h).trans ?_
  simp [zstep, zpure, zloc, zjmp, zheap, zgo, h2]

theorem zx_callv_x_2 (y pc pc' ix z c : Nat) (hok : (zok y pc (.invokevirtual ix) pc' && pc + 3 == pc' && decide ((zMk.getD (zow y) []).lookup ix = some (0, z)) && zpn z == 0 && decide (1 ≤ zml z) && zow z == c && decide (c < 13)) = true) (d o : Nat)  (r0 : Value) (r1 : Value) (ls : zL) (h : zH) : zexec (d + 1) y pc ls [.ref o, r0, r1] h = if zcls h o = c then (zcall d z [.ref o] h).bind (fun q => zexec (d + 1) y pc' ls (q.1.toList ++ [r0, r1]) q.2) else none := by
  simp only [Bool.and_eq_true, decide_eq_true_eq, beq_iff_eq] at hok
  obtain ⟨⟨⟨⟨⟨⟨h1, h1'⟩, h2⟩, h3⟩, h4⟩, rfl⟩, h6⟩ := hok
  rw [List.getD_eq_getElem?_getD] at h2
  obtain ⟨len, ha, h5⟩ := zok_out h1
  subst h1'
  refine (zexec_eq ha (d + 1) ls _ h).trans ?_
  have k1 : zcal y (.invokevirtual ix) [.ref o, r0, r1] h = if zcls h o = zow z then some (z, [.ref o], [r0, r1]) else none := by
    by_cases hc : zcls h o = zow z
    · simp [zcal, h2, h3, hc, h6, zargs, h4]
    · simp [zcal, h2, h3, hc]
  simp only [zstep, zpure, zloc, zjmp, zheap, zretn, k1]
  by_cases hc : zcls h o = zow z
  · rw [if_pos hc, if_pos hc]
    rfl
  · rw [if_neg hc, if_neg hc]
    rfl

theorem zx_lstore_n_3 (y pc pc' : Nat) (hok : zok y pc (.lstore_n 3) pc' = true) (d : Nat) (x : Int64) (l0 l1 l2 l3 l4 : Option Value) (ls : zL) (st : List Value) (h : zH) : zexec d y pc (l0 :: l1 :: l2 :: l3 :: l4 :: ls) (.long x :: st) h = zexec d y pc' (l0 :: l1 :: zclr l2 :: some (.long x) :: none :: ls) st h := by
  obtain ⟨len, ha, rfl⟩ := zok_out hok
  have e1 : zloc (.lstore_n 3) (l0 :: l1 :: l2 :: l3 :: l4 :: ls) (.long x :: st) = some (l0 :: l1 :: zclr l2 :: some (.long x) :: none :: ls, st) := by
    have e0 : zlst (l0 :: l1 :: l2 :: l3 :: l4 :: ls) 3 (.long x :: st) = some (l0 :: l1 :: zclr l2 :: some (.long x) :: none :: ls, st) := by simp [zlst, zset2]
    exact e0
  refine (zexec_eq ha d _ _ h).trans ?_
  simp only [zstep, zpure, e1, zgo]

def zokS (y pc : Nat) (ix k pc' : Nat) : Bool := zok y pc (.getfield ix) pc' && decide ((zFk.getD (zow y) []).lookup ix = some (13, k))
theorem zx_getS (y pc pc' ix k : Nat) (hok : zokS y pc ix k pc' = true) (d : Nat) (ls : zL) (st : List Value) (h : zH) : zexec d y pc ls (.ref 1 :: st) h = (zgf h 1 13 k).bind (fun v => zexec d y pc' ls (v :: st) h) := by
  simp only [zokS, Bool.and_eq_true, decide_eq_true_eq] at hok
  obtain ⟨h1, h2⟩ := hok
  try rw [List.getD_eq_getElem?_getD] at h2
  obtain ⟨len, ha, rfl⟩ := zok_out h1
  refine (zexec_eq ha d ls _ h).trans ?_
  cases hg : zgf h 1 13 k <;> simp [zstep, zpure, zloc, zjmp, zheap, zretn, zcal, zgo, h2, hg]

theorem zx_callv_x_0_S (y pc pc' ix z c : Nat) (hok : (zok y pc (.invokevirtual ix) pc' && pc + 3 == pc' && decide ((zMk.getD (zow y) []).lookup ix = some (0, z)) && zpn z == 0 && decide (1 ≤ zml z) && zow z == c && decide (c = 13)) = true) (d : Nat)   (ls : zL) (h : zH) : zexec (d + 1) y pc ls [.ref 1] h = if zcls h 1 = c then (zcall d z [.ref 1] h).bind (fun q => zexec (d + 1) y pc' ls (q.1.toList ++ []) q.2) else none := by
  simp only [Bool.and_eq_true, decide_eq_true_eq, beq_iff_eq] at hok
  obtain ⟨⟨⟨⟨⟨⟨h1, h1'⟩, h2⟩, h3⟩, h4⟩, rfl⟩, h6⟩ := hok
  rw [List.getD_eq_getElem?_getD] at h2
  obtain ⟨len, ha, h5⟩ := zok_out h1
  subst h1'
  refine (zexec_eq ha (d + 1) ls _ h).trans ?_
  have k1 : zcal y (.invokevirtual ix) [.ref 1] h = if zcls h 1 = zow z then some (z, [.ref 1], []) else none := by
    by_cases hc : zcls h 1 = zow z
    · simp [zcal, h2, h3, hc, zargs, h4]
    · simp [zcal, h2, h3, hc]
  simp only [zstep, zpure, zloc, zjmp, zheap, zretn, k1]
  by_cases hc : zcls h 1 = zow z
  · rw [if_pos hc, if_pos hc]
    rfl
  · rw [if_neg hc, if_neg hc]
    rfl

theorem zx_zret_char (y pc pc' : Nat) (hok : (zok y pc .ireturn pc' && decide (zrt y = some .char)) = true) (d : Nat) (v : Int32) (ls : zL) (h : zH) : zexec d y pc ls [.int v] h = if zfit .char (.int v) = true then some (some (.int v), h) else none := by
  simp only [Bool.and_eq_true, decide_eq_true_eq] at hok
  obtain ⟨h1, h2⟩ := hok
  try rw [List.getD_eq_getElem?_getD] at h2
  obtain ⟨len, ha, rfl⟩ := zok_out h1
  refine (zexec_eq ha d ls _ h).trans ?_
  by_cases hf : zfit .char (.int v) = true <;> simp [zstep, zpure, zloc, zjmp, zheap, zretn, zcal, zgo, h2, hf]

theorem zx_gets_0 (y pc pc' ix : Nat) (hok : (zok y pc (.getstatic ix) pc' && decide ((zGk.getD (zow y) []).lookup ix = some 0)) = true) (d : Nat) (ls : zL) (st : List Value) (h : zH) : zexec d y pc ls st h = zexec d y pc' ls (.int 1 :: st) h := by
  simp only [Bool.and_eq_true, decide_eq_true_eq] at hok
  obtain ⟨h1, h2⟩ := hok
  try rw [List.getD_eq_getElem?_getD] at h2
  obtain ⟨len, ha, rfl⟩ := zok_out h1
  refine (zexec_eq ha d ls _ h).trans ?_
  simp [zstep, zpure, zloc, zjmp, zheap, zgo, h2]

theorem zx_gets_1 (y pc pc' ix : Nat) (hok : (zok y pc (.getstatic ix) pc' && decide ((zGk.getD (zow y) []).lookup ix = some 1)) = true) (d : Nat) (ls : zL) (st : List Value) (h : zH) : zexec d y pc ls st h = zexec d y pc' ls (.retAddr 0 :: st) h := by
  simp only [Bool.and_eq_true, decide_eq_true_eq] at hok
  obtain ⟨h1, h2⟩ := hok
  try rw [List.getD_eq_getElem?_getD] at h2
  obtain ⟨len, ha, rfl⟩ := zok_out h1
  refine (zexec_eq ha d ls _ h).trans ?_
  simp [zstep, zpure, zloc, zjmp, zheap, zgo, h2]

theorem zx_calls_iir_0 (y pc pc' ix z : Nat) (hok : (zok y pc (.invokestatic ix) pc' && pc + 3 == pc' && decide ((zMk.getD (zow y) []).lookup ix = some (1, z)) && zpn z == 3 && decide (3 ≤ zml z)) = true) (d : Nat) (a0 : Int32) (a1 : Int32) (a2 : Nat)  (ls : zL) (h : zH) : zexec (d + 1) y pc ls [.ref a2, .int a1, .int a0] h = (zcall d z [.int a0, .int a1, .ref a2] h).bind (fun q => zexec (d + 1) y pc' ls (q.1.toList ++ []) q.2) := by
  simp only [Bool.and_eq_true, decide_eq_true_eq, beq_iff_eq] at hok
  obtain ⟨⟨⟨⟨h1, h1'⟩, h2⟩, h3⟩, h4⟩ := hok
  rw [List.getD_eq_getElem?_getD] at h2
  obtain ⟨len, ha, h5⟩ := zok_out h1
  subst h1'
  refine (zexec_eq ha (d + 1) ls _ h).trans ?_
  have k1 : zcal y (.invokestatic ix) [.ref a2, .int a1, .int a0] h = some (z, [.int a0, .int a1, .ref a2], []) := by simp [zcal, h2, h3, zargs, h4]
  have k2 : zheap y (.invokestatic ix) [.ref a2, .int a1, .int a0] h = none := by simp [zheap, h2]
  simp only [zstep, zpure, zloc, zjmp, k2, zretn, k1]
  rfl

theorem zx_calli_x_1 (y pc pc' ix z : Nat) (hok : (zok y pc (.invokespecial ix) pc' && pc + 3 == pc' && decide ((zMk.getD (zow y) []).lookup ix = some (2, z)) && zpn z == 0 && decide (1 ≤ zml z)) = true) (d o : Nat)  (r0 : Value) (ls : zL) (h : zH) : zexec (d + 1) y pc ls [.ref o, r0] h = (zcall d z [.ref o] h).bind (fun q => zexec (d + 1) y pc' ls (q.1.toList ++ [r0]) q.2) := by
  simp only [Bool.and_eq_true, decide_eq_true_eq, beq_iff_eq] at hok
  obtain ⟨⟨⟨⟨h1, h1'⟩, h2⟩, h3⟩, h4⟩ := hok
  rw [List.getD_eq_getElem?_getD] at h2
  obtain ⟨len, ha, h5⟩ := zok_out h1
  subst h1'
  refine (zexec_eq ha (d + 1) ls _ h).trans ?_
  have k1 : zcal y (.invokespecial ix) [.ref o, r0] h = some (z, [.ref o], [r0]) := by simp [zcal, h2, h3, zargs, h4]
  have k2 : zheap y (.invokespecial ix) [.ref o, r0] h = none := by simp [zheap, h2]
  simp only [zstep, zpure, zloc, zjmp, k2, zretn, k1]
  rfl

theorem zx_astore_n_1 (y pc pc' : Nat) (hok : zok y pc (.astore_n 1) pc' = true) (d : Nat) (x : Nat) (l0 l1 : Option Value) (ls : zL) (st : List Value) (h : zH) : zexec d y pc (l0 :: l1 :: ls) (.ref x :: st) h = zexec d y pc' (zclr l0 :: some (.ref x) :: ls) st h := by
  obtain ⟨len, ha, rfl⟩ := zok_out hok
  have e1 : zloc (.astore_n 1) (l0 :: l1 :: ls) (.ref x :: st) = some (zclr l0 :: some (.ref x) :: ls, st) := by
    have e0 : zast (l0 :: l1 :: ls) 1 (.ref x :: st) = some (zclr l0 :: some (.ref x) :: ls, st) := by simp [zast, zset1]
    exact e0
  refine (zexec_eq ha d _ _ h).trans ?_
  simp only [zstep, zpure, e1, zgo]

theorem zx_astore_n_2 (y pc pc' : Nat) (hok : zok y pc (.astore_n 2) pc' = true) (d : Nat) (x : Nat) (l0 l1 l2 : Option Value) (ls : zL) (st : List Value) (h : zH) : zexec d y pc (l0 :: l1 :: l2 :: ls) (.ref x :: st) h = zexec d y pc' (l0 :: zclr l1 :: some (.ref x) :: ls) st h := by
  obtain ⟨len, ha, rfl⟩ := zok_out hok
  have e1 : zloc (.astore_n 2) (l0 :: l1 :: l2 :: ls) (.ref x :: st) = some (l0 :: zclr l1 :: some (.ref x) :: ls, st) := by
    have e0 : zast (l0 :: l1 :: l2 :: ls) 2 (.ref x :: st) = some (l0 :: zclr l1 :: some (.ref x) :: ls, st) := by simp [zast, zset1]
    exact e0
  refine (zexec_eq ha d _ _ h).trans ?_
  simp only [zstep, zpure, e1, zgo]

theorem zx_lshl (y pc pc' : Nat) (hok : zok y pc .lshl pc' = true) (d : Nat) (a : Int64) (b : Int32) (ls : zL) (st : List Value) (h : zH) : zexec d y pc ls (.int b :: .long a :: st) h = zexec d y pc' ls (.long (a <<< (b.toInt64 &&& 63)) :: st) h := by
  obtain ⟨len, ha, rfl⟩ := zok_out hok
  exact (zexec_eq ha d ls _ h).trans rfl

theorem zx_land (y pc pc' : Nat) (hok : zok y pc .land pc' = true) (d : Nat) (a b : Int64) (ls : zL) (st : List Value) (h : zH) : zexec d y pc ls (.long b :: .long a :: st) h = zexec d y pc' ls (.long (a &&& b) :: st) h := by
  obtain ⟨len, ha, rfl⟩ := zok_out hok
  exact (zexec_eq ha d ls _ h).trans rfl

theorem zx_lor (y pc pc' : Nat) (hok : zok y pc .lor pc' = true) (d : Nat) (a b : Int64) (ls : zL) (st : List Value) (h : zH) : zexec d y pc ls (.long b :: .long a :: st) h = zexec d y pc' ls (.long (a ||| b) :: st) h := by
  obtain ⟨len, ha, rfl⟩ := zok_out hok
  exact (zexec_eq ha d ls _ h).trans rfl

theorem zx_callv_iil_1 (y pc pc' ix z c : Nat) (hok : (zok y pc (.invokevirtual ix) pc' && pc + 3 == pc' && decide ((zMk.getD (zow y) []).lookup ix = some (0, z)) && zpn z == 3 && decide (5 ≤ zml z) && zow z == c && decide (c < 13)) = true) (d o : Nat) (a0 : Int32) (a1 : Int32) (a2 : Int64) (r0 : Value) (ls : zL) (h : zH) : zexec (d + 1) y pc ls [.long a2, .int a1, .int a0, .ref o, r0] h = if zcls h o = c then (zcall d z [.ref o, .int a0, .int a1, .long a2] h).bind (fun q => zexec (d + 1) y pc' ls (q.1.toList ++ [r0]) q.2) else none := by
  simp only [Bool.and_eq_true, decide_eq_true_eq, beq_iff_eq] at hok
  obtain ⟨⟨⟨⟨⟨⟨h1, h1'⟩, h2⟩, h3⟩, h4⟩, rfl⟩, h6⟩ := hok
  rw [List.getD_eq_getElem?_getD] at h2
  obtain ⟨len, ha, h5⟩ := zok_out h1
  subst h1'
  refine (zexec_eq ha (d + 1) ls _ h).trans ?_
  have k1 : zcal y (.invokevirtual ix) [.long a2, .int a1, .int a0, .ref o, r0] h = if zcls h o = zow z then some (z, [.ref o, .int a0, .int a1, .long a2], [r0]) else none := by
    by_cases hc : zcls h o = zow z
    · simp [zcal, h2, h3, hc, h6, zargs, h4]
    · simp [zcal, h2, h3, hc]
  simp only [zstep, zpure, zloc, zjmp, zheap, zretn, k1]
  by_cases hc : zcls h o = zow z
  · rw [if_pos hc, if_pos hc]
    rfl
  · rw [if_neg hc, if_neg hc]
    rfl

theorem zx_callv_iiiii_1 (y pc pc' ix z c : Nat) (hok : (zok y pc (.invokevirtual ix) pc' && pc + 3 == pc' && decide ((zMk.getD (zow y) []).lookup ix = some (0, z)) && zpn z == 5 && decide (6 ≤ zml z) && zow z == c && decide (c < 13)) = true) (d o : Nat) (a0 : Int32) (a1 : Int32) (a2 : Int32) (a3 : Int32) (a4 : Int32) (r0 : Value) (ls : zL) (h : zH) : zexec (d + 1) y pc ls [.int a4, .int a3, .int a2, .int a1, .int a0, .ref o, r0] h = if zcls h o = c then (zcall d z [.ref o, .int a0, .int a1, .int a2, .int a3, .int a4] h).bind (fun q => zexec (d + 1) y pc' ls (q.1.toList ++ [r0]) q.2) else none := by
  simp only [Bool.and_eq_true, decide_eq_true_eq, beq_iff_eq] at hok
  obtain ⟨⟨⟨⟨⟨⟨h1, h1'⟩, h2⟩, h3⟩, h4⟩, rfl⟩, h6⟩ := hok
  rw [List.getD_eq_getElem?_getD] at h2
  obtain ⟨len, ha, h5⟩ := zok_out h1
  subst h1'
  refine (zexec_eq ha (d + 1) ls _ h).trans ?_
  have k1 : zcal y (.invokevirtual ix) [.int a4, .int a3, .int a2, .int a1, .int a0, .ref o, r0] h = if zcls h o = zow z then some (z, [.ref o, .int a0, .int a1, .int a2, .int a3, .int a4], [r0]) else none := by
    by_cases hc : zcls h o = zow z
    · simp [zcal, h2, h3, hc, h6, zargs, h4]
    · simp [zcal, h2, h3, hc]
  simp only [zstep, zpure, zloc, zjmp, zheap, zretn, k1]
  by_cases hc : zcls h o = zow z
  · rw [if_pos hc, if_pos hc]
    rfl
  · rw [if_neg hc, if_neg hc]
    rfl

theorem zx_iushr (y pc pc' : Nat) (hok : zok y pc .iushr pc' = true) (d : Nat) (a b : Int32) (ls : zL) (st : List Value) (h : zH) : zexec d y pc ls (.int b :: .int a :: st) h = zexec d y pc' ls (.int ((a.toUInt32 >>> (b.toUInt32 &&& Int32.toUInt32 31)).toInt32) :: st) h := by
  obtain ⟨len, ha, rfl⟩ := zok_out hok
  exact (zexec_eq ha d ls _ h).trans rfl

theorem zx_istore_n_0 (y pc pc' : Nat) (hok : zok y pc (.istore_n 0) pc' = true) (d : Nat) (x : Int32) (l0 : Option Value) (ls : zL) (st : List Value) (h : zH) : zexec d y pc (l0 :: ls) (.int x :: st) h = zexec d y pc' (some (.int x) :: ls) st h := by
  obtain ⟨len, ha, rfl⟩ := zok_out hok
  have e1 : zloc (.istore_n 0) (l0 :: ls) (.int x :: st) = some (some (.int x) :: ls, st) := by
    have e0 : zist (l0 :: ls) 0 (.int x :: st) = some (some (.int x) :: ls, st) := by simp [zist, zset1]
    exact e0
  refine (zexec_eq ha d _ _ h).trans ?_
  simp only [zstep, zpure, e1, zgo]

theorem zx_lneg (y pc pc' : Nat) (hok : zok y pc .lneg pc' = true) (d : Nat) (a : Int64) (ls : zL) (st : List Value) (h : zH) : zexec d y pc ls (.long a :: st) h = zexec d y pc' ls (.long (-a) :: st) h := by
  obtain ⟨len, ha, rfl⟩ := zok_out hok
  exact (zexec_eq ha d ls _ h).trans rfl
