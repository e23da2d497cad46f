/-! THE CLAIM OUT OF ONE WALK OF THE LAW'S BODY. Your part is whole_start (and what it stands on); all else here is the same for every law, but numbers. -/
def R_law : String := "NineNamesLaw"
def lw_P (b : Addr) (xs : List Int32) (args : Array Value) (s : State) : Prop := args = #[.ref b] ∧ s.IntsAt b xs ∧ xs.length ≤ 3072 ∧ (Jvm.Cond.and given_1 narrow_1).before args s = true
def lw_Q (_ : Array Value) (s : State) (o : Outcome) (t : State) : Prop := o = .returned (some (.int 1)) ∧ Framed s o t [] 600000 7302250
def lw_Z (below : List Frame) (a : Array Value) (s : State) : State → Prop := fun t => ∃ o, t.status = .running ∧ Ended t below o ∧ lw_Q a s o t
/-- the law's own end, with 1 on the stack, nothing written that was there before, its room as the claim has it -/
theorem lw_ret {p : Program} {l : Launch} {e : Env} {s : State} {m : MethodId} {below : List Frame} {meth : Method} {c : Code} {b : Nat} (hx : p.tables.exec = Jvm.exec) (hb : c.code = code) (hr : meth.sig.returnType = ret) (hlocks : meth.locks = false) {pc : Nat} {H : Heap} {ls : Array Slot} (hdg : decode code pc = .ok (.ireturn, 1)) : W p l e room_1 s m #[Value.ref b] below meth c H [] 600000 7302250 (lw_Z below #[Value.ref b] s) (F0 m pc ls [.int 1]) := by
  intro T hT X
  obtain ⟨fs, hret, hrun, hended, hW, hframe⟩ := X.leave (v := some (.int 1)) (hlocks := hlocks) (fun h => by rw [hr] at h; cases h)
  have hmeth' : T.vm.method? m = some meth := X.method'
  refine ⟨T.setFrames fs, ?_, .returned (some (.int 1)), hrun, hended, rfl, ⟨_, rfl⟩, hW, hframe⟩
  jvm_step X.here [X.here.top, hx, hb, hdg, hmeth', hr, ret, narrow_b1]
  (try refine ⟨rfl, ?_⟩); (try refine ⟨rfl, ?_⟩)
  first | (intro acts; rw [hret _ acts rfl rfl rfl]) | rw [hret _ _ rfl rfl rfl]
  exact Steps.refl _
/-- what holds at the law's entry: the machine, the code, the tables' words (any of lw_tbl by 'hts w (by decide +kernel)'), the script of L ints xs at the cell b, what the Statement gives of the start (any of its parts by flat_of_before) -/
def lw_At (p : Program) (s : State) (m : MethodId) (meth : Method) (c : Code) (b L : Nat) (xs : Nat → Int32) : Prop :=
  p.tables.exec = Jvm.exec ∧ c.code = code ∧ meth.sig.returnType = ret ∧ c.maxLocals = 4 ∧ s.vm.findClass R_law = some m.cls ∧ (∀ w ∈ lw_tbl, w.before #[Value.ref b] s = true) ∧ va_X b L xs s s.heap ∧ b < s.heap.size ∧ meth.locks = false ∧ (Jvm.Cond.and given_1 narrow_1).before #[Value.ref b] s = true
/-! THE CLAIM OUT OF ONE ANSWER OF THE ABSTRACT MACHINE -/
theorem zarr_known {b : Nat} {s : State} (hts : ∀ w ∈ lw_tbl, w.before #[Value.ref b] s = true) : ∀ t : FieldType, ∃ cA : ClassId, t ∈ zTs → ArrOfT s cA t ∧ va_RA s cA t := by
  intro t
  by_cases ht : t ∈ zTs
  · have hp : ∀ t : FieldType, Cond.arrayClass t ∈ lw_tbl → (∀ C, t ≠ .object C) → ∃ cA : ClassId, ArrOfT s cA t ∧ va_RA s cA t := fun t hm hno => by
      obtain ⟨c, k, comp, h1, h2, h3⟩ := Cond.arrayClass_spec (hts _ hm)
      refine ⟨c, fun n z => ⟨(fun _ h => by cases h), k, h2, comp, h3⟩, ?_⟩
      cases t with
      | object C => exact absurd rfl (hno C)
      | _ => exact h1
    have ho : ∀ C : String, Cond.arrayOver (.object C) ∈ lw_tbl → ∃ cA : ClassId, ArrOfT s cA (.object C) ∧ va_RA s cA (.object C) := fun C hm => by
      obtain ⟨comp, c, k, h1, h2, h3, h4, h5⟩ := Cond.arrayOver_spec (hts _ hm)
      exact ⟨c, fun n z => ⟨(fun _ h => by cases h), k, h3, comp, h4⟩, k, comp, h3, h4, h1, h5⟩
    have ha : Cond.arrayOver (.array .long) ∈ lw_tbl → ∃ cA : ClassId, ArrOfT s cA (.array .long) ∧ va_RA s cA (.array .long) := fun hm => by
      obtain ⟨comp, c, k, h1, h2, h3, h4, h5⟩ := arrayOverA_spec (hts _ hm)
      exact ⟨c, fun n z => ⟨(fun _ h => by cases h), k, h3, comp, h4⟩, h5⟩
    have hx : ∃ cA : ClassId, ArrOfT s cA t ∧ va_RA s cA t := by
      simp only [zTs, List.mem_cons, List.not_mem_nil, or_false] at ht
      rcases ht with rfl | rfl | rfl | rfl | rfl | rfl
      · exact hp _ (by decide +kernel) (fun C h => by cases h)
      · exact hp _ (by decide +kernel) (fun C h => by cases h)
      · exact hp _ (by decide +kernel) (fun C h => by cases h)
      · exact ho _ (by decide +kernel)
      · exact ho _ (by decide +kernel)
      · exact ha (by decide +kernel)
    obtain ⟨cA, h⟩ := hx
    exact ⟨cA, fun _ => h⟩
  · exact ⟨0, fun h => absurd h ht⟩
theorem zcls_known {b : Nat} {s : State} (hts : ∀ w ∈ zwl, w.before #[Value.ref b] s = true) : ∀ k : Nat, ∃ q : ClassId × (Nat → Nat), ∀ r : vw_C, zCl[k]? = some r → u_Kn s r.1 r.2.1 r.2.2 q.1 q.2 := by
  have key : ∀ (k : Nat) (r : vw_C), zCl[k]? = some r → k ≠ 1 → ∃ q : ClassId × (Nat → Nat), u_Kn s r.1 r.2.1 r.2.2 q.1 q.2 := fun k r hr h1 => by
    obtain ⟨c, iS, h⟩ := u_known (C := r.1) (T := r.2.1) (N := r.2.2) (n := r.2.2) hts (zcl_in k r hr).1 (hts _ (zcl_new k r hr h1).1)
    exact ⟨(c, iS), h⟩
  intro k
  cases hk : zCl[k]? with
  | none => exact ⟨(0, fun _ => 0), fun r h => by cases h⟩
  | some r =>
    by_cases h1 : k = 1
    · subst h1
      obtain ⟨q, h⟩ := key 0 r (by cases hk; rfl) (by decide)
      exact ⟨q, fun r' h' => by cases h'; exact h⟩
    · obtain ⟨q, h⟩ := key k r hk h1
      exact ⟨q, fun r' h' => by cases h'; exact h⟩
set_option maxRecDepth 100000 in
theorem zbytes_in : ∀ j, j < 138 → Cond.eq (.elem (.field (.string "NineNames$Reader" 26) "java/lang/String" "value" "[B") (.int (Int32.ofNat j))) (.int (zby.getD j 0)) ∈ flatC (Jvm.Cond.and given_1 narrow_1) := by decide +kernel
set_option maxHeartbeats 4000000 in
theorem zworld {s : State} {b L : Nat} {xs : Nat → Int32} (hts0 : ∀ w ∈ lw_tbl, w.before #[Value.ref b] s = true) (hX : va_X b L xs s s.heap) (hbl : b < s.heap.size) (hgv : (Jvm.Cond.and given_1 narrow_1).before #[Value.ref b] s = true) : ∃ w : zG, w.1 = s.heap.size ∧ w.2.1 0 = b ∧ w.2.2.2.2.2 = (L, xs) ∧ zU w s s.heap := by
  have hts : ∀ w ∈ zwl, w.before #[Value.ref b] s = true := fun w hw => hts0 w (List.mem_filter.mp hw).1
  have hfl := flat_of_before _ hgv
  have hA : ∀ a : Nat, a < s.heap.size → ¬ (fun q : Nat => s.heap.size ≤ q) a := fun a h => Nat.not_le.mpr h
  obtain ⟨adK, adV, hvS, htm⟩ := vk_Sof (args := #[Value.ref b]) (s := s) (N := 1) (tm := fun _ => .string "NineNames$Reader" 26) (len := [138]) (byt := [zby]) (A := fun q : Nat => s.heap.size ≤ q)
    (fun i hi => by rw [show i = 0 by omega]; decide) (fun i hi => hfl _ (by decide +kernel)) (fun i hi => hfl _ (by decide +kernel)) (fun i hi => hfl _ (by decide +kernel)) (fun i hi => by rw [show i = 0 by omega]; exact hfl _ (by decide +kernel))
    (fun i hi j hj => by rw [show i = 0 by omega] at hj ⊢; exact hfl _ (zbytes_in j hj)) (fun i j hi hj hne => absurd (show i = j by omega) hne) hA
  have hZ0 : va_Z "java/lang/String" "COMPACT_STRINGS" "Z" (.int 1) (fun q : Nat => s.heap.size ≤ q) s s.heap := va_Zof (hts0 _ (by decide +kernel)) (hts0 _ (by decide +kernel)) (va_eqt (hfl _ (by decide +kernel))) hA
  have hZq : va_Zq "jdk/internal/util/Preconditions" "SIOOBE_FORMATTER" "Ljava/util/function/BiFunction;" (fun q : Nat => s.heap.size ≤ q) s s.heap := va_Zqof (hts0 _ (by decide +kernel)) (hts0 _ (by decide +kernel)) (hfl _ (by decide +kernel)) hA
  obtain ⟨vz, hvz, hZ1⟩ : ∃ v : Value, v.category = 1 ∧ va_Z "jdk/internal/util/Preconditions" "SIOOBE_FORMATTER" "Ljava/util/function/BiFunction;" v (fun q : Nat => s.heap.size ≤ q) s s.heap := by
    rcases hZq with h | ⟨t, h⟩
    · exact ⟨.null, rfl, h⟩
    · exact ⟨.ref t, rfl, h⟩
  have hR : ∃ tx, vk_R "NineNames$Reader" 26 tx (adK 0) s := ⟨_, vk_R.of (A := #[Value.ref b]) (hts0 (.stringRef "NineNames$Reader" 26 "year most life name worth person born of coins miser child wed likes waits for die birth sell swap any when bears dash free loop end stop ") (by decide +kernel)) (htm 0 (by decide))⟩
  obtain ⟨ad, had⟩ := Classical.axiomOfChoice (zcls_known hts)
  obtain ⟨cA, hcA⟩ := Classical.axiomOfChoice (zarr_known hts0)
  refine ⟨(s.heap.size, (fun i => if i = 0 then b else if i = 1 then adK 0 else adV 0), vz, ((fun k => (ad k).1), (fun k => (ad k).2)), cA, (L, xs)), rfl, rfl, rfl, ?_⟩
  refine ⟨⟨fun k r hr => had k r hr, fun k q hq => ?_⟩, Nat.le_refl _, hbl, hX, ⟨fun i hi => ?_, fun i j hi hj _ => by omega⟩, hZ0, hZ1, ⟨hR, va_AO.of (A := #[Value.ref b]) (hts0 _ (by decide +kernel)), va_AO.of (A := #[Value.ref b]) (hts0 _ (by decide +kernel)), (show (Cond.arrayOver (.array .long)).before #[] s = true from hts0 (.arrayOver (.array .long)) (by decide +kernel))⟩, hvz⟩
  · unfold ztys at hq
    rw [List.getElem?_map] at hq
    obtain ⟨t, ht, hq⟩ := Option.map_eq_some_iff.mp hq
    subst hq
    exact hcA t (List.mem_of_getElem? ht)
  · have := hvS.1 0 (by decide)
    rw [show i = 0 by omega]
    exact this
theorem zP_law : zP[415]? = some zr_415 := by rfl
set_option maxHeartbeats 4000000 in
theorem whole_start {p : Program} {e : Env} {s : State} {m : MethodId} {below : List Frame} {meth : Method} {c : Code} (l : Launch) {b L : Nat} {xs : Nat → Int32} (hL : L ≤ 3072) (C0 : lw_At p s m meth c b L xs) : W p l e room_1 s m #[Value.ref b] below meth c s.heap [] 0 0 (lw_Z below #[Value.ref b] s) (entryFrame m ([Value.ref b] : List Value).toArray 4) := by
  obtain ⟨hx, hb, hr, hml, hown, hts0, hX, hbl, hlocks, hgv⟩ := id C0
  have hts : ∀ w ∈ zwl, w.before #[Value.ref b] s = true := fun w hw => hts0 w (List.mem_filter.mp hw).1
  obtain ⟨w, hw1, hw2, hw3, hU⟩ := zworld hts0 hX hbl hgv
  obtain ⟨h', hcall, hc, hs⟩ := ztarget L xs hL
  obtain ⟨n, hn⟩ := zexec_some.mp hcall
  have hz : w.2.2.1.category = 1 := hU.2.2.2.2.2.2.2.2
  have hvs : zvs w [.ref 0] = [.ref b] := by
    show [Value.ref (zad w 0)] = _
    rw [show zad w 0 = w.2.1 0 from rfl, hw2]
  have hl := lv_entry ([.ref b]) (n := 4) (Nat.le_of_ble_eq_true rfl)
  rw [lg_entry_eq]
  generalize (lg_sl ([.ref b]) ++ List.replicate (4 - (lg_sl ([.ref b])).length) Slot.unset).toArray = ls at hl ⊢
  rw [← hvs] at hl
  have hPic : zPic w (z0 L xs) s.heap := by
    refine ⟨fun k q hq => ?_, Nat.le_refl _, fun a ha => ?_, ?_, rfl, rfl⟩
    · have : zws w (z0 L xs) = [] := rfl
      rw [this] at hq
      cases hq
    · have ha : 3 ≤ a := ha
      show (if a = 0 then _ else if a = 1 then _ else if a = 2 then _ else zdum) = zdum
      rw [if_neg (by omega), if_neg (by omega), if_neg (by omega)]
    · rw [hw3]
      rfl
  refine zsim l w n 60 415 0 _ [] (z0 L xs) _ hn p e room_1 s m #[Value.ref b] below meth c s.heap [] 0 0 _ code zr_415 ls ⟨hx, hb, hml, hown, hts, zP_law, rfl, fun q => absurd q (by decide), hU⟩ zk_law (zent_len zP_law (by decide +kernel)) (zent_has w hz hl) hPic va_S.rf (by rw [hw1]; rfl) (by decide) (by decide) (by show 0 + (h'.1 - 3) ≤ 600000; omega) (by show 0 + (h'.2.1 - 0) ≤ 7302250; omega) ?_
  intro pc' i st' ls' H' locs' hd hret hP' hS'
  refine va_forget (fun q hq => ?_) ?_
  · have := hS'.2.2 q hq
    unfold zA at this
    rw [hw1] at this
    exact this
  refine W.widen (k := 600000) (n := 7302250) (by show 0 + (h'.1 - 3) ≤ 600000; omega) (by show 0 + (h'.2.1 - 0) ≤ 7302250; omega) ?_
  cases i
  case ireturn =>
    simp only [zretn] at hret
    split at hret
    · next ty v hty =>
      split at hret
      · have hv : v = 1 := by
          have := Option.some.inj hret
          cases this
          rfl
        subst hv
        exact lw_ret hx hb hr hlocks hd
      · cases hret
    · cases hret
  case lreturn =>
    simp only [zretn] at hret
    split at hret
    · cases hret
    · cases hret
  case return_ =>
    simp only [zretn] at hret
    split at hret
    · cases hret
    · cases hret
  all_goals cases hret
-- ===== YOUR PART ENDS =====
set_option maxHeartbeats 4000000 in
theorem lw_walk (l : Launch) (b : Addr) (xs : List Int32) : MetFree l x (headSpec (Jvm.Cond.code x code maxLocals ret :: tables_1) room_1) (lw_P b xs) (fun _ _ _ _ _ => True) lw_Q := by
  refine MetFree.of_bodyS (code := code) (maxLocals := maxLocals) (ret := ret) (by decide) ?_ ?_
  · intro args s m h hn
    obtain ⟨meth, c, h1, h2, h3, h4, h5, h6, -, -⟩ := Cond.code_spec hn (atoms_spec (ws := Jvm.Cond.code x code maxLocals ret :: tables_1) h _ List.mem_cons_self)
    exact ⟨meth, c, h1, h2, h3, h4, h5, h6⟩
  · intro p e s m args below meth c s₁ B hml0 hP _
    obtain ⟨rfl, hx, hbd, hgv⟩ := hP
    obtain ⟨scr, harrAt, hlist, hof, hsmall⟩ := hx
    obtain ⟨hcb, hkn, -, -⟩ := State.arrayAt?_spec harrAt
    have hown : s.vm.findClass R_law = some m.cls := findClass_of_methodNamed B.named
    have hts0 : ∀ c ∈ (Jvm.Cond.code x code maxLocals ret :: tables_1), c.before #[Value.ref b] s = true := atoms_spec (ws := Jvm.Cond.code x code maxLocals ret :: tables_1) B.pre
    have hts : ∀ w ∈ lw_tbl, w.before #[Value.ref b] s = true := k2_hts_sels lw_privs (fun w hw => hts0 w (List.mem_cons_of_mem _ hw)) lw_privs_ok
    have hml : c.maxLocals = 4 := B.maxLocals_eq (hts0 _ List.mem_cons_self)
    have X₀ : Stand p l e room_1 s m #[Value.ref b] below meth c s₁ [] 0 0 := Stand.of_body B
    have hh0 : s₁.heap = s.heap := by rw [B.state]; rfl
    have hsz : scr.slots.size = xs.length := by rw [← Array.length_toList, hlist, List.length_map]
    have hval : ∀ j : Nat, j < xs.length → scr.slots[j]? = some (.int (xs.getD j 0)) := fun j hj => by
      rw [← Array.getElem?_toList, hlist]
      simp [hj]
    have hbl : b < s.heap.size := (Array.getElem?_eq_some_iff.mp hcb).1
    have hX : va_X b xs.length (fun j => xs.getD j 0) s s.heap := ⟨scr, hcb, hof, hkn, hsz, hval⟩
    have K : W p l e room_1 s m #[Value.ref b] below meth c s₁.heap [] 0 0 (lw_Z below #[Value.ref b] s) (entryFrame m ([Value.ref b] : List Value).toArray 4) := by
      rw [hh0]
      exact whole_start l hbd ⟨B.exec, B.bytes, B.returns, hml, hown, hts, hX, hbl, B.notSynchronized, hgv⟩
    obtain ⟨t, a1, o, b1, b2, b3⟩ := K s₁ rfl X₀
    exact ⟨t, o, a1, b1, b2, b3⟩
theorem lw_pre_spec {args : Array Value} {s : State} (h : (Jvm.Cond.and given_1 narrow_1).before args s = true) (hr : rest_1_c.before args s = true) : ∃ (b : Addr) (xs : List Int32), lw_P b xs args s := by
  have hs := flat_of_before _ h
  have hq := flat_of_before _ hr
  have hc : (Cond.count 1).before args s = true := hs _ (by decide +kernel)
  have harr : (Cond.arrayOf (.arg 0) .int).before args s = true := hs _ (by decide +kernel)
  have hle : (Cond.le (.length (.arg 0)) (.int 3072)).before args s = true := hs _ (by decide +kernel)
  have hlen : (Cond.isInt (.length (.arg 0))).before args s = true := hq _ (by decide +kernel)
  have hall : (Cond.all (.arg 0) (.isInt (.elem (.arg 0) (.index 0)))).before args s = true := hq _ (by decide +kernel)
  obtain ⟨b, xs, hb, hx⟩ := State.ints_of_pre rfl harr hlen hall
  have hsm : xs.length < 2 ^ 31 := hx.choose_spec.2.2.2
  have hev : (Term.length (.arg 0)).eval args s none [] s = some (.int xs.length.toInt32) := hx.length_eval hb
  have hv := Cond.le_ints hev (show (Term.int 3072).eval args s none [] s = some (.int 3072) from rfl)
  have hd : xs.length.toInt32 ≤ 3072 := by
    simpa [Cond.before, Cond.holds, hv] using hle
  have hN : xs.length ≤ 3072 := (Int32.ofNat_le_ofNat hsm (by decide)).mp (show Int32.ofNat xs.length ≤ Int32.ofNat 3072 from hd)
  exact ⟨b, xs, Cond.one_arg hc (show args[0]? = some (.ref b) from hb), hx, hN, h⟩
theorem lw_comes (l : Launch) : Comes l x (Jvm.Cond.code x code maxLocals ret :: tables_1) room_1 (fun tb e args s => Calls_1 tb e args s ∧ rest_1 tb e args s ∧ Pre_1 tb e args s)
    (fun _ _ args s o t => lw_Q args s o t) := by
  intro p e ha hc hk s m args below hf hfit hheap happ hpre
  obtain ⟨b, xs, hP⟩ := lw_pre_spec hpre.2.2 hpre.2.1
  obtain ⟨k, o, h1, h2, h3, hQ⟩ := lw_walk l b xs p e ha hc hk s m args below hf ((Spec.applies_iff_loose hf).mp happ).1 hP trivial
  exact ⟨k, o, h1, h2, h3, hQ⟩
theorem lw_frame {s t : State} {o : Outcome} {args : Array Value} (h : Framed s o t [] 600000 7302250) :
    Framed s o t (fieldLocs frame_1_writes args s ++ arrayLocs frame_1_arrays args s ++ staticLocs frame_1_statics s) 600000 7302250 := h
theorem lw_limb (L : Cond) (hL : ∀ (args : Array Value) (s t : State), L.after args s (.returned (some (.int 1))) t = true) :
    ArmFor flags0 classFile x code maxLocals ret World_1 tables_1 room_1 Calls_1 rest_1 Pre_1
      (fun tb e a s o t => postC L tb e a s o t ∧ Framed s o t (fieldLocs frame_1_writes a s ++ arrayLocs frame_1_arrays a s ++ staticLocs frame_1_statics s) 600000 7302250) := by
  intro l _ _ _ p e ha hc hk s m args below hf hfit hheap happ hpre
  obtain ⟨k, o, h1, h2, h3, rfl, hF⟩ := lw_comes l p e ha hc hk s m args below hf hfit hheap happ hpre
  exact ⟨k, _, h1, h2, h3, hL args s _, lw_frame hF⟩
theorem i_vc : Claimed_1_1 ∧ Claimed_1_2 := ⟨lw_limb limb_1_1 (fun args s t => by simp [limb_1_1, Cond.after, Cond.holds, Cond.value]), lw_limb limb_1_2 (fun args s t => Cond.after_iff.mpr (by
  first | (rw [show limb_1_2 = Cond.eq .result (.int 1) from rfl, Cond.eq_ints (x := 1) (y := 1) rfl rfl]; simp; done) | (simp [limb_1_2, Cond.value, Term.eval]; done)))⟩
