theorem zheap_mono {y : Nat} {i : Instr} {st st' : List Value} {h h' : zH} (he : zheap y i st h = some (st', h')) : h.1 ≤ h'.1 ∧ h.2.1 ≤ h'.2.1 := by
  have e1 := fun a k v => zpf_n h a k v
  have e2 := fun a k v => zpi_n h a k v
  have e3 := fun a k v => zpl_n h a k v
  have e4 := fun a k v => zpa_n h a k v
  have e5 := fun a b i j k => zcpi_n h a b i j k
  have e6 := fun a b i j k => zcpl_n h a b i j k
  unfold zheap at he
  repeat' split at he
  all_goals first
    | (cases he; done)
    | (obtain ⟨v, hv, hq⟩ := Option.map_eq_some_iff.mp he; cases hq; exact ⟨Nat.le_refl _, Nat.le_refl _⟩)
    | (cases he; exact ⟨Nat.le_refl _, Nat.le_refl _⟩)
    | (cases he; simp only [e1, e2, e3, e4, e5, e6]; exact ⟨Nat.le_refl _, Nat.le_refl _⟩)
    | (cases he; simp only [znew, znewi, znewl, znewa, znewg]; exact ⟨Nat.le_add_right _ _, Nat.le_add_right _ _⟩)
theorem zrun_mono : ∀ (n d y pc : Nat) (L : zL) (st : List Value) (h : zH) (r : Option Value × zH), zrun n d y pc L st h = some r → h.1 ≤ r.2.1 ∧ h.2.1 ≤ r.2.2.1 := by
  intro n
  induction n with
  | zero => intro d y pc L st h r e; cases e
  | succ n ih =>
    intro d y pc L st h r e
    rw [zrun] at e
    split at e
    · cases e
    · next i len ha =>
      split at e
      · cases e
      · next q hs =>
        have h1 := ih _ _ _ _ _ _ _ e
        unfold zstep at hs
        split at hs
        · cases hs; exact h1
        · split at hs
          · cases hs; exact h1
          · split at hs
            · cases hs; exact h1
            · split at hs
              · next hh => cases hs; have h2 := zheap_mono hh; exact ⟨Nat.le_trans h2.1 h1.1, Nat.le_trans h2.2 h1.2⟩
              · split at hs
                · cases hs
                · split at hs <;> cases hs
      · next q hs =>
        unfold zstep at hs
        split at hs
        · cases hs
        · split at hs
          · cases hs
          · split at hs
            · cases hs
            · split at hs
              · cases hs
              · split at hs
                · cases hs; cases e; exact ⟨Nat.le_refl _, Nat.le_refl _⟩
                · split at hs <;> cases hs
      · next q hs =>
        split at e
        · cases e
        · split at e
          · cases e
          · next r1 hr1 =>
            have h1 := ih _ _ _ _ _ _ _ hr1
            have h2 := ih _ _ _ _ _ _ _ e
            exact ⟨Nat.le_trans h1.1 h2.1, Nat.le_trans h1.2 h2.2⟩
/-! a call's start and end -/
def zPc (w : zG) (As : List Value) (h : zH) : Array Value → State → Prop := fun a U => a = (zvs w As).toArray ∧ zPic w h U.heap ∧ zU w U U.heap ∧ U.heap.size = w.1 + (h.1 - 3)
def zQc (w : zG) (r : Option Value × zH) : Array Value → State → Outcome → State → Prop := fun _ st o t => o = .returned (r.1.map (zv w)) ∧ zPic w r.2 t.heap ∧ st.heap.size ≤ t.heap.size ∧ ∀ x, x < st.heap.size → ¬ zA w x → t.heap[x]? = st.heap[x]?
theorem zU_same {w : zG} {U U' : State} {H : Heap} (hv : U'.vm = U.vm) (h : zU w U H) : zU w U' H := by
  obtain ⟨h1, h2, h3, h4, h5, h6, h7, ⟨⟨tx, h8⟩, a1, a2, a3⟩, h9⟩ := h
  have al : U.vm.Alike U'.vm := by rw [hv]; exact Vm.Alike.refl U.vm
  exact ⟨va_K.moved al h1, h2, h3, va_X.moved al h4, vk_S.moved al h5, va_Z.moved al h6, va_Z.moved al h7, ⟨⟨tx, vk_R.same hv h8⟩, va_AO.moved al a1, va_AO.moved al a2, zAOA_moved al a3⟩, h9⟩
theorem zU_at {w : zG} {s U : State} {H : Heap} {locs : List Loc} (h : zU w s s.heap) (hS : va_S (zA w) s.heap H locs) (hW : s.WarmedH U.vm) : zU w U H := by
  obtain ⟨h1, h2, h3, h4, h5, h6, h7, ⟨⟨tx, h8⟩, a1, a2, a3⟩, h9⟩ := h
  have al := hW.alike
  have hb : w.2.1 0 < s.heap.size := Nat.lt_of_lt_of_le h3 h2
  exact ⟨va_K.moved al h1, Nat.le_trans h2 hS.1, h3, (va_X.moved al h4).kept (hS.2.1 _ hb (Nat.not_le.mpr h3)), (vk_S.moved al h5).kept hS.2.1, (va_Z.moved al h6).kept hS.2.1, (va_Z.moved al h7).kept hS.2.1, ⟨⟨tx, vk_R.warm hW h8⟩, va_AO.moved al a1, va_AO.moved al a2, zAOA_moved al a3⟩, h9⟩
theorem zblind (w : zG) (As : List Value) (h : zH) : FrameBlind (zPc w As h) := fun a U g mk q => ⟨q.1, q.2.1, zU_same rfl q.2.2.1, q.2.2.2⟩
theorem zargs_mem (w : zG) (hz : w.2.2.1.category = 1) : ∀ (As : List Value) (k j : Nat) (x : Value), (zargs As)[j]? = some (some x) → (k + j, zv w x) ∈ lv_args k (zvs w As)
  | [], k, j, x, h => by simp [zargs] at h
  | v :: As, k, j, x, h => by
    by_cases hc : v.category = 2
    · have e : zargs (v :: As) = some v :: none :: zargs As := by cases v <;> first | rfl | (cases hc)
      rw [e] at h
      show (k + j, zv w x) ∈ (k, zv w v) :: lv_args (if (zv w v).category = 2 then k + 2 else k + 1) (zvs w As)
      rw [if_pos ((zv_cat hz v).trans hc)]
      match j, h with
      | 0, h => simp at h; subst h; exact List.mem_cons_self
      | 1, h => simp at h
      | j + 2, h =>
        refine List.mem_cons_of_mem _ ?_
        rw [show k + (j + 2) = k + 2 + j by omega]
        exact zargs_mem w hz As (k + 2) j x (by simpa using h)
    · have e : zargs (v :: As) = some v :: zargs As := by cases v <;> first | rfl | (exact absurd rfl hc)
      rw [e] at h
      show (k + j, zv w x) ∈ (k, zv w v) :: lv_args (if (zv w v).category = 2 then k + 2 else k + 1) (zvs w As)
      rw [if_neg (fun q => hc ((zv_cat hz v).symm.trans q))]
      match j, h with
      | 0, h => simp at h; subst h; exact List.mem_cons_self
      | j + 1, h =>
        refine List.mem_cons_of_mem _ ?_
        rw [show k + (j + 1) = k + 1 + j by omega]
        exact zargs_mem w hz As (k + 1) j x (by simpa using h)
theorem zargs_len (w : zG) (hz : w.2.2.1.category = 1) : ∀ (As : List Value), (lg_sl (zvs w As)).length = (zargs As).length
  | [] => rfl
  | v :: As => by
    have ih := zargs_len w hz As
    by_cases hc : v.category = 2
    · have e : zargs (v :: As) = some v :: none :: zargs As := by cases v <;> first | rfl | (cases hc)
      rw [e]
      show (lg_sl (zv w v :: zvs w As)).length = _
      unfold lg_sl at ih ⊢
      rw [List.flatMap_cons, if_pos ((zv_cat hz v).trans hc), List.length_append, ih]
      simp only [List.length_cons, List.length_nil]
      omega
    · have e : zargs (v :: As) = some v :: zargs As := by cases v <;> first | rfl | (exact absurd rfl hc)
      rw [e]
      show (lg_sl (zv w v :: zvs w As)).length = _
      unfold lg_sl at ih ⊢
      rw [List.flatMap_cons, if_neg (fun q => hc ((zv_cat hz v).symm.trans q)), List.length_append, ih]
      simp [Nat.add_comm]
theorem zent_len {y : Nat} {q : zMr} (hq : zP[y]? = some q) {As : List Value} (h : (zargs As).length ≤ zml y) : (zent y As).length = q.1.2.2.1 := by
  have e : zml y = q.1.2.2.1 := by simp [zml, hq]
  unfold zent
  rw [List.length_append, List.length_replicate, ← e]
  omega
theorem zent_has (w : zG) (hz : w.2.2.1.category = 1) {y n : Nat} {As : List Value} {ls : Array Slot} (h : lv_has ls n (lv_args 0 (zvs w As))) : lv_has ls n (zas w (zent y As)) := by
  refine zlv_sub h (fun q hq => ?_)
  obtain ⟨x, hx, hq2⟩ := zas_mem.mp hq
  obtain ⟨j, u⟩ := q
  dsimp only at hx hq2
  subst hq2
  unfold zent at hx
  rcases Nat.lt_or_ge j (zargs As).length with g | g
  · rw [List.getElem?_append_left g] at hx
    have := zargs_mem w hz As 0 j x hx
    rwa [Nat.zero_add] at this
  · rw [List.getElem?_append_right g, List.getElem?_replicate] at hx
    split at hx <;> cases hx
theorem zMet_ofW {l : Launch} {y : MethodName} {ws ws' : List Cond} {rm : Room} {Pc : Array Value → State → Prop} {Qc : Array Value → State → Outcome → State → Prop} {mc ms : Nat} {free : Addr → Prop} {cc : ByteArray} {maxL : Nat} {ret : Option FieldType}
    (hy : plainFor y = true) (hw : ws = Cond.code y cc maxL ret :: ws')
    (body : ∀ p e s m args below meth c s₁, BodyLoose p l y (headSpec ws rm) cc maxL ret e s m args below meth c s₁ → c.maxLocals = maxL → Pc args s →
      W p l e (headSpec ws rm).room s m args below meth c s.heap [] 0 0 (MQ below Qc args s mc ms free) (entryFrame m args maxL)) : Met l y ws rm Pc Qc mc ms free := by
  refine MetFree.of_bodySF (code := cc) (maxLocals := maxL) (ret := ret) hy ?_ ?_
  · intro args s m h hn
    obtain ⟨meth, c, h1, h2, h3, h4, h5, h6, -, -⟩ := Cond.code_spec hn (atoms_spec (ws := ws) h _ (by rw [hw]; exact List.mem_cons_self))
    exact ⟨meth, c, h1, h2, h3, h4, h5, h6⟩
  · intro p e s m args below meth c s₁ B hml hP _
    have hh0 : s₁.heap = s.heap := by rw [B.state]; rfl
    obtain ⟨t, a1, o, b1, b2, b3⟩ := body p e s m args below meth c s₁ B hml hP s₁ hh0 (Stand.of_body B)
    exact ⟨t, o, a1, b1, b2, ⟨b3.1, b3.2⟩⟩
/-- what is claimed of a run of n steps: the machine does it -/
def zSim (l : Launch) (w : zG) (n : Nat) : Prop := ∀ (d y pc : Nat) (L : zL) (st : List Value) (h : zH) (r : Option Value × zH), zrun n d y pc L st h = some r →
  ∀ (p : Program) (e : Env) (R : Room) (s : State) (m : MethodId) (args : Array Value) (below : List Frame) (meth : Method) (c : Code) (H : Heap) (locs : List Loc) (cells slots : Nat) (Q : State → Prop) (cc : ByteArray) (q : zMr) (ls : Array Slot), zCx w p s m args meth c cc y q → zchk cc q.2 = true → L.length = q.1.2.2.1 → lv_has ls q.1.2.2.1 (zas w L) → zPic w h H → va_S (zA w) s.heap H locs → s.heap.size + cells = w.1 + (h.1 - 3) → d + 1 ≤ R.frames → 40 * d + 60 ≤ R.locals → cells + (r.2.1 - h.1) ≤ R.cells → slots + (r.2.2.1 - h.2.1) ≤ R.slots →
  (∀ (pc' : Nat) (i : Instr) (st' : List Value) (ls' : Array Slot) (H' : Heap) (locs' : List Loc), decode cc pc' = .ok (i, 1) → zretn y i st' = some r.1 → zPic w r.2 H' → va_S (zA w) s.heap H' locs' → W p l e R s m args below meth c H' locs' (cells + (r.2.1 - h.1)) (slots + (r.2.2.1 - h.2.1)) Q (F0 m pc' ls' (zvs w st'))) →
  W p l e R s m args below meth c H locs cells slots Q (F0 m pc ls (zvs w st))
theorem zrow_out {q : zMr} (h : zrowE q) : ∃ b, Cond.code q.1.2.1 b q.1.2.2.1 q.1.2.2.2.1 ∈ zwl ∧ zchk b q.2 = true ∧ Cond.initialized q.1.2.1.cls ∈ zwl ∧ (q.1.2.2.2.2.1 = true → Cond.static q.1.2.1 ∈ zwl) ∧ (q.1.2.2.2.2.1 = false → Cond.instanceMethod q.1.2.1 ∈ zwl ∧ (q.1.2.1.name ≠ "<init>" → Cond.selects q.1.2.1.cls q.1.2.1 q.1.2.1 ∈ zwl)) ∧ q.1.2.2.1 ≤ 21 ∧ zOn[q.1.1]? = some q.1.2.1.cls ∧ plainFor q.1.2.1 = true ∧ q.1.2.1.cls ≠ "java/lang/invoke/MethodHandle" ∧ q.1.2.1.cls ≠ "java/lang/invoke/VarHandle" ∧ (parseMethodDescriptor q.1.2.1.desc).map (fun d => d.parameters.length) = some q.1.2.2.2.2.2 := by
  obtain ⟨p1, p2, p3, p4, h⟩ := h
  unfold zrow at h
  simp only [Bool.and_eq_true, decide_eq_true_eq] at h
  obtain ⟨⟨⟨⟨⟨⟨⟨⟨h1, h2⟩, h3⟩, h4⟩, h5⟩, h6⟩, h7⟩, h8⟩, h9⟩ := h
  split at h1
  · next y b m r hc =>
    simp only [Bool.and_eq_true, decide_eq_true_eq] at h1
    obtain ⟨⟨⟨rfl, rfl⟩, rfl⟩, hk⟩ := h1
    refine ⟨b, zwm hc rfl, hk, zwm h2 rfl, fun hs => ?_, fun hs => ?_, h4, h5, h6, h7, h8, h9⟩
    · rw [if_pos hs] at h3
      exact zwm (of_decide_eq_true h3) rfl
    · rw [if_neg (by rw [hs]; decide)] at h3
      simp only [Bool.and_eq_true, Bool.or_eq_true, decide_eq_true_eq, beq_iff_eq] at h3
      exact ⟨zwm h3.1 rfl, fun hn => zwm (h3.2.resolve_left hn) rfl⟩
  · cases h1
set_option maxHeartbeats 4000000 in
theorem zmet {l : Launch} {w : zG} {n d y : Nat} {As : List Value} {h : zH} {r : Option Value × zH} {q : zMr} {b : ByteArray} (IH : zSim l w n) (hrun : zrun n d y 0 (zent y As) [] h = some r) (hq : zP[y]? = some q) (hpl : plainFor q.1.2.1 = true) (hck : zchk b q.2 = true) (hon : zOn[q.1.1]? = some q.1.2.1.cls) (hlen : (zargs As).length ≤ zml y) :
    Met l q.1.2.1 (.code q.1.2.1 b q.1.2.2.1 q.1.2.2.2.1 :: zwl) { frames := d + 1, cells := r.2.1 - h.1, slots := r.2.2.1 - h.2.1, locals := 40 * d + 60 } (zPc w As h) (zQc w r) (r.2.1 - h.1) (r.2.2.1 - h.2.1) (zA w) := by
  refine zMet_ofW (cc := b) (maxL := q.1.2.2.1) (ret := q.1.2.2.2.1) hpl rfl ?_
  intro p e s m args below meth c s₁ B hml hv
  obtain ⟨rfl, hPic, hU, hsz⟩ := hv
  have hx := B.exec
  have hb := B.bytes
  have hr := B.returns
  have hts := atoms_spec (ws := .code q.1.2.1 b q.1.2.2.1 q.1.2.2.2.1 :: zwl) B.pre
  have hown : s.vm.findClass q.1.2.1.cls = some m.cls := findClass_of_methodNamed B.named
  have hlocks := B.notSynchronized
  have hin : meth.name = q.1.2.1.name := (name_of_methodNamed B.named B.method).1
  have hz : w.2.2.1.category = 1 := hU.2.2.2.2.2.2.2.2
  have hml2 : zml y = q.1.2.2.1 := by simp [zml, hq]
  have hl := lv_entry (zvs w As) (n := q.1.2.2.1) (by rw [zargs_len w hz, ← hml2]; exact hlen)
  rw [lg_entry_eq]
  generalize (lg_sl (zvs w As) ++ List.replicate (q.1.2.2.1 - (lg_sl (zvs w As)).length) Slot.unset).toArray = ls at hl ⊢
  have hrt : zrt y = q.1.2.2.2.1 := by simp [zrt, hq]
  refine IH d y 0 (zent y As) [] h r hrun p e _ s m _ below meth c s.heap [] 0 0 _ b q ls ⟨hx, hb, hml, hown, fun x hx => hts x (List.mem_cons_of_mem _ hx), hq, hon, fun e => hin.trans e, hU⟩ hck (zent_len hq hlen) (zent_has w hz hl) hPic va_S.rf (by rw [hsz]; rfl) (Nat.le_refl _) (Nat.le_refl _) (Nat.le_of_eq (Nat.zero_add _)) (Nat.le_of_eq (Nat.zero_add _)) ?_
  intro pc' i st' ls' H' locs' hd hret hP' hS'
  rw [Nat.zero_add, Nat.zero_add]
  have hQ : ∀ (v : Option Value), r.1 = v → ∀ t : State, t.heap = H' → s.WarmedH t.vm → zQc w r (zvs w As).toArray s (.returned (v.map (zv w))) t := fun v hv t ht _ => by
    subst hv
    refine ⟨rfl, by rw [ht]; exact hP', by rw [ht]; exact hS'.1, fun x h1 h2 => by rw [ht]; exact hS'.2.1 x h1 h2⟩
  cases i
  case ireturn =>
    simp only [zretn] at hret
    split at hret
    · next ty v hty =>
      split at hret
      · next hf =>
        have hr1 : r.1 = some (.int v) := (Option.some.inj hret).symm
        rw [hrt] at hty
        exact W.zret hx hb (hr.trans hty) (znar_fit hf w).1 (hQ _ hr1) hS'.2.2 hd hlocks
      · cases hret
    · cases hret
  case lreturn =>
    simp only [zretn] at hret
    split at hret
    · next v hty =>
      have hr1 : r.1 = some (.long v) := (Option.some.inj hret).symm
      rw [hrt] at hty
      exact W.lret hx hb (hr.trans hty) (hQ _ hr1) hS'.2.2 hd hlocks
    · cases hret
  case return_ =>
    simp only [zretn] at hret
    split at hret
    · next hty =>
      have hr1 : r.1 = none := (Option.some.inj hret).symm
      rw [hrt] at hty
      exact W.vret hx hb (hr.trans hty) (hQ _ hr1) hS'.2.2 hd hlocks
    · cases hret
  all_goals cases hret
section ZB
variable {p : Program} {l : Launch} {e : Env} {R : Room} {s : State} {m : MethodId} {args : Array Value} {below : List Frame} {meth : Method} {c : Code} {H : Heap} {locs : List Loc} {cells slots : Nat} {Q : State → Prop} {cc : ByteArray} {pc : Nat} {ls : Array Slot} {w : zG} {y : Nat} {q : zMr} {h : zH} {rest : List Value}
theorem zs_back {r : Option Value × zH} {mc ms : Nat} {st0 rest : List Value} {a : Array Value} (hr : va_Run p l e R s m args below meth c H locs cells slots mc ms (F0 m pc ls st0) rest (zQc w r a) (zA w)) (hS : va_S (zA w) s.heap H locs)
    (kk : ∀ (H1 : Heap) (locs1 : List Loc), zPic w r.2 H1 → va_S (zA w) s.heap H1 locs1 → W p l e R s m args below meth c H1 locs1 (cells + mc) (slots + ms) Q (F0 m (pc + 3) ls ((r.1.map (zv w)).toList ++ rest))) : W p l e R s m args below meth c H locs cells slots Q (F0 m pc ls st0) := by
  intro T hT X
  obtain ⟨v, st₀, t, T', L, h0, X', hL, e1, e2, ⟨hv, hP, hz, hk⟩, st⟩ := hr T hT X
  cases hv
  rw [h0] at hz hk
  obtain ⟨t2, a1, b1⟩ := kk T'.heap (locs ++ L) (by rw [e1]; exact hP) ⟨Nat.le_trans hS.1 (by rw [e1]; exact hz), fun x h1 h2 => by rw [e1, hk x (Nat.lt_of_lt_of_le h1 hS.1) h2]; exact hS.2.1 x h1 h2, fun x hx => by
      rcases List.mem_append.mp hx with g | g
      · exact hS.2.2 x g
      · exact hL x g⟩ T' rfl X'
  exact ⟨t2, st t2 a1, b1⟩
end ZB
theorem zgoodIn {ws : List Cond} (h : ∀ x ∈ ws, x ∈ zwl) : GoodIn zwl ws := fun x hx => ⟨h x hx, good_of_word (List.mem_filter.mp (h x hx)).2⟩
theorem zret_list (w : zG) (v : Option Value) (rest : List Value) : (v.map (zv w)).toList ++ zvs w rest = zvs w (v.toList ++ rest) := by cases v <;> rfl
set_option maxHeartbeats 8000000 in
theorem zsim (l : Launch) (w : zG) : ∀ n, zSim l w n := by
  intro n
  induction n with
  | zero => intro d y pc L st h r e; cases e
  | succ n IH =>
    intro d y pc L st h r hrun p e R s m args below meth c H locs cells slots Q cc q ls X hck hL hv hPic hS hcl hRf hRl hcells hslots fin
    have hz : w.2.2.1.category = 1 := X.2.2.2.2.2.2.2.2.2.2.2.2.2.2.2.2
    obtain ⟨hx, hb, hml, hown, hts, hq, hon, hnm, hU⟩ := id X
    have hmono := zrun_mono _ _ _ _ _ _ _ _ hrun
    rw [zrun] at hrun
    split at hrun
    · cases hrun
    · next i len ha =>
      have hat : q.2.lookup pc = some (i, len) := by simpa [zat, hq] using ha
      obtain ⟨hd, hl⟩ := zchk_at hck hat
      split at hrun
      · cases hrun
      · next o hs =>
        unfold zstep at hs
        split at hs
        · next st' hp =>
          cases hs
          exact zs_pure hz hx hb hd hl hp (IH _ _ _ _ _ _ _ hrun _ _ _ _ _ _ _ _ _ _ _ _ _ _ _ _ _ X hck hL hv hPic hS hcl hRf hRl hcells hslots fin)
        · split at hs
          · next L' st' hp =>
            cases hs
            exact zs_loc hz hx hb hd hl hp hL hv (fun ls' hL' hv' => IH _ _ _ _ _ _ _ hrun _ _ _ _ _ _ _ _ _ _ _ _ _ _ _ _ _ X hck hL' hv' hPic hS hcl hRf hRl hcells hslots fin)
          · split at hs
            · next pc' st' hp =>
              cases hs
              exact zs_jmp hx hb hd hl hp (IH _ _ _ _ _ _ _ hrun _ _ _ _ _ _ _ _ _ _ _ _ _ _ _ _ _ X hck hL hv hPic hS hcl hRf hRl hcells hslots fin)
            · split at hs
              · next st' h' hp =>
                cases hs
                have m1 := zheap_mono hp
                have m2 := zrun_mono _ _ _ _ _ _ _ _ hrun
                dsimp only at m2 hrun
                refine zs_heap X hd hl hp hPic hS hcl (hv.1.trans hml.symm) ⟨by omega, by omega⟩ (by omega) (by omega) (fun H1 locs1 hP1 hS1 => ?_)
                have e1 : cells + (h'.1 - h.1) + (r.2.1 - h'.1) = cells + (r.2.1 - h.1) := by omega
                have e2 : slots + (h'.2.1 - h.2.1) + (r.2.2.1 - h'.2.1) = slots + (r.2.2.1 - h.2.1) := by omega
                have h3 := hPic.2.1
                exact IH _ _ _ _ _ _ _ hrun _ _ _ _ _ _ _ _ _ _ _ _ _ _ _ _ _ X hck hL hv hP1 hS1 (by omega) hRf hRl (by omega) (by omega) (by rw [e1, e2]; exact fin)
              · split at hs
                · cases hs
                · split at hs <;> cases hs
      · next o hs =>
        unfold zstep at hs
        split at hs
        · cases hs
        · split at hs
          · cases hs
          · split at hs
            · cases hs
            · split at hs
              · cases hs
              · split at hs
                · next r' hp =>
                  cases hs
                  cases hrun
                  have hl1 : len = 1 := by
                    cases i <;> first | exact zln_eq hl 1 rfl | cases hp
                  subst hl1
                  refine W.widen (k := cells + (h.1 - h.1)) (n := slots + (h.2.1 - h.2.1)) (by omega) (by omega) ?_
                  exact fin pc i st ls H locs hd hp hPic hS
                · split at hs <;> cases hs
      · next o hs =>
        split at hrun
        · cases hrun
        · next d' =>
          split at hrun
          · cases hrun
          · next r1 hr1 =>
            have m1 := zrun_mono _ _ _ _ _ _ _ _ hr1
            have m2 := zrun_mono _ _ _ _ _ _ _ _ hrun
            have hcal : zcal y i st h = some o := by
              unfold zstep at hs
              split at hs
              · cases hs
              · split at hs
                · cases hs
                · split at hs
                  · cases hs
                  · split at hs
                    · cases hs
                    · split at hs
                      · cases hs
                      · split at hs
                        · next hq2 => cases hs; exact hq2
                        · cases hs
            have hrest : ∀ (rest : List Value), rest.length ≤ 4 → 2 * (F0 m pc ls (zvs w st)).monitorRoom + ((zvs w rest).map fun v => v.category).sum ≤ 8 := fun rest hr => by
              rw [zvs_cat hz]
              have := zcat_le rest
              show 2 * 0 + _ ≤ 8
              omega
            have h3 := hPic.2.1
            have hw : w.1 ≤ H.size := Nat.le_trans hU.2.1 hS.1
            refine zW_size (fun hup => ?_)
            have hsz : H.size = w.1 + (h.1 - 3) := by
              have := zlow hPic hw
              omega
            have goOn : ∀ (H1 : Heap) (locs1 : List Loc), zPic w r1.2 H1 → va_S (zA w) s.heap H1 locs1 → W p l e R s m args below meth c H1 locs1 (cells + (r1.2.1 - h.1)) (slots + (r1.2.2.1 - h.2.1)) Q (F0 m (pc + 3) ls ((r1.1.map (zv w)).toList ++ zvs w o.2.2)) := fun H1 locs1 hP1 hS1 => by
              rw [zret_list]
              have e1 : cells + (r1.2.1 - h.1) + (r.2.1 - r1.2.1) = cells + (r.2.1 - h.1) := by omega
              have e2 : slots + (r1.2.2.1 - h.2.1) + (r.2.2.1 - r1.2.2.1) = slots + (r.2.2.1 - h.2.1) := by omega
              exact IH _ _ _ _ _ _ _ hrun _ _ _ _ _ _ _ _ _ _ _ _ _ _ _ _ _ X hck hL hv hP1 hS1 (by omega) hRf hRl (by omega) (by omega) (by rw [e1, e2]; exact fin)
            have pre : ∀ (As : List Value) (U : State), U.heap = H → s.WarmedH U.vm → zPc w As h (zvs w As).toArray U := fun As U hUh hUw => ⟨rfl, by rw [hUh]; exact hPic, by rw [hUh]; exact zU_at hU hS hUw, by rw [hUh]; exact hsz⟩
            have hlk : ∀ (ix k y' : Nat), (zMk.getD (zow y) []).lookup ix = some (k, y') → ∃ pp, zMok q.1.2.1.cls (ix, k, y') pp = true := fun ix k y' hk => by
              rw [zow_eq hq] at hk
              exact zMk_at _ _ hon _ (zlookup_mem hk)
            cases i
            case invokevirtual ix =>
              simp only [zcal] at hcal
              split at hcal
              · next y' hk =>
                split at hcal
                · next b r0 hdrop =>
                  split at hcal
                  · next hc =>
                    obtain ⟨hc1, hc2, hc3, hc4, hc5⟩ := hc
                    cases hcal
                    obtain ⟨pp, hp⟩ := hlk _ _ _ hk
                    simp only [zMok] at hp
                    split at hp
                    · next q' hq' =>
                      simp only [Bool.and_eq_true, decide_eq_true_eq, bne_iff_ne, Bool.not_eq_true', ne_eq] at hp
                      obtain ⟨⟨hp1, hp2⟩, hp3, hp4⟩ := hp
                      obtain ⟨b', c1, c2, c3, c4, c5, c6, c7, c8, c9, c10, c11⟩ := zrow_out (zkP q' (List.mem_of_getElem? hq') hp2)
                      have hM := zmet (b := b') IH hr1 hq' c8 c2 c7 hc5
                      have hst : zvs w st = (zvs w (st.take (zpn y')).reverse).reverse ++ .ref (zad w b) :: zvs w r0 := by
                        have e0 : st = st.take (zpn y') ++ .ref b :: r0 := by rw [← hdrop, List.take_append_drop]
                        have e1 : zvs w st = zvs w (st.take (zpn y')) ++ .ref (zad w b) :: zvs w r0 := by
                          rw [show zvs w st = zvs w (st.take (zpn y') ++ .ref b :: r0) by rw [← e0]]
                          unfold zvs
                          rw [List.map_append]
                          rfl
                        rw [e1]
                        unfold zvs
                        rw [List.map_reverse, List.reverse_reverse]
                      have hzpn : zpn y' = q'.1.2.2.2.2.2 := by simp [zpn, hq']
                      have hzow : zow y' = q'.1.1 := zow_eq hq'
                      have hrecv : ∃ cellB : Cell, H[zad w b]? = some cellB ∧ cellB.vm.isStatics = false ∧ s.vm.findClass q'.1.2.1.cls = some cellB.cls := by
                        rcases Nat.lt_or_ge (zow y') 13 with g | g
                        · obtain ⟨fs, hcb⟩ := zcls_own hc2 g
                          obtain ⟨g3, ga⟩ := zPic_obj hPic hcb g
                          have he := zws_get (w := w) g3 ga
                          rw [hcb] at he
                          obtain ⟨rr, hrr⟩ := zcl_lt g
                          have hn := zOn_cl _ _ hrr (fun q1 => by
                            have h1 := List.all_eq_true.mp zP_kin q' (List.mem_of_getElem? hq')
                            rw [← hzow, q1, hp3] at h1
                            revert h1
                            decide)
                          rw [hzow, c7] at hn
                          have hn : q'.1.2.1.cls = rr.1 := Option.some.inj hn
                          rw [hn]
                          exact va_recv hU.1 hPic.1 hrr he
                        · have hb1 : b = 1 := hc3.resolve_left (by omega)
                          subst hb1
                          have hc13 : zow y' = 13 := by
                            have e6 := hPic.2.2.2.2.1
                            rw [← hc2]
                            simp [zcls, e6]
                          rw [hzow] at hc13
                          rw [hc13] at c7
                          have hn : q'.1.2.1.cls = "java/lang/String" := (Option.some.inj c7).symm
                          rw [hn]
                          exact vk_recv hU.2.2.2.2.1 (i := 0) (by decide) hS
                      refine zs_back (mc := r1.2.1 - h.1) (ms := r1.2.2.1 - h.2.1) (va_runV (As := zvs w (st.take (zpn y')).reverse) (rest := zvs w r0) (b := zad w b) ⟨hx, hb, hml, hown, hts⟩ hM (cwV (n := q'.1.2.2.2.2.2) (C := q'.1.2.1.cls) hts (zgoodIn ?_) rfl rfl rfl ⟨rfl, c9, c10, c11⟩ ⟨by show d' + 1 + 1 ≤ R.frames; omega, by show 8 + (q'.1.2.2.1 + 11) + (40 * d' + 60) ≤ R.locals; omega⟩) ⟨zblind w _ h, hrecv, fun U hUh hUw => pre _ U hUh hUw⟩ rfl ?_ hv.1 hst (hrest r0 hc1) (by obtain rfl := zln_eq hl 3 rfl; exact hd) ⟨by omega, by omega⟩) hS goOn
                      · intro x hx
                        simp only [wsV, List.mem_append, List.mem_cons, List.not_mem_nil, or_false] at hx
                        rcases hx with (rfl | rfl | rfl | rfl) | rfl | hx
                        · exact zwm hp1 rfl
                        · exact (c5 hp3).1
                        · exact (c5 hp3).2 hp4
                        · exact c3
                        · exact c1
                        · exact hx
                      · unfold zvs
                        rw [List.length_map, List.length_reverse, hc4, hzpn]
                    · cases hp
                  · cases hcal
                · cases hcal
              · cases hcal
            case invokestatic ix =>
              simp only [zcal] at hcal
              split at hcal
              · next y' hk =>
                split at hcal
                · next hc =>
                  obtain ⟨hc1, hc2, hc5⟩ := hc
                  cases hcal
                  obtain ⟨pp, hp⟩ := hlk _ _ _ hk
                  simp only [zMok] at hp
                  split at hp
                  · next q' hq' =>
                    simp only [Bool.and_eq_true, decide_eq_true_eq, bne_iff_ne, ne_eq] at hp
                    obtain ⟨⟨hp1, hp2⟩, hp3⟩ := hp
                    obtain ⟨b', c1, c2, c3, c4, c5, c6, c7, c8, c9, c10, c11⟩ := zrow_out (zkP q' (List.mem_of_getElem? hq') hp2)
                    have hM := zmet (b := b') IH hr1 hq' c8 c2 c7 hc5
                    have hst : zvs w st = (zvs w (st.take (zpn y')).reverse).reverse ++ zvs w (st.drop (zpn y')) := by
                      unfold zvs
                      rw [List.map_reverse, List.reverse_reverse, ← List.map_append, List.take_append_drop]
                    have hzpn : zpn y' = q'.1.2.2.2.2.2 := by simp [zpn, hq']
                    refine zs_back (mc := r1.2.1 - h.1) (ms := r1.2.2.1 - h.2.1) (va_runS (As := zvs w (st.take (zpn y')).reverse) (rest := zvs w (st.drop (zpn y'))) ⟨hx, hb, hml, hown, hts⟩ hM ⟨callB_of q'.1.2.2.2.2.2 hts (zgoodIn ?_) rfl rfl rfl (hts _ c3) (hts _ (zwm hp1 rfl)) ⟨c9, c10, c11⟩ ⟨by show d' + 1 + 1 ≤ R.frames; omega, by show 8 + (q'.1.2.2.1 + 11) + (40 * d' + 60) ≤ R.locals; omega⟩, hts _ (c4 hp3)⟩ ⟨zblind w _ h, fun U hUh hUw => pre _ U hUh hUw⟩ rfl ?_ hv.1 hst (hrest _ hc2) (by obtain rfl := zln_eq hl 3 rfl; exact hd) ⟨by omega, by omega⟩) hS goOn
                    · intro x hx
                      simp only [List.mem_cons] at hx
                      rcases hx with rfl | hx
                      · exact c1
                      · exact hx
                    · unfold zvs
                      rw [List.length_map, List.length_reverse, List.length_take, Nat.min_eq_left hc1, hzpn]
                  · cases hp
                · cases hcal
              · cases hcal
            case invokespecial ix =>
              simp only [zcal] at hcal
              split at hcal
              · next y' hk =>
                split at hcal
                · next b r0 hdrop =>
                  split at hcal
                  · next hc =>
                    obtain ⟨hc1, hc4, hc5⟩ := hc
                    cases hcal
                    obtain ⟨pp, hp⟩ := hlk _ _ _ hk
                    simp only [zMok] at hp
                    split at hp
                    · next q' hq' =>
                      simp only [Bool.and_eq_true, decide_eq_true_eq, bne_iff_ne, Bool.not_eq_true', ne_eq, beq_iff_eq] at hp
                      obtain ⟨⟨hp1, hp2⟩, ⟨hp3, hp4⟩, hp5⟩ := hp
                      obtain ⟨b', c1, c2, c3, c4, c5, c6, c7, c8, c9, c10, c11⟩ := zrow_out (zkP q' (List.mem_of_getElem? hq') hp2)
                      have hM := zmet (b := b') IH hr1 hq' c8 c2 c7 hc5
                      rw [hp5] at hM c1
                      have hst : zvs w st = (zvs w (st.take (zpn y')).reverse).reverse ++ .ref (zad w b) :: zvs w r0 := by
                        have e0 : st = st.take (zpn y') ++ .ref b :: r0 := by rw [← hdrop, List.take_append_drop]
                        have e1 : zvs w st = zvs w (st.take (zpn y')) ++ .ref (zad w b) :: zvs w r0 := by
                          rw [show zvs w st = zvs w (st.take (zpn y') ++ .ref b :: r0) by rw [← e0]]
                          unfold zvs
                          rw [List.map_append]
                          rfl
                        rw [e1]
                        unfold zvs
                        rw [List.map_reverse, List.reverse_reverse]
                      have hzpn : zpn y' = q'.1.2.2.2.2.2 := by simp [zpn, hq']
                      refine zs_back (mc := r1.2.1 - h.1) (ms := r1.2.2.1 - h.2.1) (va_runI (As := zvs w (st.take (zpn y')).reverse) (rest := zvs w r0) (b := zad w b) ⟨hx, hb, hml, hown, hts⟩ hM ⟨callB_of q'.1.2.2.2.2.2 hts (zgoodIn ?_) rfl rfl rfl (hts _ c3) (hts _ (zwm hp1 rfl)) ⟨c9, c10, c11⟩ ⟨by show d' + 1 + 1 ≤ R.frames; omega, by show 8 + (q'.1.2.2.1 + 11) + (40 * d' + 60) ≤ R.locals; omega⟩, hp4, hts _ (c5 hp3).1⟩ ⟨zblind w _ h, fun U hUh hUw => pre _ U hUh hUw⟩ rfl ?_ hv.1 hst (hrest r0 hc1) (by obtain rfl := zln_eq hl 3 rfl; exact hd) ⟨by omega, by omega⟩) hS goOn
                      · intro x hx
                        simp only [List.mem_cons] at hx
                        rcases hx with rfl | hx
                        · exact c1
                        · exact hx
                      · unfold zvs
                        rw [List.length_map, List.length_reverse, hc4, hzpn]
                    · cases hp
                  · cases hcal
                · cases hcal
              · cases hcal
            all_goals cases hcal
