/-! WHAT IS MADE: a row of cells (written by wip/whole/gen_i.py) -/
def PH (g : Nat → zC) (cs : List zC) (m : Nat) : zH := (3 + cs.length, m, fun a => if a < 3 then g a else (cs[a - 3]?).getD (g a))
section PHS
variable {g : Nat → zC} {ps qs : List zC} {c : zC} {m a i k ci : Nat} {v : Value} {x : Int32} {t : FieldType}
def cgf (c : zC) (ci k : Nat) : Option Value := match c with
  | .inr o => if o.1 = ci then o.2[k]? else none
  | .inl _ => none
def cpf (c : zC) (k : Nat) (v : Value) : zC := match c with
  | .inr o => .inr (o.1, o.2.set k v)
  | .inl q => .inl q
theorem ph_1 (ha : 3 + ps.length = a) : (PH g (ps ++ qs) m).1 = a + qs.length := by
  show 3 + (ps ++ qs).length = _
  rw [List.length_append]
  omega
theorem ph_at (ha : 3 + ps.length = a) : (PH g (ps ++ qs) m).2.2 (a + i) = (qs[i]?).getD (g (a + i)) := by
  show (if a + i < 3 then _ else ((ps ++ qs)[a + i - 3]?).getD (g (a + i))) = _
  rw [if_neg (by omega), List.getElem?_append_right (by omega), show a + i - 3 - ps.length = i by omega]
theorem ph_at0 (ha : 3 + ps.length = a) : (PH g (ps ++ c :: qs) m).2.2 a = c := by
  have := ph_at (g := g) (qs := c :: qs) (m := m) (i := 0) ha
  exact this
theorem ph_low (h : i < 3) : (PH g ps m).2.2 i = g i := if_pos h
theorem ph_app (ha : 3 + ps.length = a) (c : zC) (m' : Nat) : (a + 1, m', zup (PH g ps m).2.2 a c) = PH g (ps ++ [c]) m' := by
  unfold PH
  refine Prod.ext ?_ (Prod.ext rfl (funext fun b => ?_))
  · show a + 1 = 3 + (ps ++ [c]).length
    rw [List.length_append, List.length_singleton]
    omega
  · show (if b = a then c else if b < 3 then g b else (ps[b - 3]?).getD (g b)) = if b < 3 then g b else ((ps ++ [c])[b - 3]?).getD (g b)
    by_cases h : b = a
    · rw [if_pos h, if_neg (by omega), List.getElem?_append_right (by omega), show b - 3 - ps.length = 0 by omega]
      rfl
    · rw [if_neg h]
      by_cases h3 : b < 3
      · rw [if_pos h3, if_pos h3]
      · rw [if_neg h3, if_neg h3]
        by_cases hl : b - 3 < ps.length
        · rw [List.getElem?_append_left hl]
        · rw [List.getElem?_eq_none (by omega), List.getElem?_eq_none (by rw [List.length_append, List.length_singleton]; omega)]
theorem ph_new (ha : 3 + ps.length = a) : znew (PH g ps m) ci = PH g (ps ++ [.inr (ci, zdef ci)]) (m + zfN ci) := by
  have e : (PH g ps m).1 = a := ha
  unfold znew
  rw [e]
  exact ph_app ha _ _
theorem ph_newi (ha : 3 + ps.length = a) : znewi (PH g ps m) t k = PH g (ps ++ [.inl (t, k, .inl (fun _ => 0))]) (m + k) := by
  have e : (PH g ps m).1 = a := ha
  unfold znewi
  rw [e]
  exact ph_app ha _ _
theorem ph_newl (ha : 3 + ps.length = a) : znewl (PH g ps m) k = PH g (ps ++ [.inl (.long, k, .inr (.inl (fun _ => 0)))]) (m + k) := by
  have e : (PH g ps m).1 = a := ha
  unfold znewl
  rw [e]
  exact ph_app ha _ _
theorem ph_newa (ha : 3 + ps.length = a) : znewa (PH g ps m) ci k = PH g (ps ++ [.inl (.object (zcN ci), k, .inr (.inr (.inr (.inr (fun _ => none)))))]) (m + k) := by
  have e : (PH g ps m).1 = a := ha
  unfold znewa
  rw [e]
  exact ph_app ha _ _
theorem ph_up (ha : 3 + ps.length = a) (hi : i < qs.length) (c : zC) : (3 + (ps ++ qs).length, m, zup (PH g (ps ++ qs) m).2.2 (a + i) c) = PH g (ps ++ qs.set i c) m := by
  unfold PH
  refine Prod.ext ?_ (Prod.ext rfl (funext fun b => ?_))
  · show 3 + (ps ++ qs).length = 3 + (ps ++ qs.set i c).length
    rw [List.length_append, List.length_append, List.length_set]
  · show (if b = a + i then c else if b < 3 then g b else ((ps ++ qs)[b - 3]?).getD (g b)) = if b < 3 then g b else ((ps ++ qs.set i c)[b - 3]?).getD (g b)
    by_cases h : b = a + i
    · rw [if_pos h, if_neg (by omega), List.getElem?_append_right (by omega), show b - 3 - ps.length = i by omega, List.getElem?_set, if_pos rfl, if_pos hi]
      rfl
    · rw [if_neg h]
      by_cases h3 : b < 3
      · rw [if_pos h3, if_pos h3]
      · rw [if_neg h3, if_neg h3]
        by_cases hl : b - 3 < ps.length
        · rw [List.getElem?_append_left hl, List.getElem?_append_left hl]
        · rw [List.getElem?_append_right (by omega), List.getElem?_append_right (by omega), List.getElem?_set, if_neg (by omega)]
theorem ph_gf (ha : 3 + ps.length = a) (hc : qs[i]? = some c) : zgf (PH g (ps ++ qs) m) (a + i) ci k = cgf c ci k := by
  unfold zgf
  rw [ph_at ha, hc]
  cases c <;> rfl
theorem ph_gf0 (ha : 3 + ps.length = a) : zgf (PH g (ps ++ c :: qs) m) a ci k = cgf c ci k := by
  unfold zgf
  rw [ph_at0 ha]
  cases c <;> rfl
theorem ph_cls0 (ha : 3 + ps.length = a) {o : Nat × List Value} : zcls (PH g (ps ++ Sum.inr o :: qs) m) a = o.1 := by
  unfold zcls
  rw [ph_at0 ha]
theorem ph_pf (ha : 3 + ps.length = a) (hi : i < qs.length) {o : Nat × List Value} (hc : qs[i]? = some (.inr o)) : zpf (PH g (ps ++ qs) m) (a + i) k v = PH g (ps ++ qs.set i (.inr (o.1, o.2.set k v))) m := by
  unfold zpf
  rw [ph_at ha, hc]
  exact ph_up ha hi _
theorem ph_pf0 (ha : 3 + ps.length = a) {o : Nat × List Value} : zpf (PH g (ps ++ Sum.inr o :: qs) m) a k v = PH g (ps ++ Sum.inr (o.1, o.2.set k v) :: qs) m := by
  have := ph_pf (g := g) (qs := Sum.inr o :: qs) (m := m) (k := k) (v := v) (i := 0) ha (by simp) rfl
  exact this
end PHS
