/-! THE MOST COUPLES: the class -/
section MF
variable {n m : Nat} {g : Nat → zC} {I X A : Nat → Nat → Int32} {J : Nat → Nat → Int64} {N S U b : Nat}
theorem tMarry0_far {p q : Nat} (hb : isTown b) (hX : ∀ a, a ≠ 67 → X a = I a) : tMarry X b p q 0 N = tMarry I b p q 0 N := by
  have h0 := hX b (wed_town (i := 0) hb (by decide)).1
  have h5 := hX (b + 5) (wed_town (i := 5) hb (by decide)).1
  have h6 := hX (b + 6) (wed_town (i := 6) hb (by decide)).1
  have h9 := hX (b + 9) (wed_town (i := 9) hb (by decide)).1
  have h10 := hX (b + 10) (wed_town (i := 10) hb (by decide)).1
  unfold tMarry tBear tGrown kNear kPar
  rw [h0, h5, h6, h9, h10]
  simp
theorem wMates_far {p : Nat} {w : Int32} (hb : isTown b) (hX : ∀ a, a ≠ 67 → X a = I a) : wMates X b N w p = wMates I b N w p := by
  unfold wMates wOthers tLiv
  rw [hX (b + 6) (wed_town (i := 6) hb (by decide)).1]
  simp only [tMarry0_far hb hX]
theorem isS_tLiv (h12 : N ≤ 12) : isS (tLiv I b N) (fun p => decide (p < N) && decide (I (b + 6) p = -1)) := by
  obtain ⟨r, h1, h2, h3⟩ := isS_sub (isS_full h12) (isS_sSet (fun p => decide (I (b + 6) p ≠ -1)) h12)
  refine ⟨r, h1, h2, fun p => ?_⟩
  rw [h3]
  by_cases a : p < N <;> by_cases c : I (b + 6) p = -1 <;> simp [a, c]
theorem isS_wMates {p : Nat} {s : Int32} (h12 : N ≤ 12) (hs : s = -1 ∨ ∃ k, k < 6 ∧ s = nI k) (hp : p < N) : isS (wMates I b N (wSet I b N s) p) (cn I b N s p) := by
  have hw : isS (wSet I b N s) (fun q => decide (q < N) && (decide (s = -1) || decide (I (b + 7) q = s)) && decide (I (b + 6) q = -1)) := by
    unfold wSet
    by_cases e : s = -1
    · rw [if_pos e]
      obtain ⟨r, h1, h2, h3⟩ := isS_tLiv (I := I) (b := b) h12
      refine ⟨r, h1, h2, fun q => ?_⟩
      rw [h3]
      simp [e]
    · rw [if_neg e]
      obtain ⟨r, h1, h2, h3⟩ := isS_bear (A := I) (b := b) (s := s) h12
      refine ⟨r, h1, h2, fun q => ?_⟩
      rw [h3]
      by_cases a : q < N <;> by_cases c : I (b + 7) q = s <;> by_cases f : I (b + 6) q = -1 <;> simp [a, c, e, f]
  have ho : isS (wOthers I b N (wSet I b N s) p) (fun q => decide (q < N) && decide (I (b + 6) q = -1) && ((decide (s = -1) || decide (I (b + 7) q = s)) || ((decide (s = -1) || decide (I (b + 7) p = s)) && decide (I (b + 6) p = -1)))) := by
    unfold wOthers
    rw [bit_isS hw (show p < 12 by omega)]
    by_cases e : (decide (s = -1) || decide (I (b + 7) p = s)) = true
    · by_cases f : I (b + 6) p = -1
      · obtain ⟨r, h1, h2, h3⟩ := isS_tLiv (I := I) (b := b) h12
        simp only [hp, e, f, decide_true, Bool.and_true, if_true, show ¬ (1 : Int32) = 0 by decide, if_false, Bool.or_true]
        exact ⟨r, h1, h2, h3⟩
      · obtain ⟨r, h1, h2, h3⟩ := hw
        simp only [hp, e, f, decide_true, decide_false, Bool.and_false, Bool.false_eq_true, if_false, if_true, Bool.or_false]
        refine ⟨r, h1, h2, fun q => ?_⟩
        rw [h3]
        dsimp only
        cases decide (q < N) <;> cases (decide (s = -1) || decide (I (b + 7) q = s)) <;> cases decide (I (b + 6) q = -1) <;> rfl
    · obtain ⟨r, h1, h2, h3⟩ := hw
      simp only [hp, e, decide_true, Bool.and_false, Bool.false_and, Bool.false_eq_true, if_false, if_true, Bool.or_false]
      refine ⟨r, h1, h2, fun q => ?_⟩
      rw [h3]
      dsimp only
      cases decide (q < N) <;> cases (decide (s = -1) || decide (I (b + 7) q = s)) <;> cases decide (I (b + 6) q = -1) <;> rfl
  obtain ⟨r, h1, h2, h3⟩ := isS_and (isS_sSet (fun q => tMarry I b p q 0 N) h12) ho
  refine ⟨r, h1, h2, fun q => ?_⟩
  rw [h3]
  unfold cn
  cases hm : tMarry I b p q 0 N
  · simp [hm]
  · have hg : I (b + 6) p = -1 ∧ I (b + 6) q = -1 := by
      unfold tMarry tBear tGrown at hm
      simp at hm
      exact ⟨hm.1.1.1.1.2.1, hm.1.1.1.2.1⟩
    by_cases a : q < N <;> by_cases c : I (b + 7) q = s <;> by_cases f : I (b + 7) p = s <;> by_cases e : s = -1 <;> simp [a, c, f, e, hg, hp, hm]
/-- what wAll comes to -/
theorem wAll_eq {s : Int32} (hb : isTown b) (h12 : N ≤ 12) (hs : s = -1 ∨ ∃ k, k < 6 ∧ s = nI k) : (∀ a, a ≠ 67 → (wAll I b N s).2.1 a = I a) ∧ (∀ p, p < N → isS ((wAll I b N s).2.1 67 p) (cn I b N s p)) ∧ ∃ all, all < 4096 ∧ (wAll I b N s).1 = nI all ∧ (∀ q, all.testBit q = true → q < N) ∧ ∀ p q, cn I b N s p q = true → all.testBit q = true := by
  have hz := zfor_inv (f := wAll1 b N (wSet I b N s)) (P := fun p x => p ≤ N → (∀ a, a ≠ 67 → x.2.1 a = I a) ∧ (∀ q, q < p → isS (x.2.1 67 q) (cn I b N s q)) ∧ ∃ all, all < 4096 ∧ x.1 = nI all ∧ (∀ q, all.testBit q = true → q < N) ∧ ∀ c q, c < p → cn I b N s c q = true → all.testBit q = true) ?_ N 0 (0, I, none) (fun _ => ⟨fun _ _ => rfl, fun q hq => by omega, 0, by decide, rfl, fun q hq => by simp at hq, fun c q hc => by omega⟩)
  · obtain ⟨h1, h2, all, h3, h4, h5, h6⟩ := hz (by omega)
    refine ⟨h1, fun p hp => h2 p (by omega), all, h3, h4, h5, fun p q hc => h6 p q ?_ hc⟩
    unfold cn at hc
    simp at hc
    have := hc.1.1.1
    omega
  · intro p x ih hp
    obtain ⟨h1, h2, all, h3, h4, h5, h6⟩ := ih (by omega)
    have hm := isS_wMates (I := I) (b := b) h12 hs (show p < N by omega)
    unfold wAll1
    dsimp only
    rw [wMates_far hb h1]
    refine ⟨fun a ha => ?_, fun q hq => ?_, ?_⟩
    · rw [zu_far _ _ _ ha]
      exact h1 a ha
    · rw [zu_row]
      by_cases e : q = p
      · rw [if_pos e, e]
        exact hm
      · rw [if_neg e]
        exact h2 q (by omega)
    · obtain ⟨r, r1, r2, r3⟩ := hm
      refine ⟨all ||| r, Nat.or_lt_two_pow (n := 12) h3 r1, by rw [h4, r2, nI_or], fun q hq => ?_, fun c q hc hcn => ?_⟩
      · rw [Nat.testBit_or, Bool.or_eq_true] at hq
        rcases hq with hq | hq
        · exact h5 q hq
        · rw [r3] at hq
          unfold cn at hq
          simp at hq
          exact hq.1.1.2
      · rw [Nat.testBit_or, Bool.or_eq_true]
        by_cases e : c = p
        · right
          rw [r3, ← e]
          exact hcn
        · left
          exact h6 c q (by omega) hcn
theorem tLeast_lst {r : Nat} (hr : r < 4096) {a : Nat} (h : lst r = some a) : tLeast (nI r) = nI a := by
  have h1 : tLeast (nI r) = zfind r.testBit nI 0 0 12 := by
    unfold tLeast
    refine zfind_congr _ _ (fun q _ hq => ?_)
    rw [bit_isS (isS_nI hr) (by omega)]
    cases r.testBit q <;> simp
  have h2 : ∀ k p, zfind r.testBit some none p k = some a → zfind r.testBit nI 0 p k = nI a := by
    intro k
    induction k with
    | zero => intro p hz; cases hz
    | succ k ih =>
      intro p hz
      rw [zfind] at hz ⊢
      cases e : r.testBit p
      · rw [e] at hz
        simp only [Bool.false_eq_true, if_false] at hz ⊢
        exact ih _ hz
      · rw [e] at hz
        simp only [if_true] at hz ⊢
        rw [Option.some.inj hz]
  rw [h1]
  exact h2 12 0 h
theorem wMost_eq {s : Int32} {r a : Nat} (hr : r < 4096) (hl : lst r = some a) (h67 : isS (X 67 a) (cn I b N s a)) (hx : ∀ q, q < r → (∀ i, q.testBit i = true → r.testBit i = true) → X 68 q = nI (tau (cn I b N s) q)) : wMost X (nI r) a = nI (tau (cn I b N s) r) := by
  obtain ⟨_, ha, hb⟩ := zfind_some _ _ hl
  have ha : a < 12 := by omega
  have hlt := rm_lt hr ha hb
  have hrm : rm r a < 4096 := by omega
  have hsub : ∀ i, (rm r a).testBit i = true → r.testBit i = true := fun i hi => by
    rw [rm_bit hr ha] at hi
    simp at hi
    exact hi.1
  have hw : wRest (nI r) a = nI (rm r a) := rm_nI hr ha
  have t12 := tau_12 (can := cn I b N s) hr
  rw [tau_eq hr] at t12 ⊢
  unfold wMost stp at *
  rw [hl] at t12 ⊢
  dsimp only at t12 ⊢
  rw [hw, nI_clamp (show rm r a < 2 ^ 31 by omega), hx _ hlt hsub]
  have key : ∀ k p acc, p + k ≤ 12 → acc ≤ 13 → zfor (fun q (y : Int32) => if nI (rm r a) &&& X 67 a &&& bt q = 0 then y else if y < X 68 (wRest (nI (rm r a)) q).toNatClampNeg + 1 then X 68 (wRest (nI (rm r a)) q).toNatClampNeg + 1 else y) p k (nI acc) = nI (zfor (fun q acc => if ((rm r a).testBit q && cn I b N s a q) = true then max acc (1 + tau (cn I b N s) (rm (rm r a) q)) else acc) p k acc) := by
    intro k
    induction k with
    | zero => intro p acc _ _; rfl
    | succ k ih =>
      intro p acc hp hacc
      rw [zfor, zfor]
      have hp12 : p < 12 := by omega
      have hbit : (nI (rm r a) &&& X 67 a &&& bt p = 0) ↔ ((rm r a).testBit p && cn I b N s a p) = false := by
        rw [isS_zero (isS_and (isS_and (isS_nI hrm) h67) (isS_bt hp12))]
        constructor
        · intro hh
          have := hh p hp12
          simpa using this
        · intro hh q hq
          by_cases e : p = q
          · rw [← e, hh]
            rfl
          · simp [e]
      cases hc : ((rm r a).testBit p && cn I b N s a p)
      · rw [if_pos (hbit.mpr hc)]
        simp only [Bool.false_eq_true, if_false]
        exact ih (p + 1) acc (by omega) hacc
      · have : ¬ (nI (rm r a) &&& X 67 a &&& bt p = 0) := fun h => by rw [hbit.mp h] at hc; exact absurd hc (by decide)
        rw [if_neg this]
        have hbp : (rm r a).testBit p = true := by
          simp only [Bool.and_eq_true] at hc
          exact hc.1
        have hlt2 := rm_lt hrm hp12 hbp
        have hw2 : wRest (nI (rm r a)) p = nI (rm (rm r a) p) := rm_nI hrm hp12
        have hx2 := hx (rm (rm r a) p) (by omega) (fun i hi => hsub i (by
          rw [rm_bit hrm hp12] at hi
          simp at hi
          exact hi.1))
        have t2 := tau_12 (can := cn I b N s) (show rm (rm r a) p < 4096 by omega)
        have ad : nI (tau (cn I b N s) (rm (rm r a) p)) + 1 = nI (1 + tau (cn I b N s) (rm (rm r a) p)) := by
          rw [Nat.add_comm]
          exact nI_add _ 1
        rw [hw2, nI_clamp (show rm (rm r a) p < 2 ^ 31 by omega), hx2, ad]
        have hh : (nI acc < nI (1 + tau (cn I b N s) (rm (rm r a) p))) = (acc < 1 + tau (cn I b N s) (rm (rm r a) p)) := nI_ltq (by omega) (by omega)
        simp only [if_true]
        by_cases e9 : acc < 1 + tau (cn I b N s) (rm (rm r a) p)
        · rw [if_pos (by rw [hh]; exact e9), Nat.max_eq_right (by omega)]
          exact ih (p + 1) _ (by omega) (by omega)
        · rw [if_neg (by rw [hh]; exact e9), Nat.max_eq_left (by omega)]
          exact ih (p + 1) _ (by omega) hacc
  rw [key (11 - a) (a + 1) _ (by omega) (Nat.le_trans (tau_12 hrm) (by omega))]
  generalize zfor (fun q acc => if ((rm r a).testBit q && cn I b N s a q) = true then max acc (1 + tau (cn I b N s) (rm (rm r a) q)) else acc) (a + 1) (11 - a) (tau (cn I b N s) (rm r a)) = v at t12 ⊢
  have : v = 0 ∨ v = 1 ∨ v = 2 ∨ v = 3 ∨ v = 4 ∨ v = 5 ∨ v = 6 ∨ v = 7 ∨ v = 8 ∨ v = 9 ∨ v = 10 ∨ v = 11 ∨ v = 12 := by omega
  rcases this with rfl | rfl | rfl | rfl | rfl | rfl | rfl | rfl | rfl | rfl | rfl | rfl | rfl <;> rfl
theorem wTable_eq {s : Int32} (hb : isTown b) (h12 : N ≤ 12) (hs : s = -1 ∨ ∃ k, k < 6 ∧ s = nI k) : (∀ a, a ≠ 67 → a ≠ 68 → wTable I b N s a = I a) ∧ wTable I b N s 68 (wAll I b N s).1.toNatClampNeg = nI (tau (cn I b N s) (2 ^ N - 1)) := by
  obtain ⟨h1, h2, all, h3, h4, h5, h6⟩ := wAll_eq (I := I) hb h12 hs
  have h4' := pow_4096 h12
  have hpos : 0 < 2 ^ N := Nat.pow_pos (by decide)
  have hfull : tau (cn I b N s) (2 ^ N - 1) = tau (cn I b N s) all := by
    rw [tau_all (fun a c _ _ h => cn_sym h) (fun a c _ _ h => h6 a c h) (2 ^ N - 1) (by omega)]
    congr 1
    refine Nat.eq_of_testBit_eq (fun p => ?_)
    rw [Nat.testBit_and, Nat.testBit_two_pow_sub_one]
    cases e : all.testBit p
    · simp
    · simp [h5 p e]
  have hsubq : ∀ r, r < 4096 → (nI r &&& (nI all ^^^ -1) = 0 ↔ ∀ i, r.testBit i = true → all.testBit i = true) := by
    intro r hr
    rw [isS_zero (isS_sub (isS_nI hr) (isS_nI h3))]
    constructor
    · intro hh i hi
      have hi12 : i < 12 := bit_lt (N := 12) (by omega) hi
      have := hh i hi12
      rw [hi] at this
      simpa using this
    · intro hh i hi
      cases e : r.testBit i
      · rfl
      · rw [hh i e]
        rfl
  have hz := zfor_inv (f := wFill (nI all)) (P := fun k Y => 1 ≤ k ∧ (k ≤ all + 1 → (∀ a, a ≠ 68 → Y a = (wAll I b N s).2.1 a) ∧ ∀ r, r < k → (∀ i, r.testBit i = true → all.testBit i = true) → Y 68 r = nI (tau (cn I b N s) r))) ?_ all 1 (zu (wAll I b N s).2.1 68 0 0) ⟨Nat.le_refl 1, fun _ => ⟨fun a ha => zu_far _ _ _ ha, fun r hr _ => ?_⟩⟩
  · have hz := hz.2 (by omega)
    unfold wTable
    rw [h4, nI_clamp (show all < 2 ^ 31 by omega), hfull]
    refine ⟨fun a ha hc => ?_, hz.2 all (by omega) (fun _ h => h)⟩
    rw [hz.1 a hc]
    exact h1 a ha
  · rintro k Y ⟨hk1, ih⟩
    refine ⟨by omega, fun hk => ?_⟩
    obtain ⟨y1, y2⟩ := ih (by omega)
    unfold wFill
    by_cases e : nI k &&& (nI all ^^^ -1) = 0
    · rw [if_pos e]
      have hsub := (hsubq k (by omega)).mp e
      refine ⟨fun a ha => by rw [zu_far _ _ _ ha]; exact y1 a ha, fun r hr hrs => ?_⟩
      rw [zu_row]
      by_cases e2 : r = k
      · rw [if_pos e2, e2]
        cases hl : lst k with
        | none =>
          have h0 : k = 0 := Nat.eq_of_testBit_eq (fun p => by
            by_cases hp : p < 12
            · rw [lst_none hl p hp, Nat.zero_testBit]
            · rw [Nat.zero_testBit]
              exact Nat.testBit_lt_two_pow (Nat.lt_of_lt_of_le (show k < 2 ^ 12 by omega) (Nat.pow_le_pow_right (show 0 < 2 by decide) (by omega))))
          omega
        | some a =>
          obtain ⟨_, ha, hbb⟩ := zfind_some _ _ hl
          rw [tLeast_lst (by omega) hl, nI_clamp (show a < 2 ^ 31 by omega)]
          have haN := h5 a (hsub a hbb)
          refine wMost_eq (by omega) hl ?_ (fun q hq hqs => y2 q hq (fun i hi => hsub i (hqs i hi)))
          rw [y1 67 (by decide)]
          exact h2 a haN
      · rw [if_neg e2]
        exact y2 r (by omega) hrs
    · rw [if_neg e]
      refine ⟨y1, fun r hr hrs => ?_⟩
      by_cases e2 : r = k
      · exact absurd ((hsubq k (by omega)).mpr (e2 ▸ hrs)) e
      · exact y2 r (by omega) hrs
  · have : r = 0 := by omega
    subst this
    rw [zu_row, if_pos rfl]
    rfl
end MF
