/-! RINGS, as functions -/
section RG
variable {I X A : Nat → Nat → Int32} {N S U b : Nat}
theorem pigeon : ∀ (n : Nat) (f : Nat → Nat), (∀ i, i ≤ n → f i < n) → ∃ i j, i < j ∧ j ≤ n ∧ f i = f j
  | 0, f, h => absurd (h 0 (Nat.le_refl 0)) (by omega)
  | n + 1, f, h => by
    apply Classical.byContradiction
    intro hno
    have hv : ∀ i, i ≤ n → f i ≠ f (n + 1) := fun i hi e => hno ⟨i, n + 1, by omega, by omega, e⟩
    have hlast := h (n + 1) (by omega)
    obtain ⟨i, j, hij, hj, e⟩ := pigeon n (fun i => if f i = n then f (n + 1) else f i) (fun i hi => by
      have h1 := h i (by omega)
      have h2 := hv i hi
      split
      · omega
      · omega)
    have h2 := hv i (by omega)
    have h3 := hv j hj
    by_cases a : f i = n
    · by_cases c : f j = n
      · exact hno ⟨i, j, hij, by omega, by omega⟩
      · rw [if_pos a, if_neg c] at e
        exact h3 e.symm
    · by_cases c : f j = n
      · rw [if_neg a, if_pos c] at e
        exact h2 e
      · rw [if_neg a, if_neg c] at e
        exact hno ⟨i, j, hij, by omega, e⟩
/-- who is pointed at -/
def dr (A : Nat → Nat → Int32) (b r p : Nat) : Nat → Nat → Nat
  | _, 0 => p
  | k, f + 1 => if A (b + 13) (p * 6 + k) = A (b + 7) p then p else match zfind (fun q => r.testBit q && decide (A (b + 7) q = A (b + 13) (p * 6 + k))) some none 0 12 with
    | none => dr A b r p (k + 1) f
    | some q => q
def ptr (A : Nat → Nat → Int32) (b r p : Nat) : Nat := if r.testBit p = true then dr A b r p 0 (A (b + 12) p).toNatClampNeg else p
theorem dr_in {r p : Nat} (hp : r.testBit p = true) : ∀ f k, r.testBit (dr A b r p k f) = true
  | 0, _ => hp
  | f + 1, k => by
    rw [dr]
    split
    · exact hp
    · split
      · exact dr_in hp f (k + 1)
      · rename_i q hq
        obtain ⟨_, _, h⟩ := zfind_some _ _ hq
        simp only [Bool.and_eq_true] at h
        exact h.1
theorem ptr_in {r p : Nat} (hp : r.testBit p = true) : r.testBit (ptr A b r p) = true := by
  unfold ptr
  rw [if_pos hp]
  exact dr_in hp _ _
theorem ptr_lt {r p : Nat} (hr : r < 4096) (hp : p < 12) : ptr A b r p < 12 := by
  cases h : r.testBit p
  · unfold ptr
    rw [h]
    exact hp
  · exact bit_lt (N := 12) (by omega) (ptr_in h)
def ln (F : Nat → Nat) (p : Nat) : Nat → Nat → Nat → Nat
  | _, _, 0 => 0
  | q, k, f + 1 => if F q = p then k else ln F p (F q) (k + 1) f
def rg (F : Nat → Nat) (p : Nat) : Nat → Nat → Nat → Nat
  | _, _, 0 => 0
  | q, s, f + 1 => if F q = p then s ||| 2 ^ q else rg F p (F q) (s ||| 2 ^ q) f
def og (F : Nat → Nat) : Nat → Nat → Nat → Bool
  | 0, _, _ => false
  | L + 1, q, x => decide (q = x) || og F L (F q) x
theorem ln_case {F : Nat → Nat} {p : Nat} : ∀ f q k s, (ln F p q (k + 1) f = 0 ∧ rg F p q s f = 0) ∨ ∃ j, j < f ∧ ln F p q (k + 1) f = k + 1 + j ∧ ∀ x, (rg F p q s f).testBit x = (s.testBit x || og F (j + 1) q x)
  | 0, _, _, _ => .inl ⟨rfl, rfl⟩
  | f + 1, q, k, s => by
    rw [ln, rg]
    by_cases e : F q = p
    · right
      refine ⟨0, by omega, by rw [if_pos e], fun x => ?_⟩
      rw [if_pos e, Nat.testBit_or, Nat.testBit_two_pow]
      simp [og]
    · rw [if_neg e, if_neg e]
      rcases ln_case f (F q) (k + 1) (s ||| 2 ^ q) with h | ⟨j, h1, h2, h3⟩
      · exact .inl h
      · right
        refine ⟨j + 1, by omega, by omega, fun x => ?_⟩
        rw [h3 x, Nat.testBit_or, Nat.testBit_two_pow]
        conv => rhs; rw [og]
        cases s.testBit x <;> cases decide (q = x) <;> simp
theorem og_in {F : Nat → Nat} {r : Nat} (hF : ∀ q, r.testBit q = true → r.testBit (F q) = true) : ∀ L q x, r.testBit q = true → og F L q x = true → r.testBit x = true
  | 0, _, _, _, h => by cases h
  | L + 1, q, x, hq, h => by
    rw [og] at h
    simp only [Bool.or_eq_true, decide_eq_true_eq] at h
    rcases h with h | h
    · rw [← h]; exact hq
    · exact og_in hF L (F q) x (hF q hq) h
/-- the iterates -/
def itr (F : Nat → Nat) : Nat → Nat → Nat
  | 0, q => q
  | k + 1, q => itr F k (F q)
theorem itr_add (F : Nat → Nat) : ∀ i j q, itr F (i + j) q = itr F j (itr F i q)
  | 0, j, q => by rw [Nat.zero_add]; rfl
  | i + 1, j, q => by rw [show i + 1 + j = (i + j) + 1 by omega, itr, itr_add F i j, itr]
theorem itr_in {F : Nat → Nat} {r : Nat} (hF : ∀ q, r.testBit q = true → r.testBit (F q) = true) : ∀ k q, r.testBit q = true → r.testBit (itr F k q) = true
  | 0, _, h => h
  | k + 1, q, h => itr_in hF k (F q) (hF q h)
theorem ln_of {F : Nat → Nat} {p : Nat} : ∀ f q k j, j < f → itr F (j + 1) q = p → ln F p q (k + 1) f ≠ 0
  | 0, _, _, _, h, _ => by omega
  | f + 1, q, k, j, hj, h => by
    rw [ln]
    by_cases e : F q = p
    · rw [if_pos e]; omega
    · rw [if_neg e]
      cases j with
      | zero => exact absurd h e
      | succ j => exact ln_of f (F q) (k + 1) j (by omega) h
theorem zfind_none_all {c : Nat → Bool} : ∀ k p, zfind c some none p k = none → ∀ q, p ≤ q → q < p + k → c q = false
  | 0, _, _, _, _, _ => by omega
  | k + 1, p, hz, q, h1, h2 => by
    rw [zfind] at hz
    cases e : c p
    · rw [e] at hz
      by_cases e2 : q = p
      · rw [e2]; exact e
      · exact zfind_none_all k (p + 1) (by simpa using hz) q (by omega) (by omega)
    · rw [e] at hz
      simp at hz
/-- a ring is there -/
theorem ring_is {F : Nat → Nat} {r : Nat} (hr : r < 4096) (h0 : r ≠ 0) (hF : ∀ q, r.testBit q = true → r.testBit (F q) = true) : ∃ p, zfind (fun p => r.testBit p && decide (ln F p p 1 12 ≠ 0)) some none 0 12 = some p := by
  have h12 : ∀ q, r.testBit q = true → q < 12 := fun q h => bit_lt (N := 12) (by omega) h
  cases hz : zfind (fun p => r.testBit p && decide (ln F p p 1 12 ≠ 0)) some none 0 12 with
  | some p => exact ⟨p, rfl⟩
  | none =>
    exfalso
    obtain ⟨a, ha⟩ : ∃ a, r.testBit a = true := by
      apply Classical.byContradiction
      intro hn
      apply h0
      refine Nat.eq_of_testBit_eq (fun p => ?_)
      rw [Nat.zero_testBit]
      cases e : r.testBit p
      · rfl
      · exact absurd ⟨p, e⟩ hn
    obtain ⟨i, j, hij, hj, e⟩ := pigeon 12 (fun k => itr F k a) (fun k _ => h12 _ (itr_in hF k a ha))
    have hb := itr_in hF i a ha
    have hp := h12 _ hb
    have := zfind_none_all 12 0 hz (itr F i a) (by omega) (by omega)
    rw [hb] at this
    simp only [Bool.true_and, decide_eq_false_iff_not, ne_eq, Decidable.not_not] at this
    refine ln_of 12 (itr F i a) 0 (j - i - 1) (by omega) ?_ this
    rw [← itr_add, show i + (j - i - 1 + 1) = j by omega]
    exact e.symm
abbrev RS : Type := Nat × (Nat → Int32) × Nat
/-- one round: the first ring is closed -/
def rs (A : Nat → Nat → Int32) (b : Nat) (z : RS) : RS := match zfind (fun p => z.1.testBit p && decide (ln (ptr A b z.1) p p 1 12 ≠ 0)) some none 0 12 with
  | none => z
  | some p => (z.1 &&& (4095 - rg (ptr A b z.1) p p 0 12), fun x => if (rg (ptr A b z.1) p p 0 12).testBit x = true then A (b + 7) (ptr A b z.1 x) else z.2.1 x, if 1 < ln (ptr A b z.1) p p 1 12 then z.2.2 + 1 else z.2.2)
def rrn (A : Nat → Nat → Int32) (b : Nat) : Nat → RS → RS
  | 0, z => z
  | f + 1, z => if z.1 = 0 then z else rrn A b f (rs A b z)
/-- what one round does -/
theorem rs_is {z : RS} (hr : z.1 < 4096) (h0 : z.1 ≠ 0) : ∃ p L R, p < 12 ∧ z.1.testBit p = true ∧ zfind (fun p => z.1.testBit p && decide (ln (ptr A b z.1) p p 1 12 ≠ 0)) some none 0 12 = some p ∧ ln (ptr A b z.1) p p 1 12 = L ∧ 1 ≤ L ∧ L ≤ 12 ∧ rg (ptr A b z.1) p p 0 12 = R ∧ R < 4096 ∧ (∀ x, R.testBit x = og (ptr A b z.1) L p x) ∧ R.testBit p = true ∧ (∀ x, R.testBit x = true → z.1.testBit x = true) ∧ rs A b z = (z.1 &&& (4095 - R), fun x => if R.testBit x = true then A (b + 7) (ptr A b z.1 x) else z.2.1 x, if 1 < L then z.2.2 + 1 else z.2.2) := by
  have hF : ∀ q, z.1.testBit q = true → z.1.testBit (ptr A b z.1 q) = true := fun q h => ptr_in h
  obtain ⟨p, hp⟩ := ring_is hr h0 hF
  obtain ⟨_, hp12, hc⟩ := zfind_some _ _ hp
  simp only [Bool.and_eq_true, decide_eq_true_eq] at hc
  rcases ln_case (F := ptr A b z.1) (p := p) 12 p 0 0 with h | ⟨j, h1, h2, h3⟩
  · exact absurd h.1 hc.2
  · have h3' : ∀ x, (rg (ptr A b z.1) p p 0 12).testBit x = og (ptr A b z.1) (0 + 1 + j) p x := fun x => by rw [h3 x, Nat.zero_testBit, Bool.false_or, show 0 + 1 + j = j + 1 by omega]
    have hsub : ∀ x, (rg (ptr A b z.1) p p 0 12).testBit x = true → z.1.testBit x = true := fun x hx => by
      rw [h3'] at hx
      exact og_in hF _ _ _ hc.1 hx
    refine ⟨p, 0 + 1 + j, rg (ptr A b z.1) p p 0 12, by omega, hc.1, hp, h2, by omega, by omega, rfl, ?_, h3', ?_, hsub, ?_⟩
    · refine Nat.lt_pow_two_of_testBit (n := 12) _ (fun i hi => ?_)
      cases e : (rg (ptr A b z.1) p p 0 12).testBit i
      · rfl
      · have := bit_lt (N := 12) (by omega) (hsub i e)
        omega
    · rw [h3', show 0 + 1 + j = j + 1 by omega, og]
      simp
    · unfold rs
      rw [hp]
      dsimp only
      rw [h2]
theorem sub_bit {r R x : Nat} (hr : r < 4096) (hR : R < 4096) : (r &&& (4095 - R)).testBit x = (r.testBit x && !R.testBit x) := by
  rw [Nat.testBit_and]
  have := Nat.testBit_two_pow_sub_succ (n := 12) (x := R) (by omega) x
  rw [show 2 ^ 12 - (R + 1) = 4095 - R by omega] at this
  rw [this]
  by_cases h : x < 12
  · simp [h]
  · have : r.testBit x = false := Nat.testBit_lt_two_pow (Nat.lt_of_lt_of_le (show r < 2 ^ 12 by omega) (Nat.pow_le_pow_right (show 0 < 2 by decide) (by omega)))
    simp [this]
theorem rs_lt {z : RS} (hr : z.1 < 4096) (h0 : z.1 ≠ 0) : (rs A b z).1 < 4096 ∧ cnt (rs A b z).1.testBit 12 + 1 ≤ cnt z.1.testBit 12 ∧ ∀ x, (rs A b z).1.testBit x = true → z.1.testBit x = true := by
  obtain ⟨p, L, R, hp, hb, _, _, _, _, _, hR, _, hRp, _, e⟩ := rs_is (A := A) (b := b) hr h0
  rw [e]
  dsimp only
  refine ⟨Nat.lt_of_le_of_lt Nat.and_le_left hr, cnt_more hp (fun q _ h => ?_) ?_ hb, fun x h => ?_⟩
  · rw [sub_bit hr hR] at h
    simp at h
    exact h.1
  · rw [sub_bit hr hR, hRp]
    simp
  · rw [sub_bit hr hR] at h
    simp at h
    exact h.1
theorem cnt_zero {r : Nat} (hr : r < 4096) (h : cnt r.testBit 12 = 0) : r = 0 := by
  refine Nat.eq_of_testBit_eq (fun p => ?_)
  rw [Nat.zero_testBit]
  cases e : r.testBit p
  · rfl
  · have hp := bit_lt (N := 12) (by omega) e
    have := cnt_rm hr hp e
    omega
theorem rrn_end : ∀ f (z : RS), z.1 < 4096 → cnt z.1.testBit 12 ≤ f → (rrn A b f z).1 = 0
  | 0, z, h, hc => cnt_zero h (Nat.le_zero.mp hc)
  | f + 1, z, h, hc => by
    rw [rrn]
    by_cases e : z.1 = 0
    · rw [if_pos e]; exact e
    · rw [if_neg e]
      have := rs_lt (A := A) (b := b) h e
      exact rrn_end f _ this.1 (by omega)
/-- what the rings give: to those in it, a name of one of them; to the others nothing -/
def GI (A : Nat → Nat → Int32) (b r0 : Nat) (z : RS) : Prop := z.1 < 4096 ∧ (∀ x, z.1.testBit x = true → r0.testBit x = true) ∧ (∀ q, r0.testBit q = false → z.2.1 q = -1) ∧ ∀ q, r0.testBit q = true → z.1.testBit q = false → ∃ q', r0.testBit q' = true ∧ z.2.1 q = A (b + 7) q'
theorem GI_rs {r0 : Nat} {z : RS} (h : GI A b r0 z) (h0 : z.1 ≠ 0) : GI A b r0 (rs A b z) := by
  obtain ⟨h1, h2, h3, h4⟩ := h
  obtain ⟨p, L, R, hp, hb, _, _, _, _, _, hR, _, hRp, hRs, e⟩ := rs_is (A := A) (b := b) h1 h0
  have hl := rs_lt (A := A) (b := b) h1 h0
  refine ⟨hl.1, fun x hx => h2 x (hl.2.2 x hx), fun q hq => ?_, fun q hq hq2 => ?_⟩
  · rw [e]
    dsimp only
    cases e2 : R.testBit q
    · exact h3 q hq
    · rw [h2 q (hRs q e2)] at hq
      exact absurd hq (by decide)
  · rw [e] at hq2 ⊢
    dsimp only at hq2 ⊢
    cases e2 : R.testBit q
    · rw [sub_bit h1 hR, e2] at hq2
      simp only [Bool.not_false, Bool.and_true] at hq2
      exact h4 q hq hq2
    · exact ⟨_, h2 _ (ptr_in (hRs q e2)), rfl⟩
theorem GI_rrn {r0 : Nat} : ∀ f (z : RS), GI A b r0 z → GI A b r0 (rrn A b f z)
  | 0, _, h => h
  | f + 1, z, h => by
    rw [rrn]
    by_cases e : z.1 = 0
    · rw [if_pos e]; exact h
    · rw [if_neg e]
      exact GI_rrn f _ (GI_rs h e)
theorem rrn_c : ∀ f (z : RS), (rrn A b f z).2.2 ≤ z.2.2 + f
  | 0, _ => Nat.le_refl _
  | f + 1, z => by
    rw [rrn]
    split
    · omega
    · have := rrn_c f (rs A b z)
      have h2 : (rs A b z).2.2 ≤ z.2.2 + 1 := by
        unfold rs
        split
        · omega
        · dsimp only
          split <;> omega
      omega
end RG
