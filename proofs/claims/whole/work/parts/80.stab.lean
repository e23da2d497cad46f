/-! SETS THAT GROW come to an end -/
section ST
theorem cnt_mono {f f' : Nat → Bool} : ∀ k p a a', (∀ q, p ≤ q → q < p + k → f q = true → f' q = true) → a ≤ a' → zfor (fun p a => if f p = true then a + 1 else a) p k a ≤ zfor (fun p a => if f' p = true then a + 1 else a) p k a'
  | 0, _, _, _, _, h => h
  | k + 1, p, a, a', hf, h => by
    rw [zfor, zfor]
    refine cnt_mono k (p + 1) _ _ (fun q h1 h2 => hf q (by omega) (by omega)) ?_
    by_cases h1 : f p = true
    · rw [if_pos h1, if_pos (hf p (by omega) (by omega) h1)]
      omega
    · rw [if_neg h1]
      split <;> omega
theorem cnt_more {f f' : Nat → Bool} {p : Nat} (hp : p < 12) (h : ∀ q, q < 12 → f q = true → f' q = true) (h1 : f p = false) (h2 : f' p = true) : cnt f 12 + 1 ≤ cnt f' 12 := by
  rw [← cnt_set h1 hp]
  unfold cnt
  refine cnt_mono 12 0 0 0 (fun q _ hq e => ?_) (Nat.le_refl 0)
  by_cases e2 : p = q
  · subst e2
    exact h2
  · simp [e2] at e
    exact h q (by omega) e
theorem cnt_full {f : Nat → Bool} (h : 12 ≤ cnt f 12) : ∀ p, p < 12 → f p = true := by
  intro p hp
  cases h1 : f p
  · have := cnt_more (f := f) (f' := fun _ => true) hp (fun _ _ _ => rfl) h1 rfl
    have h2 : cnt (fun _ => true) 12 = 12 := by decide
    omega
  · rfl
def iter (G : (Nat → Bool) → Nat → Bool) (f : Nat → Bool) : Nat → Nat → Bool
  | 0 => f
  | k + 1 => G (iter G f k)
theorem stab {G : (Nat → Bool) → Nat → Bool} {f : Nat → Bool} (infl : ∀ f p, f p = true → G f p = true) (ext : ∀ f f', (∀ p, p < 12 → f p = f' p) → ∀ p, p < 12 → G f p = G f' p) : ∀ k, (∀ p, p < 12 → iter G f (k + 1) p = iter G f k p) ∨ cnt f 12 + (k + 1) ≤ cnt (iter G f (k + 1)) 12
  | 0 => by
    by_cases h : ∀ p, p < 12 → iter G f 1 p = iter G f 0 p
    · exact Or.inl h
    · refine Or.inr ?_
      obtain ⟨p, hp⟩ := Classical.not_forall.mp h
      obtain ⟨hp, hne⟩ := Classical.not_imp.mp hp
      have h1 : f p = false := by
        cases e : f p
        · rfl
        · have : iter G f 1 p = true := infl f p e
          exact absurd (this.trans e.symm) hne
      have h2 : iter G f 1 p = true := by
        cases e : iter G f 1 p
        · exact absurd (e.trans h1.symm) hne
        · rfl
      exact cnt_more hp (fun q _ e => infl f q e) h1 h2
  | k + 1 => by
    rcases stab infl ext k with h | h
    · exact Or.inl (fun p hp => ext _ _ h p hp)
    · by_cases h3 : ∀ p, p < 12 → iter G f (k + 2) p = iter G f (k + 1) p
      · exact Or.inl h3
      · refine Or.inr ?_
        obtain ⟨p, hp⟩ := Classical.not_forall.mp h3
        obtain ⟨hp, hne⟩ := Classical.not_imp.mp hp
        have h1 : iter G f (k + 1) p = false := by
          cases e : iter G f (k + 1) p
          · rfl
          · have : iter G f (k + 2) p = true := infl _ p e
            exact absurd (this.trans e.symm) hne
        have h2 : iter G f (k + 2) p = true := by
          cases e : iter G f (k + 2) p
          · exact absurd (e.trans h1.symm) hne
          · rfl
        have h9 : cnt (iter G f (k + 1)) 12 + 1 ≤ cnt (iter G f (k + 1 + 1)) 12 := cnt_more hp (fun q _ e => infl (iter G f (k + 1)) q e) h1 h2
        omega
/-- with one to begin with, eleven steps reach all -/
theorem stab11 {G : (Nat → Bool) → Nat → Bool} {f : Nat → Bool} (infl : ∀ f p, f p = true → G f p = true) (ext : ∀ f f', (∀ p, p < 12 → f p = f' p) → ∀ p, p < 12 → G f p = G f' p) (h1 : 1 ≤ cnt f 12) : ∀ p, p < 12 → iter G f 12 p = iter G f 11 p := by
  intro p hp
  rcases stab infl ext 10 with h | h
  · exact ext _ _ h p hp
  · have h' : cnt f 12 + 11 ≤ cnt (iter G f 11) 12 := h
    have hf := cnt_full (f := iter G f 11) (by omega)
    rw [hf p hp]
    exact infl _ p (hf p hp)
theorem iter_mono {G : (Nat → Bool) → Nat → Bool} {f : Nat → Bool} (infl : ∀ f p, f p = true → G f p = true) {p : Nat} : ∀ j k, iter G f k p = true → iter G f (k + j) p = true
  | 0, _, h => h
  | j + 1, k, h => infl _ p (iter_mono infl j k h)
end ST
