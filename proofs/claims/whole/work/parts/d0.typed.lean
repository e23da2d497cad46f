/-! WHAT A CALL ANSWERS, by its method's type -/
theorem zstep_ret {y pc len : Nat} {i : Instr} {ls : zL} {st : List Value} {h : zH} {q : Option Value × zH} (hs : zstep y pc i len ls st h = some (.inr (.inl q))) : zretn y i st = some q.1 := by
  unfold zstep at hs
  split at hs
  · cases hs
  · split at hs
    · cases hs
    · split at hs
      · cases hs
      · split at hs
        · cases hs
        · split at hs
          · rename_i r hr
            injection hs with hs
            injection hs with hs
            injection hs with hs
            subst hs
            exact hr
          · split at hs
            · cases hs
            · cases hs
theorem zretn_ty {y : Nat} {i : Instr} {st : List Value} {v : Value} (h : zretn y i st = some (some v)) : (zrt y = some .long ∧ ∃ x, v = .long x) ∨ (zrt y ≠ some .long ∧ ∃ x, v = .int x) := by
  unfold zretn at h
  split at h
  · split at h
    · rename_i _ ty w hr
      split at h
      · rename_i hf
        injection h with h
        injection h with h
        refine .inr ⟨fun q => ?_, w, h.symm⟩
        rw [hr] at q
        injection q with q
        rw [q] at hf
        exact absurd hf (by simp [zfit])
      · cases h
    · cases h
  · split at h
    · rename_i _ w hr
      injection h with h
      injection h with h
      exact .inl ⟨hr, w, h.symm⟩
    · cases h
  · split at h
    · cases h
    · cases h
  · cases h
theorem zrun_ty : ∀ (n d y pc : Nat) (ls : zL) (st : List Value) (h : zH) (v : Value) (h' : zH), zrun n d y pc ls st h = some (some v, h') → (zrt y = some .long ∧ ∃ x, v = .long x) ∨ (zrt y ≠ some .long ∧ ∃ x, v = .int x) := by
  intro n
  induction n with
  | zero =>
    intro d y pc ls st h v h' hr
    rw [zrun] at hr
    cases hr
  | succ n ih =>
    intro d y pc ls st h v h' hr
    rw [zrun] at hr
    split at hr
    · cases hr
    · rename_i i len hz
      split at hr
      · cases hr
      · exact ih _ _ _ _ _ _ _ _ hr
      · rename_i q hq
        have := zstep_ret hq
        injection hr with hr
        rw [hr] at this
        exact zretn_ty this
      · split at hr
        · cases hr
        · split at hr
          · cases hr
          · exact ih _ _ _ _ _ _ _ _ hr
theorem zcall_int {d y : Nat} {as : List Value} {h h' : zH} {v : Value} (hc : zcall d y as h = some (some v, h')) (ht : zrt y ≠ some .long) : ∃ x, v = .int x := by
  obtain ⟨n, hn⟩ := zexec_some.mp hc
  rcases zrun_ty n _ _ _ _ _ _ _ _ hn with ⟨h1, _⟩ | ⟨_, h2⟩
  · exact absurd h1 ht
  · exact h2
theorem zcall_long {d y : Nat} {as : List Value} {h h' : zH} {v : Value} (hc : zcall d y as h = some (some v, h')) (ht : zrt y = some .long) : ∃ x, v = .long x := by
  obtain ⟨n, hn⟩ := zexec_some.mp hc
  rcases zrun_ty n _ _ _ _ _ _ _ _ hn with ⟨_, h2⟩ | ⟨h1, _⟩
  · exact h2
  · exact absurd ht h1
/-! THE SCRIPT -/
theorem sc_ld {h : zH} {L k : Nat} {xs : Nat → Int32} (hs : h.2.2 0 = .inl (.short, L, .inl xs)) (hk : k < L) (h31 : L < 2 ^ 31) : zld h 0 (nI k) = some (xs k) := by
  have h1 : zig h 0 k = none := by simp [zig, hs]
  have h2 : zsc h 0 k = some (xs k) := by simp [zsc, hs, hk]
  unfold zld
  rw [if_neg (nI_pos (by omega)), nI_clamp (by omega), h1]
  exact h2
theorem sc_len {h : zH} {L : Nat} {xs : Nat → Int32} (hs : h.2.2 0 = .inl (.short, L, .inl xs)) : zlen h 0 = some L := by simp [zlen, hs]
