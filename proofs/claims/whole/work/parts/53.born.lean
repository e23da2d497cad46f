/-! ONE MORE PERSON, in both -/
section BO
variable {n m : Nat} {g : Nat → zC} {I A A' : Nat → Nat → Int32} {J : Nat → Nat → Int64} {b N S U : Nat} {c c' : Nat → Int32} {x y u v : Int32}
def tNewA (A : Nat → Nat → Int32) (b N : Nat) (y x u v : Int32) : Nat → Nat → Int32 := zu (zu (zu (tAdd A b N y) (b + 7) N x) (b + 10) (2 * N) u) (b + 10) (2 * N + 1) v
theorem tNew_0 {l : Nat} : tNewA A b N y x u v b l = if l = 4 then nI (N + 1) else A b l := by
  simp [tNewA, tAdd, zu]
theorem tNew_2 : tNewA A b N y x u v (b + 2) = A (b + 2) := by
  funext l
  simp [tNewA, tAdd, zu]
theorem tNew_3 : tNewA A b N y x u v (b + 3) = A (b + 3) := by
  funext l
  simp [tNewA, tAdd, zu]
theorem tNew_5 : tNewA A b N y x u v (b + 5) = fu (A (b + 5)) N y := by
  funext l
  simp [tNewA, tAdd, zu, fu]
theorem tNew_6 : tNewA A b N y x u v (b + 6) = fu (A (b + 6)) N (-1) := by
  funext l
  simp [tNewA, tAdd, zu, fu]
theorem tNew_7 : tNewA A b N y x u v (b + 7) = fu (A (b + 7)) N x := by
  funext l
  by_cases h : l = N <;> simp [tNewA, tAdd, zu, fu, h]
theorem tNew_8 : tNewA A b N y x u v (b + 8) = fu (A (b + 8)) N 0 := by
  funext l
  simp [tNewA, tAdd, zu, fu]
theorem tNew_9 : tNewA A b N y x u v (b + 9) = fu (A (b + 9)) N (-1) := by
  funext l
  simp [tNewA, tAdd, zu, fu]
theorem tNew_10 {l : Nat} : tNewA A b N y x u v (b + 10) l = if l = 2 * N + 1 then v else if l = 2 * N then u else A (b + 10) l := by
  by_cases h1 : l = 2 * N + 1
  · simp [tNewA, tAdd, zu, h1]
  · by_cases h2 : l = 2 * N <;> simp [tNewA, tAdd, zu, h1, h2]
theorem tNew_11 : tNewA A b N y x u v (b + 11) = fu (A (b + 11)) N (-1) := by
  funext l
  simp [tNewA, tAdd, zu, fu]
theorem tNew_12 : tNewA A b N y x u v (b + 12) = fu (A (b + 12)) N 0 := by
  funext l
  simp [tNewA, tAdd, zu, fu]
theorem tNew_13 : tNewA A b N y x u v (b + 13) = A (b + 13) := by
  funext l
  simp [tNewA, tAdd, zu]
theorem tNew_14 : tNewA A b N y x u v (b + 14) = A (b + 14) := by
  funext l
  simp [tNewA, tAdd, zu]
theorem tNew_15 : tNewA A b N y x u v (b + 15) = A (b + 15) := by
  funext l
  simp [tNewA, tAdd, zu]
theorem tNew_16 : tNewA A b N y x u v (b + 16) = A (b + 16) := by
  funext l
  simp [tNewA, tAdd, zu]
theorem tNew_far {a : Nat} (h : ∀ i, i < 17 → a ≠ b + i) : tNewA A b N y x u v a = A a := by
  have h0 := h 0 (by decide)
  have h5 := h 5 (by decide)
  have h6 := h 6 (by decide)
  have h7 := h 7 (by decide)
  have h8 := h 8 (by decide)
  have h9 := h 9 (by decide)
  have h10 := h 10 (by decide)
  have h11 := h 11 (by decide)
  have h12 := h 12 (by decide)
  funext l
  simp only [Nat.add_zero] at h0
  simp [tNewA, tAdd, zu, h0, h5, h6, h7, h8, h9, h10, h11, h12]
theorem tNew_q : qN (tNewA A b N y x u v) b = qN A b := qN_far tNew_14
theorem tNew_k {p : Nat} (hp : p < N) : pK (tNewA A b N y x u v) b p = pK A b p := by
  unfold pK
  rw [tNew_12, fu_ne _ _ (by omega)]
theorem tNew_kN : pK (tNewA A b N y x u v) b N = 0 := by
  unfold pK
  rw [tNew_12, fu_eq]
  rfl
theorem RT.born1 (h : RT A b c N S) (hW : WT A b N S U) (hN : N < 12) (h1 : c' 1 = nI (N + 1)) (hold : ∀ j, j < 234 → j ≠ 1 → j ≠ 18 + N → j ≠ 30 + N → j ≠ 42 + N → j ≠ 54 + N → j ≠ 66 + N → j ≠ 78 + N → j ≠ 90 + N → j ≠ 102 + N → j ≠ 114 + N → j ≠ 126 + N → c' j = c j) (v18 : c' (18 + N) = y) (v30 : c' (30 + N) = x) (v42 : c' (42 + N) = 0) (v54 : c' (54 + N) = 0) (v66 : c' (66 + N) = 0) (v78 : c' (78 + N) = -1) (v90 : c' (90 + N) = u) (v102 : c' (102 + N) = v) (v114 : c' (114 + N) = 0) (v126 : c' (126 + N) = 0) : RT (tNewA A b N y x u v) b c' (N + 1) S := by
  have h6 := hW.h6
  have hk := hW.pK6
  have hq := hW.hQ.2
  have o : ∀ j, j < 234 → j ≠ 1 → j ≠ 18 + N → j ≠ 30 + N → j ≠ 42 + N → j ≠ 54 + N → j ≠ 66 + N → j ≠ 78 + N → j ≠ 90 + N → j ≠ 102 + N → j ≠ 114 + N → j ≠ 126 + N → c' j = c j := hold
  apply RT.intro
  · rw [o 0 (by omega) (by omega) (by omega) (by omega) (by omega) (by omega) (by omega) (by omega) (by omega) (by omega) (by omega) (by omega), tNew_0, if_neg (by decide)]; exact h.n0
  · rw [h1, tNew_0, if_pos rfl]
  · rw [o 2 (by omega) (by omega) (by omega) (by omega) (by omega) (by omega) (by omega) (by omega) (by omega) (by omega) (by omega) (by omega), tNew_0, if_neg (by decide)]; exact h.n2
  · rw [o 3 (by omega) (by omega) (by omega) (by omega) (by omega) (by omega) (by omega) (by omega) (by omega) (by omega) (by omega) (by omega), tNew_0, if_neg (by decide)]; exact h.n3
  · rw [o 4 (by omega) (by omega) (by omega) (by omega) (by omega) (by omega) (by omega) (by omega) (by omega) (by omega) (by omega) (by omega), tNew_0, if_neg (by decide)]; exact h.n4
  · rw [o 5 (by omega) (by omega) (by omega) (by omega) (by omega) (by omega) (by omega) (by omega) (by omega) (by omega) (by omega) (by omega), tNew_14]; exact h.n5
  · intro s hs; rw [o _ (by omega) (by omega) (by omega) (by omega) (by omega) (by omega) (by omega) (by omega) (by omega) (by omega) (by omega) (by omega), tNew_2]; exact h.worth s hs
  · intro s hs; rw [o _ (by omega) (by omega) (by omega) (by omega) (by omega) (by omega) (by omega) (by omega) (by omega) (by omega) (by omega) (by omega), tNew_3]; exact h.sold s hs
  · intro p hp
    by_cases e : p = N
    · rw [e, v18, tNew_5, fu_eq]
    · rw [o _ (by omega) (by omega) (by omega) (by omega) (by omega) (by omega) (by omega) (by omega) (by omega) (by omega) (by omega) (by omega), tNew_5, fu_ne _ _ e]; exact h.born p (by omega)
  · intro p hp
    by_cases e : p = N
    · rw [e, v30, tNew_7, fu_eq]
    · rw [o _ (by omega) (by omega) (by omega) (by omega) (by omega) (by omega) (by omega) (by omega) (by omega) (by omega) (by omega) (by omega), tNew_7, fu_ne _ _ e]; exact h.bears p (by omega)
  · intro p hp
    by_cases e : p = N
    · rw [e, v42, tNew_8, fu_eq]
    · rw [o _ (by omega) (by omega) (by omega) (by omega) (by omega) (by omega) (by omega) (by omega) (by omega) (by omega) (by omega) (by omega), tNew_8, fu_ne _ _ e]; exact h.coins p (by omega)
  · intro p hp
    by_cases e : p = N
    · rw [e, v54, tNew_0, if_neg (by decide)]; exact (hW.mis N (Nat.le_refl N) hN).symm
    · rw [o _ (by omega) (by omega) (by omega) (by omega) (by omega) (by omega) (by omega) (by omega) (by omega) (by omega) (by omega) (by omega), tNew_0, if_neg (by decide)]; exact h.miser p (by omega)
  · intro p hp
    by_cases e : p = N
    · rw [e, v66, tNew_6, fu_eq]; rfl
    · rw [o _ (by omega) (by omega) (by omega) (by omega) (by omega) (by omega) (by omega) (by omega) (by omega) (by omega) (by omega) (by omega), tNew_6, fu_ne _ _ e]; exact h.died p (by omega)
  · intro p hp
    by_cases e : p = N
    · rw [e, v78, tNew_9, fu_eq]
    · rw [o _ (by omega) (by omega) (by omega) (by omega) (by omega) (by omega) (by omega) (by omega) (by omega) (by omega) (by omega) (by omega), tNew_9, fu_ne _ _ e]; exact h.wed p (by omega)
  · intro p hp
    by_cases e : p = N
    · rw [e, v90, tNew_10, if_neg (by omega), if_pos rfl]
    · rw [o _ (by omega) (by omega) (by omega) (by omega) (by omega) (by omega) (by omega) (by omega) (by omega) (by omega) (by omega) (by omega), tNew_10, if_neg (by omega), if_neg (by omega)]; exact h.one p (by omega)
  · intro p hp
    by_cases e : p = N
    · rw [e, v102, tNew_10, if_pos rfl]
    · rw [o _ (by omega) (by omega) (by omega) (by omega) (by omega) (by omega) (by omega) (by omega) (by omega) (by omega) (by omega) (by omega), tNew_10, if_neg (by omega), if_neg (by omega)]; exact h.two p (by omega)
  · intro p hp
    by_cases e : p = N
    · rw [e, v114, tNew_11, fu_eq]; rfl
    · rw [o _ (by omega) (by omega) (by omega) (by omega) (by omega) (by omega) (by omega) (by omega) (by omega) (by omega) (by omega) (by omega), tNew_11, fu_ne _ _ e]; exact h.away p (by omega)
  · intro p hp
    by_cases e : p = N
    · rw [e, v126, tNew_12, fu_eq]
    · rw [o _ (by omega) (by omega) (by omega) (by omega) (by omega) (by omega) (by omega) (by omega) (by omega) (by omega) (by omega) (by omega), tNew_12, fu_ne _ _ e]; exact h.likes p (by omega)
  · intro p k hp hk2
    by_cases e : p = N
    · rw [e, tNew_kN] at hk2
      omega
    · rw [tNew_k (by omega)] at hk2
      have := hk p (by omega)
      rw [o _ (by omega) (by omega) (by omega) (by omega) (by omega) (by omega) (by omega) (by omega) (by omega) (by omega) (by omega) (by omega), tNew_13]; exact h.like p k (by omega) hk2
  · intro k hk2
    rw [tNew_q] at hk2
    rw [o _ (by omega) (by omega) (by omega) (by omega) (by omega) (by omega) (by omega) (by omega) (by omega) (by omega) (by omega) (by omega), tNew_15]; exact h.who k hk2
  · intro k hk2
    rw [tNew_q] at hk2
    rw [o _ (by omega) (by omega) (by omega) (by omega) (by omega) (by omega) (by omega) (by omega) (by omega) (by omega) (by omega) (by omega), tNew_16]; exact h.want k hk2
theorem WT.born1 (hW : WT A b N S U) (hN : N < 12) (hy : ∃ k, 1000 ≤ k ∧ k ≤ U ∧ y = nI k) (hx : x = -1 ∨ ∃ s, s < S ∧ x = nI s) (hu : u = -1 ∨ ∃ q, q < N + 1 ∧ u = nI q) (hv : v = -1 ∨ ∃ q, q < N + 1 ∧ v = nI q) : WT (tNewA A b N y x u v) b (N + 1) S U := by
  apply WT.intro
  · rw [tNew_0, if_pos rfl]
  · exact hW.hU
  · omega
  · rw [tNew_0, if_neg (by decide)]; exact hW.hS
  · exact hW.h6
  · rw [tNew_0, if_neg (by decide)]; exact hW.hY
  · rw [tNew_0, if_neg (by decide)]; exact hW.hM
  · rw [tNew_0, if_neg (by decide)]; exact hW.hL
  · rw [tNew_0, if_neg (by decide)]; exact fun p h1 h2 => hW.mis p (by omega) h2
  · rw [tNew_2]; exact hW.worth
  · rw [tNew_3]; exact hW.sold
  · intro p hp
    rw [tNew_5]
    by_cases e : p = N
    · rw [e, fu_eq]; exact hy
    · rw [fu_ne _ _ e]; exact hW.born p (by omega)
  · intro p hp
    rw [tNew_6]
    by_cases e : p = N
    · rw [e, fu_eq]; exact Or.inl rfl
    · rw [fu_ne _ _ e]; exact hW.died p (by omega)
  · intro p hp
    rw [tNew_7]
    by_cases e : p = N
    · rw [e, fu_eq]; exact hx
    · rw [fu_ne _ _ e]; exact hW.bears p (by omega)
  · intro p hp
    rw [tNew_8]
    by_cases e : p = N
    · rw [e, fu_eq]; exact ⟨0, by omega, rfl⟩
    · rw [fu_ne _ _ e]; exact hW.coins p (by omega)
  · intro p hp
    rw [tNew_9]
    by_cases e : p = N
    · rw [e, fu_eq]; exact Or.inl rfl
    · rw [fu_ne _ _ e]
      rcases hW.wed p (by omega) with h | ⟨q, hq, h⟩
      · exact Or.inl h
      · exact Or.inr ⟨q, by omega, h⟩
  · intro p hp
    rw [tNew_10, if_neg (by omega)]
    by_cases e : p = N
    · rw [e, if_pos rfl]; exact hu
    · rw [if_neg (by omega)]
      rcases hW.one p (by omega) with h | ⟨q, hq, h⟩
      · exact Or.inl h
      · exact Or.inr ⟨q, by omega, h⟩
  · intro p hp
    rw [tNew_10]
    by_cases e : p = N
    · rw [e, if_pos rfl]; exact hv
    · rw [if_neg (by omega), if_neg (by omega)]
      rcases hW.two p (by omega) with h | ⟨q, hq, h⟩
      · exact Or.inl h
      · exact Or.inr ⟨q, by omega, h⟩
  · intro p hp
    rw [tNew_11]
    by_cases e : p = N
    · rw [e, fu_eq]; exact Or.inl rfl
    · rw [fu_ne _ _ e]; exact hW.away p (by omega)
  · intro p hp h
    rw [tNew_11]
    by_cases e : p = N
    · rw [e, fu_eq]
    · rw [tNew_6, fu_ne _ _ e] at h
      rw [fu_ne _ _ e]; exact hW.dead p (by omega) h
  · intro p hp
    rw [tNew_12]
    by_cases e : p = N
    · rw [e, fu_eq]; exact ⟨0, by omega, rfl⟩
    · rw [fu_ne _ _ e]; exact hW.likes p (by omega)
  · intro p k hp hk
    by_cases e : p = N
    · rw [e, tNew_kN] at hk
      omega
    · rw [tNew_k (by omega)] at hk
      rw [tNew_13]; exact hW.like p k (by omega) hk
  · rw [tNew_q, tNew_14]; exact hW.hQ
  · intro k hk
    rw [tNew_q] at hk
    rw [tNew_15]
    obtain ⟨p, hp, h⟩ := hW.who k hk
    exact ⟨p, by omega, h⟩
  · intro k hk
    rw [tNew_q] at hk
    rw [tNew_16]; exact hW.want k hk
  · intro i j hij hj
    rw [tNew_q] at hj
    rw [tNew_15]; exact hW.uniq i j hij hj
theorem tNew_free {s : Int32} (hs : s ≠ x) : tFree (tNewA A b N y x u v) b s (N + 1) = tFree A b s N := by
  unfold tFree
  rw [zfor_succ, Nat.zero_add, tNew_7, tNew_6, tNew_0]
  rw [if_neg (show ¬ (fu (A (b + 7)) N x N = s ∧ fu (A (b + 6)) N (-1) N = -1) by rw [fu_eq]; exact fun h => hs h.1.symm), if_neg (show ¬ 1 = 4 by decide)]
  have : ∀ k p (a : Int32), p + k ≤ N → zfor (fun p (a : Int32) => if fu (A (b + 7)) N x p = s ∧ fu (A (b + 6)) N (-1) p = -1 then a + -1 else a) p k a = zfor (fun p (a : Int32) => if A (b + 7) p = s ∧ A (b + 6) p = -1 then a + -1 else a) p k a := by
    intro k
    induction k with
    | zero => intro p a _; rfl
    | succ k ih =>
      intro p a hp
      rw [zfor, zfor, ih (p + 1) _ (by omega), fu_ne _ _ (by omega), fu_ne _ _ (by omega)]
  exact this N 0 _ (by omega)
end BO
