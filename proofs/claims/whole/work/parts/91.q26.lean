/-! CALLS: wish -/
section RB
variable {n m : Nat} {g : Nat → zC} {I I2 A A' : Nat → Nat → Int32} {J J2 : Nat → Nat → Int64} {N S U b : Nat} {c c' : Nat → Int32}
/-- the class's likings told anew -/
def wLike (v : Nat → Int64) (p k : Nat) (I : Nat → Nat → Int32) : Nat → Nat → Int32 := zu (zu I (16 + 13) (p * 6 + k) (v k).toInt32) (16 + 12) p (nI (k + 1))
def wLikes (v : Nat → Int64) (p K : Nat) (I : Nat → Nat → Int32) : Nat → Nat → Int32 := zfor (wLike v p) 0 K (zu I (16 + 12) p 0)
theorem wLikes_spec {v : Nat → Int64} {p K : Nat} : (∀ j, j < 17 → j ≠ 12 → j ≠ 13 → wLikes v p K I (16 + j) = I (16 + j)) ∧ (∀ a, (∀ i, i < 17 → a ≠ 16 + i) → wLikes v p K I a = I a) ∧ wLikes v p K I (16 + 12) = fu (I (16 + 12)) p (nI K) ∧ (∀ j, wLikes v p K I (16 + 13) j = if p * 6 ≤ j ∧ j < p * 6 + K then (v (j - p * 6)).toInt32 else I (16 + 13) j) := by
  have hz := zfor_inv (f := wLike v p) (P := fun k x => (∀ j, j < 17 → j ≠ 12 → j ≠ 13 → x (16 + j) = I (16 + j)) ∧ (∀ a, (∀ i, i < 17 → a ≠ 16 + i) → x a = I a) ∧ x (16 + 12) = fu (I (16 + 12)) p (nI k) ∧ (∀ j, x (16 + 13) j = if p * 6 ≤ j ∧ j < p * 6 + k then (v (j - p * 6)).toInt32 else I (16 + 13) j)) ?_ K 0 (zu I (16 + 12) p 0) ⟨?_, ?_, ?_, ?_⟩
  · rw [Nat.zero_add] at hz
    exact hz
  · rintro k x ⟨h1, h2, h3, h4⟩
    unfold wLike
    refine ⟨fun j hj a b => ?_, fun a ha => ?_, ?_, fun j => ?_⟩
    · rw [zu_far _ _ _ (by omega), zu_far _ _ _ (by omega)]
      exact h1 j hj a b
    · rw [zu_far _ _ _ (ha 12 (by decide)), zu_far _ _ _ (ha 13 (by decide))]
      exact h2 a ha
    · rw [zu_fu, zr_same, zu_far _ _ _ (by decide), h3]
      funext j
      unfold fu
      by_cases e : j = p <;> simp [e]
    · rw [zu_far _ _ _ (by decide), zu_row, h4]
      by_cases e : j = p * 6 + k
      · rw [if_pos e, if_pos (by omega), e]
        congr 2
        omega
      · rw [if_neg e]
        by_cases e2 : p * 6 ≤ j ∧ j < p * 6 + k
        · rw [if_pos e2, if_pos (by omega)]
        · rw [if_neg e2, if_neg (by omega)]
  · intro j _ a _
    exact zu_far _ _ _ (by omega)
  · intro a ha
    exact zu_far _ _ _ (ha 12 (by decide))
  · rw [zu_fu, zr_same]
    rfl
  · intro j
    rw [zu_far _ _ _ (by decide), if_neg (by omega)]
theorem wLikes_k {v : Nat → Int64} {p K q : Nat} (hK : K ≤ 6) : pK (wLikes v p K I) 16 q = if q = p then K else pK I 16 q := by
  unfold pK
  rw [wLikes_spec.2.2.1]
  by_cases e : q = p
  · rw [e, fu_eq, if_pos rfl, nI_clamp (by omega)]
  · rw [fu_ne _ _ e, if_neg e]
theorem WT.wish {v : Nat → Int64} {p K : Nat} (hW : WT I 16 N S U) (hp : p < N) (hK : K ≤ 6) (hv : ∀ k, k < K → ∃ t, t < S ∧ (v k).toInt32 = nI t) : WT (wLikes v p K I) 16 N S U := by
  obtain ⟨s1, _, s3, s4⟩ := wLikes_spec (I := I) (v := v) (p := p) (K := K)
  have h0 : wLikes v p K I 16 = I 16 := s1 0 (by decide) (by decide) (by decide)
  have hQ : qN (wLikes v p K I) 16 = qN I 16 := qN_far (s1 14 (by decide) (by decide) (by decide))
  have g2 := s1 2 (by decide) (by decide) (by decide)
  have g3 := s1 3 (by decide) (by decide) (by decide)
  have g5 := s1 5 (by decide) (by decide) (by decide)
  have g6 := s1 6 (by decide) (by decide) (by decide)
  have g7 := s1 7 (by decide) (by decide) (by decide)
  have g8 := s1 8 (by decide) (by decide) (by decide)
  have g9 := s1 9 (by decide) (by decide) (by decide)
  have g10 := s1 10 (by decide) (by decide) (by decide)
  have g11 := s1 11 (by decide) (by decide) (by decide)
  have g14 := s1 14 (by decide) (by decide) (by decide)
  have g15 := s1 15 (by decide) (by decide) (by decide)
  have g16 := s1 16 (by decide) (by decide) (by decide)
  apply WT.intro
  · rw [h0]; exact hW.hN
  · exact hW.hU
  · exact hW.h12
  · rw [h0]; exact hW.hS
  · exact hW.h6
  · rw [h0]; exact hW.hY
  · rw [h0]; exact hW.hM
  · rw [h0]; exact hW.hL
  · rw [h0]; exact hW.mis
  · rw [g2]; exact hW.worth
  · rw [g3]; exact hW.sold
  · rw [g5]; exact hW.born
  · rw [g6]; exact hW.died
  · rw [g7]; exact hW.bears
  · rw [g8]; exact hW.coins
  · rw [g9]; exact hW.wed
  · rw [g10]; exact hW.one
  · rw [g10]; exact hW.two
  · rw [g11]; exact hW.away
  · rw [g6, g11]; exact hW.dead
  · intro q hq
    rw [s3]
    by_cases e : q = p
    · rw [e, fu_eq]
      exact ⟨K, hK, rfl⟩
    · rw [fu_ne _ _ e]
      exact hW.likes q hq
  · intro q k hq hk
    rw [wLikes_k hK] at hk
    rw [s4]
    by_cases e : q = p
    · subst e
      rw [if_pos rfl] at hk
      rw [if_pos (by omega), show q * 6 + k - q * 6 = k by omega]
      exact hv k hk
    · rw [if_neg e] at hk
      have h6 := hW.pK6 q hq
      rw [if_neg (by omega)]
      exact hW.like q k hq hk
  · rw [hQ, g14]; exact hW.hQ
  · rw [hQ, g15]; exact hW.who
  · rw [hQ, g16]; exact hW.want
  · rw [hQ, g15]; exact hW.uniq
theorem RT.wish {v : Nat → Int64} {p K : Nat} (hR : RT I 16 c N S) (hW : WT I 16 N S U) (hp : p < N) (hK : K ≤ 6) : RT (wLikes v p K I) 16 (fu (zfor (fun k x => fu x (138 + (6 * p + k)) (v k).toInt32) 0 K c) (126 + p) (nI K)) N S := by
  have h12 := hW.h12
  have hz : ∀ j, zfor (fun k x => fu x (138 + (6 * p + k)) (v k).toInt32) 0 K c j = if 138 + 6 * p ≤ j ∧ j < 138 + 6 * p + K then (v (j - (138 + 6 * p))).toInt32 else c j := by
    intro j
    have hz := zfor_inv (f := fun k (x : Nat → Int32) => fu x (138 + (6 * p + k)) (v k).toInt32) (P := fun k x => x j = if 138 + 6 * p ≤ j ∧ j < 138 + 6 * p + k then (v (j - (138 + 6 * p))).toInt32 else c j) ?_ K 0 c (by rw [if_neg (by omega)])
    · rw [Nat.zero_add] at hz
      exact hz
    · intro k x hx
      by_cases e : j = 138 + (6 * p + k)
      · rw [e, fu_eq, if_pos (by omega)]
        congr 2
        omega
      · rw [fu_ne _ _ e, hx]
        by_cases e2 : 138 + 6 * p ≤ j ∧ j < 138 + 6 * p + k
        · rw [if_pos e2, if_pos (by omega)]
        · rw [if_neg e2, if_neg (by omega)]
  obtain ⟨s1, _, s3, s4⟩ := wLikes_spec (I := I) (v := v) (p := p) (K := K)
  refine hR.lk h12 hW.h6 hW.hQ.2 s1 (fun j hj hj2 => ?_) (fun q hq => ?_) (fun q k hq hk => ?_)
  · rw [fu_ne _ _ (by omega), hz, if_neg (by omega)]
  · rw [s3]
    by_cases e : q = p
    · rw [e, fu_eq, fu_eq]
    · rw [fu_ne _ _ (by omega), fu_ne _ _ e, hz, if_neg (by omega)]
      exact hR.likes q hq
  · rw [wLikes_k hK] at hk
    rw [fu_ne _ _ (by omega), hz, s4]
    by_cases e : q = p
    · subst e
      rw [if_pos rfl] at hk
      rw [if_pos (by omega), if_pos (by omega)]
      congr 2
      omega
    · rw [if_neg e] at hk
      have h6 := hW.pK6 q hq
      rw [if_neg (by omega), if_neg (by omega)]
      exact hR.like q k hq hk
end RB
