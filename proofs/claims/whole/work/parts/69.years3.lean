/-! YEARS: what they do, who dies in them -/
section YS
variable {n m : Nat} {g : Nat → zC} {I A : Nat → Nat → Int32} {J : Nat → Nat → Int64} {b N S U Y : Nat}
theorem yDie_far {a p : Nat} {x : Int32 × (Nat → Nat → Int32)} (h6 : a ≠ b + 6) (h9 : a ≠ b + 9) (h11 : a ≠ b + 11) (h14 : a ≠ b + 14) (h15 : a ≠ b + 15) (h16 : a ≠ b + 16) : (yDie b p x).2 a = x.2 a := by
  unfold yDie
  split
  · exact tBury_far h6 h9 h11 h14 h15 h16
  · rfl
theorem yDead_far {a : Nat} (h0 : a ≠ b) (h6 : a ≠ b + 6) (h9 : a ≠ b + 9) (h11 : a ≠ b + 11) (h14 : a ≠ b + 14) (h15 : a ≠ b + 15) (h16 : a ≠ b + 16) : (yDead A b N).2 a = A a := by
  refine (zfor_inv (f := yDie b) (P := fun _ x => x.2 a = zu A b 0 (A b 0 + 1) a) (fun p x hx => ?_) N 0 _ rfl).trans (zu_far _ _ _ h0)
  rw [yDie_far h6 h9 h11 h14 h15 h16]
  exact hx
theorem yDead_b : (yDead A b N).2 b = zu A b 0 (A b 0 + 1) b := by
  refine zfor_inv (f := yDie b) (P := fun _ x => x.2 b = zu A b 0 (A b 0 + 1) b) (fun p x hx => ?_) N 0 _ rfl
  rw [yDie_far (by omega) (by omega) (by omega) (by omega) (by omega) (by omega)]
  exact hx
theorem lapse_far {a : Nat} (h7 : a ≠ b + 7) : zfor (yLapse b) 0 N A a = A a := by
  refine zfor_inv (f := yLapse b) (P := fun _ x => x a = A a) (fun p x hx => ?_) N 0 _ rfl
  unfold yLapse
  split
  · rw [zu_far _ _ _ h7]
    exact hx
  · exact hx
theorem tYear_b : tYear A b N b = zu A b 0 (A b 0 + 1) b := by
  unfold tYear
  rw [tSettle_far (by omega) (by omega) (by omega) (by omega), lapse_far (by omega), yDead_b]
theorem tYear_6 : tYear A b N (b + 6) = (yDead A b N).2 (b + 6) := by
  unfold tYear
  rw [tSettle_far (by omega) (by omega) (by omega) (by omega), lapse_far (by omega)]
theorem tYear_out {a : Nat} (h : ∀ i, i < 17 → a ≠ b + i) : tYear A b N a = A a := by
  have h0 := h 0 (by decide)
  unfold tYear
  rw [tSettle_far (h 7 (by decide)) (h 14 (by decide)) (h 15 (by decide)) (h 16 (by decide)), lapse_far (h 7 (by decide)), yDead_far (by simpa using h0) (h 6 (by decide)) (h 9 (by decide)) (h 11 (by decide)) (h 14 (by decide)) (h 15 (by decide)) (h 16 (by decide))]
theorem tYears_succ {k : Nat} : tYears A b N (k + 1) = ((tYears A b N k).1 ||| (yDead (tYears A b N k).2 b N).1, tYear (tYears A b N k).2 b N) := by
  unfold tYears
  rw [zfor_succ]
theorem tYears_out {a : Nat} (h : ∀ i, i < 17 → a ≠ b + i) : ∀ k, (tYears A b N k).2 a = A a
  | 0 => rfl
  | k + 1 => by
    rw [tYears_succ]
    dsimp only
    rw [tYear_out h, tYears_out h k]
theorem WT.year2 (hW : WT A b N S U) (hY : A b 0 = nI Y) (h0 : 1000 ≤ Y) (h : Y + 1 ≤ U) : WT (zu A b 0 (A b 0 + 1)) b N S U := by
  refine hW.row0 (fun j _ h => zu_0o h) ?_ ?_ ?_ ?_ ?_ ?_
  · rw [zu_row, if_neg (by decide)]; exact hW.hN
  · rw [zu_row, if_neg (by decide)]; exact hW.hS
  · exact ⟨Y + 1, by omega, h, by rw [zu_row, if_pos rfl, hY, nI_1]⟩
  · rw [zu_row, if_neg (by decide)]; exact hW.hM
  · rw [zu_row, if_neg (by decide)]; exact hW.hL
  · rw [zu_row, if_neg (by decide)]; exact hW.mis
theorem WT.yearW2 (hW : WT A b N S U) (hY : A b 0 = nI Y) (h0 : 1000 ≤ Y) (h : Y + 1 ≤ U) : WT (tYear A b N) b N S U ∧ tYear A b N b 0 = nI (Y + 1) := by
  refine ⟨(zfor_inv (f := yLapse b) (P := fun _ x => WT x b N S U) (fun _ _ h => yLapse_W h) N 0 _ (zfor_inv (f := yDie b) (P := fun _ x => WT x.2 b N S U) (fun _ _ h => yDie_W h) N 0 (0, zu A b 0 (A b 0 + 1)) (hW.year2 hY h0 h))).settle, ?_⟩
  rw [tYear_b, zu_row, if_pos rfl, hY, nI_1]
theorem WT.tYears2 (hW : WT A b N S U) (hY : A b 0 = nI Y) (h0 : 1000 ≤ Y) : ∀ k, Y + k ≤ U → WT (tYears A b N k).2 b N S U ∧ (tYears A b N k).2 b 0 = nI (Y + k)
  | 0, _ => ⟨hW, hY⟩
  | k + 1, h => by
    obtain ⟨h1, h2⟩ := WT.tYears2 hW hY h0 k (by omega)
    rw [tYears_succ]
    exact h1.yearW2 (Y := Y + k) h2 (by omega) (by omega)
theorem WT.tYearsU (hW : WT A b N S U) : ∀ k, U + k ≤ 9999 → WT (tYears A b N k).2 b N S (U + k)
  | 0, _ => hW
  | k + 1, h => by
    rw [tYears_succ]
    exact (WT.tYearsU hW k (by omega)).yearW (by omega)
theorem tBury_6 {Q p : Nat} : tBury A b Q p (b + 6) = fu (A (b + 6)) p (A b 0) := by
  unfold tBury
  rw [tDiv_far (by omega), press_row (by decide) (by decide) (by decide), zu_oo (i := 11) (j := 6) (by decide), zu_fu, zr_same]
theorem dead_spec (hW : WT A b N S U) (hY : A b 0 = nI Y) (hYU : Y + 1 ≤ 9999) : isS (yDead A b N).1 (fun q => decide (q < N) && decide (A (b + 6) q = -1) && decide ((yDead A b N).2 (b + 6) q ≠ -1)) ∧ ∀ q, A (b + 6) q ≠ -1 → (yDead A b N).2 (b + 6) q = A (b + 6) q := by
  have h12 := hW.h12
  have hz := zfor_inv (f := yDie b) (P := fun p x => x.2 b = zu A b 0 (A b 0 + 1) b ∧ (p ≤ N → isS x.1 (fun q => decide (q < p) && decide (A (b + 6) q = -1) && decide (x.2 (b + 6) q ≠ -1))) ∧ (∀ q, A (b + 6) q ≠ -1 → x.2 (b + 6) q = A (b + 6) q) ∧ ∀ q, p ≤ q → x.2 (b + 6) q = A (b + 6) q) ?_ N 0 (0, zu A b 0 (A b 0 + 1)) ⟨rfl, fun _ => ?_, fun q _ => by dsimp only; rw [zu_0o (j := 6) (by decide)], fun q _ => by dsimp only; rw [zu_0o (j := 6) (by decide)]⟩
  · rw [Nat.zero_add] at hz
    exact ⟨hz.2.1 (Nat.le_refl N), hz.2.2.1⟩
  · rintro p x ⟨h1, h2, h3, h4⟩
    have hy : x.2 b 0 = nI (Y + 1) := by rw [h1, zu_row, if_pos rfl, hY, nI_1]
    refine ⟨?_, fun hp => ?_, ?_, ?_⟩
    · rw [yDie_far (by omega) (by omega) (by omega) (by omega) (by omega) (by omega)]
      exact h1
    · have s1 := h2 (by omega)
      unfold yDie
      split
      · rename_i hc
        obtain ⟨r, hr, e, hf⟩ := isS_or s1 (isS_bt (show p < 12 by omega))
        refine ⟨r, hr, e, fun q => ?_⟩
        rw [hf]
        simp only [tBury_6, hy]
        have hpd := hc.1
        rw [h4 p (Nat.le_refl p)] at hpd
        by_cases e : q = p
        · subst e
          simp only [fu_eq]
          have : nI (Y + 1) ≠ -1 := nI_m1 (by omega)
          simp [hpd, this]
        · simp only [fu_ne _ _ e]
          have e1 : decide (q < p + 1) = decide (q < p) := by
            congr 1
            apply propext
            omega
          have e2 : ¬ p = q := fun h => e h.symm
          simp [e1, e2]
      · rename_i hc
        obtain ⟨r, hr, e, hf⟩ := s1
        refine ⟨r, hr, e, fun q => ?_⟩
        rw [hf]
        dsimp only
        by_cases e : q = p
        · subst e
          have h5 := h4 q (Nat.le_refl q)
          simp [h5]
        · have e1 : decide (q < p + 1) = decide (q < p) := by
            congr 1
            apply propext
            omega
          simp [e1]
    · intro q hq
      unfold yDie
      split
      · rename_i hc
        have e : q ≠ p := fun e => by
          subst e
          rw [h3 q hq] at hc
          exact hq hc.1
        dsimp only
        rw [tBury_6, fu_ne _ _ e]
        exact h3 q hq
      · exact h3 q hq
    · intro q hq
      unfold yDie
      split
      · dsimp only
        rw [tBury_6, fu_ne _ _ (by omega)]
        exact h4 q (by omega)
      · exact h4 q (by omega)
  · obtain ⟨r, hr, e, hf⟩ := isS_0
    exact ⟨r, hr, e, fun q => by rw [hf]; simp⟩
theorem years_spec (hW : WT A b N S U) : ∀ k, U + k ≤ 9999 → isS (tYears A b N k).1 (fun q => decide (q < N) && decide (A (b + 6) q = -1) && decide ((tYears A b N k).2 (b + 6) q ≠ -1)) ∧ ∀ q, A (b + 6) q ≠ -1 → (tYears A b N k).2 (b + 6) q = A (b + 6) q
  | 0, _ => by
    obtain ⟨r, hr, e, hf⟩ := isS_0
    refine ⟨⟨r, hr, e, fun q => ?_⟩, fun _ _ => rfl⟩
    rw [hf]
    show false = (decide (q < N) && decide (A (b + 6) q = -1) && decide (A (b + 6) q ≠ -1))
    by_cases h : A (b + 6) q = -1 <;> simp [h]
  | k + 1, hk => by
    obtain ⟨s1, s2⟩ := years_spec hW k (by omega)
    have w := hW.tYearsU k (by omega)
    obtain ⟨y, y1, y2, y3⟩ := w.hY
    obtain ⟨d1, d2⟩ := dead_spec w y3 (by omega)
    rw [tYears_succ]
    simp only [tYear_6]
    refine ⟨?_, fun q hq => ?_⟩
    · obtain ⟨r, hr, e, hf⟩ := isS_or s1 d1
      refine ⟨r, hr, e, fun q => ?_⟩
      rw [hf]
      dsimp only
      by_cases h1 : q < N
      · by_cases h2 : A (b + 6) q = -1
        · by_cases h3 : (tYears A b N k).2 (b + 6) q = -1
          · simp [h1, h2, h3]
          · have h4 := d2 q h3
            simp [h1, h2, h3, h4]
        · have h3 := s2 q h2
          have h4 : (tYears A b N k).2 (b + 6) q ≠ -1 := by rw [h3]; exact h2
          simp [h1, h2, h4]
      · simp [h1]
    · have h3 := s2 q hq
      rw [d2 q (by rw [h3]; exact hq), h3]
end YS
