/-! THE REFERENCE: who may what -/
section RH
variable {n m : Nat} {g : Nat → zC} {I A A' : Nat → Nat → Int32} {J : Nat → Nat → Int64} {b N S U : Nat}
theorem v_isGrown {p : Nat} (hW : WT A b N S U) (hR : RT A b (I 148) N S) (hp : p < N) (d : Nat) : zcall (d + 2) 335 [.ref 143, .int (nI p)] (mk n m g I J) = some (some (.int (bI (tGrown A b p))), mk n m g I J) := by
  rw [m_X12_isGrown]
  simp only [e_X12_isGrown_0, e_X12_isGrown_1, e_X12_isGrown_2, e_X12_isGrown_5, e_X12_isGrown_8, e_X12_isGrown_9, e_X12_isGrown_10, e_X12_isGrown_13, e_X12_isGrown_15, e_X12_isGrown_18, e_X12_isGrown_19, e_X12_isGrown_22, e_X12_isGrown_23, c_143, v_lives hW hR hp, v_ageOf hW hR hp, Option.bind_some, Option.isSome_some, Option.toList, List.cons_append, List.nil_append, zclr_i, zclr_r, zclr_n, zfit_i, zfit_l, and_self, if_true, if_false]
  unfold tGrown
  by_cases h1 : A (b + 6) p = -1
  · by_cases h2 : 16 ≤ A b 0 - A (b + 5) p
    · simp [h1, h2, Int32.not_lt.mpr h2, bI, zfit_b1]
    · simp [h1, h2, Int32.not_le.mp h2, bI, zfit_b0]
  · simp [h1, bI, zfit_b0]
theorem v_areParents {p q : Nat} (hW : WT A b N S U) (hR : RT A b (I 148) N S) (hp : p < N) (hq : q < N) (d : Nat) : zcall (d + 3) 336 [.ref 143, .int (nI p), .int (nI q)] (mk n m g I J) = some (some (.int (bI (tBear A b p q))), mk n m g I J) := by
  have h12 := hW.h12
  rw [m_X12_areParents]
  have e : nI p = nI q ↔ p = q := nI_eq (by omega) (by omega)
  simp only [e_X12_areParents_0, e_X12_areParents_1, e_X12_areParents_2, e_X12_areParents_5, e_X12_areParents_6, e_X12_areParents_7, e_X12_areParents_10, e_X12_areParents_13, e_X12_areParents_14, e_X12_areParents_15, e_X12_areParents_18, e_X12_areParents_21, e_X12_areParents_22, e_X12_areParents_25, e_X12_areParents_26, c_143, v_isGrown hW hR hp, v_isGrown hW hR hq, e, Option.bind_some, Option.isSome_some, Option.toList, List.cons_append, List.nil_append, zclr_i, zclr_r, zclr_n, zfit_i, zfit_l, and_self, if_true, if_false]
  unfold tBear
  by_cases h0 : p = q
  · simp [h0, bI, zfit_b0]
  · cases h1 : tGrown A b p <;> cases h2 : tGrown A b q <;> simp [h0, bI, zfit_b0, zfit_b1]
theorem v_isChildOf {p : Nat} {x : Int32} (hW : WT A b N S U) (hR : RT A b (I 148) N S) (hp : p < N) (d : Nat) : zcall d 339 [.ref 143, .int (nI p), .int x] (mk n m g I J) = some (some (.int (bI (kChild A b x p))), mk n m g I J) := by
  have h12 := hW.h12
  rw [m_X12_isChildOf]
  simp only [e_X12_isChildOf_0, e_X12_isChildOf_1, e_X12_isChildOf_4, e_X12_isChildOf_6, e_X12_isChildOf_7, e_X12_isChildOf_8, e_X12_isChildOf_9, e_X12_isChildOf_10, e_X12_isChildOf_13, e_X12_isChildOf_14, e_X12_isChildOf_17, e_X12_isChildOf_19, e_X12_isChildOf_20, e_X12_isChildOf_21, e_X12_isChildOf_22, e_X12_isChildOf_23, e_X12_isChildOf_26, e_X12_isChildOf_27, e_X12_isChildOf_30, e_X12_isChildOf_31, cA_6, cA_12, cA_18, cA_30, cA_42, cA_54, cA_66, cA_78, cA_90, cA_102, cA_114, cA_126, cA_138, cA_210, cA_222, lc_0, lc_1, lc_2, lc_3, lc_4, lc_5, g_143_20, q_148, nI_neg (show 90 + p < 2 ^ 31 by omega), nI_clamp (show 90 + p < 2 ^ 31 by omega), k_148 (show 90 + p < 2530 by omega), l_148 (show 90 + p < 2530 by omega), nI_neg (show 102 + p < 2 ^ 31 by omega), nI_clamp (show 102 + p < 2 ^ 31 by omega), k_148 (show 102 + p < 2530 by omega), l_148 (show 102 + p < 2530 by omega), hR.one p hp, hR.two p hp, Option.bind_some, Option.isSome_some, Option.toList, List.cons_append, List.nil_append, zclr_i, zclr_r, zclr_n, zfit_i, zfit_l, and_self, if_true, if_false]
  unfold kChild
  by_cases h1 : A (b + 10) (2 * p) = x <;> by_cases h2 : A (b + 10) (2 * p + 1) = x <;> simp [h1, h2, bI, zfit_b0, zfit_b1]
theorem isS_kbit {x : Int32} (h : x = -1 ∨ ∃ q, q < 12 ∧ x = nI q) : isS (kbit x) (fun p => decide (x = nI p ∧ p < 12)) := by
  unfold kbit
  rcases h with rfl | ⟨q, hq, rfl⟩
  · rw [if_pos rfl]
    obtain ⟨r, hr, e, hf⟩ := isS_0
    refine ⟨r, hr, e, fun p => ?_⟩
    rw [hf]
    by_cases hp : p < 12
    · have : ¬ (-1 : Int32) = nI p := fun e => nI_m1 (show p < 2 ^ 31 by omega) e.symm
      simp [this]
    · simp [hp]
  · rw [if_neg (nI_m1 (by omega))]
    obtain ⟨r, hr, e, hf⟩ := isS_bt hq
    refine ⟨r, hr, e, fun p => ?_⟩
    rw [hf]
    by_cases hp : p < 12
    · simp [hp, nI_eq (show q < 2 ^ 31 by omega) (show p < 2 ^ 31 by omega)]
    · have : ¬ q = p := by omega
      simp [hp, this]
theorem WT.par1 {p : Nat} (hW : WT A b N S U) (hp : p < N) : A (b + 10) (2 * p) = -1 ∨ ∃ q, q < 12 ∧ A (b + 10) (2 * p) = nI q := by
  have := hW.h12
  rcases hW.one p hp with h | ⟨q, hq, h⟩
  · exact Or.inl h
  · exact Or.inr ⟨q, by omega, h⟩
theorem WT.par2 {p : Nat} (hW : WT A b N S U) (hp : p < N) : A (b + 10) (2 * p + 1) = -1 ∨ ∃ q, q < 12 ∧ A (b + 10) (2 * p + 1) = nI q := by
  have := hW.h12
  rcases hW.two p hp with h | ⟨q, hq, h⟩
  · exact Or.inl h
  · exact Or.inr ⟨q, by omega, h⟩
theorem isS_kPar {p : Nat} (hW : WT A b N S U) (hp : p < N) : isS (kPar A b p) (fun r => decide (r < 12) && kChild A b (nI r) p) := by
  obtain ⟨r, hr, e, hf⟩ := isS_or (isS_kbit (hW.par1 hp)) (isS_kbit (hW.par2 hp))
  refine ⟨r, hr, e, fun q => ?_⟩
  rw [hf]
  unfold kChild
  by_cases hq : q < 12 <;> simp [hq]
theorem isS_ne0 {x : Int32} {f : Nat → Bool} (h : isS x f) : ¬ x = 0 ↔ ∃ p, p < 12 ∧ f p = true := by
  rw [isS_zero h]
  constructor
  · intro e
    apply Classical.byContradiction
    intro h2
    apply e
    intro p hp
    cases hfp : f p
    · rfl
    · exact absurd ⟨p, hp, hfp⟩ h2
  · rintro ⟨p, hp, h1⟩ h2
    rw [h2 p hp] at h1
    exact absurd h1 (by decide)
/-- the reference's way to ask whether two are near -/
def rNear (A : Nat → Nat → Int32) (b p q : Nat) : Bool := kChild A b (nI q) p || kChild A b (nI p) q || (decide (0 ≤ A (b + 10) (2 * p)) && kChild A b (A (b + 10) (2 * p)) q) || (decide (0 ≤ A (b + 10) (2 * p + 1)) && kChild A b (A (b + 10) (2 * p + 1)) q)
theorem near_eq {p q : Nat} (hW : WT A b N S U) (hp : p < N) (hq : q < N) : kNear A b p q = rNear A b p q := by
  have h12 := hW.h12
  have s1 := isS_kPar hW hp
  have s2 := isS_kPar hW hq
  have k1 := isS_kbit (x := nI p) (Or.inr ⟨p, by omega, rfl⟩)
  have k2 := isS_kbit (x := nI q) (Or.inr ⟨q, by omega, rfl⟩)
  have a1 : (¬ kPar A b p &&& kPar A b q = 0) ↔ (0 ≤ A (b + 10) (2 * p) ∧ kChild A b (A (b + 10) (2 * p)) q = true) ∨ (0 ≤ A (b + 10) (2 * p + 1) ∧ kChild A b (A (b + 10) (2 * p + 1)) q = true) := by
    rw [isS_ne0 (isS_and s1 s2)]
    constructor
    · rintro ⟨r, hr, h⟩
      simp only [hr, decide_true, Bool.true_and, Bool.and_eq_true] at h
      obtain ⟨h1, h2⟩ := h
      have h0 : (0 : Int32) ≤ nI r := nI_le (a := 0) (by omega) (by omega)
      unfold kChild at h1
      rcases of_decide_eq_true h1 with e | e
      · exact Or.inl (by rw [e]; exact ⟨h0, h2⟩)
      · exact Or.inr (by rw [e]; exact ⟨h0, h2⟩)
    · rintro (⟨h0, h1⟩ | ⟨h0, h1⟩)
      · rcases hW.par1 hp with e | ⟨r, hr, e⟩
        · rw [e] at h0
          exact absurd h0 (by decide)
        · rw [e] at h1
          refine ⟨r, hr, ?_⟩
          simp only [hr, decide_true, Bool.true_and, h1, Bool.and_true]
          simp [kChild, e]
      · rcases hW.par2 hp with e | ⟨r, hr, e⟩
        · rw [e] at h0
          exact absurd h0 (by decide)
        · rw [e] at h1
          refine ⟨r, hr, ?_⟩
          simp only [hr, decide_true, Bool.true_and, h1, Bool.and_true]
          simp [kChild, e]
  have a2 : (¬ kPar A b p &&& kbit (nI q) = 0) ↔ kChild A b (nI q) p = true := by
    rw [isS_ne0 (isS_and s1 k2)]
    constructor
    · rintro ⟨r, hr, h⟩
      simp only [hr, decide_true, Bool.true_and, Bool.and_eq_true, and_true, decide_eq_true_eq] at h
      rw [h.2]
      exact h.1
    · intro h
      exact ⟨q, by omega, by simp [h, show q < 12 by omega]⟩
  have a3 : (¬ kPar A b q &&& kbit (nI p) = 0) ↔ kChild A b (nI p) q = true := by
    rw [isS_ne0 (isS_and s2 k1)]
    constructor
    · rintro ⟨r, hr, h⟩
      simp only [hr, decide_true, Bool.true_and, Bool.and_eq_true, and_true, decide_eq_true_eq] at h
      rw [h.2]
      exact h.1
    · intro h
      exact ⟨p, by omega, by simp [h, show p < 12 by omega]⟩
  have : kNear A b p q = true ↔ rNear A b p q = true := by
    unfold kNear rNear
    rw [decide_eq_true_eq, a1, a2, a3]
    simp only [Bool.or_eq_true, Bool.and_eq_true, decide_eq_true_eq]
    constructor
    · rintro ((h | h) | h | h)
      · exact Or.inl (Or.inr h)
      · exact Or.inr h
      · exact Or.inl (Or.inl (Or.inl h))
      · exact Or.inl (Or.inl (Or.inr h))
    · rintro (((h | h) | h) | h)
      · exact Or.inr (Or.inl h)
      · exact Or.inr (Or.inr h)
      · exact Or.inl (Or.inl h)
      · exact Or.inl (Or.inr h)
  exact Bool.eq_iff_iff.mpr this
theorem v_areNear {p q : Nat} (hW : WT A b N S U) (hR : RT A b (I 148) N S) (hp : p < N) (hq : q < N) (d : Nat) : zcall (d + 1) 340 [.ref 143, .int (nI p), .int (nI q)] (mk n m g I J) = some (some (.int (bI (kNear A b p q))), mk n m g I J) := by
  have h12 := hW.h12
  rw [m_X12_areNear, near_eq hW hp hq]
  simp only [e_X12_areNear_0, e_X12_areNear_1, e_X12_areNear_4, e_X12_areNear_6, e_X12_areNear_7, e_X12_areNear_8, e_X12_areNear_9, e_X12_areNear_12, e_X12_areNear_13, e_X12_areNear_14, e_X12_areNear_15, e_X12_areNear_18, e_X12_areNear_20, e_X12_areNear_21, e_X12_areNear_22, e_X12_areNear_23, e_X12_areNear_26, e_X12_areNear_29, e_X12_areNear_30, e_X12_areNear_33, e_X12_areNear_34, e_X12_areNear_35, e_X12_areNear_36, e_X12_areNear_39, e_X12_areNear_41, e_X12_areNear_42, e_X12_areNear_43, e_X12_areNear_44, e_X12_areNear_47, e_X12_areNear_48, e_X12_areNear_49, e_X12_areNear_50, e_X12_areNear_53, e_X12_areNear_55, e_X12_areNear_56, e_X12_areNear_57, e_X12_areNear_58, e_X12_areNear_61, e_X12_areNear_64, e_X12_areNear_65, e_X12_areNear_68, e_X12_areNear_69, e_X12_areNear_71, e_X12_areNear_72, e_X12_areNear_73, e_X12_areNear_74, e_X12_areNear_77, e_X12_areNear_80, e_X12_areNear_81, e_X12_areNear_82, e_X12_areNear_83, e_X12_areNear_86, e_X12_areNear_89, e_X12_areNear_90, e_X12_areNear_93, e_X12_areNear_95, e_X12_areNear_98, e_X12_areNear_99, e_X12_areNear_102, e_X12_areNear_103, cA_6, cA_12, cA_18, cA_30, cA_42, cA_54, cA_66, cA_78, cA_90, cA_102, cA_114, cA_126, cA_138, cA_210, cA_222, lc_0, lc_1, lc_2, lc_3, lc_4, lc_5, g_143_20, q_148, nI_neg (show 90 + p < 2 ^ 31 by omega), nI_clamp (show 90 + p < 2 ^ 31 by omega), k_148 (show 90 + p < 2530 by omega), l_148 (show 90 + p < 2530 by omega), nI_neg (show 102 + p < 2 ^ 31 by omega), nI_clamp (show 102 + p < 2 ^ 31 by omega), k_148 (show 102 + p < 2530 by omega), l_148 (show 102 + p < 2530 by omega), c_143, hR.one p hp, hR.two p hp, v_isChildOf hW hR hp, v_isChildOf hW hR hq, Option.bind_some, Option.isSome_some, Option.toList, List.cons_append, List.nil_append, zclr_i, zclr_r, zclr_n, zfit_i, zfit_l, and_self, if_true, if_false]
  unfold rNear
  have d1 : ∀ x : Int32, (x < 0) = ¬ 0 ≤ x := fun x => by rw [Int32.not_le]
  by_cases h1 : 0 ≤ A (b + 10) (2 * p) <;> by_cases h2 : 0 ≤ A (b + 10) (2 * p + 1) <;> cases kChild A b (A (b + 10) (2 * p)) q <;> cases kChild A b (A (b + 10) (2 * p + 1)) q <;> cases kChild A b (nI q) p <;> cases kChild A b (nI p) q <;> simp [d1, h1, h2, bI, zfit_b0, zfit_b1]
theorem v_isPlace {s : Int32} (hW : WT A b N S U) (hR : RT A b (I 148) N S) (d : Nat) : zcall (d + 3) 341 [.ref 143, .int s] (mk n m g I J) = some (some (.int (bI (decide (0 ≤ s ∧ 0 < tFr A b s N)))), mk n m g I J) := by
  rw [m_X12_isPlace]
  simp only [e_X12_isPlace_0, e_X12_isPlace_1, e_X12_isPlace_4, e_X12_isPlace_5, e_X12_isPlace_6, e_X12_isPlace_9, e_X12_isPlace_12, e_X12_isPlace_13, e_X12_isPlace_16, e_X12_isPlace_17, c_143, v_freeOf hW hR, Option.bind_some, Option.isSome_some, Option.toList, List.cons_append, List.nil_append, zclr_i, zclr_r, zclr_n, zfit_i, zfit_l, and_self, if_true, if_false]
  by_cases h1 : 0 ≤ s
  · by_cases h2 : 0 < tFr A b s N
    · simp [h1, h2, Int32.not_lt.mpr h1, Int32.not_le.mpr h2, bI, zfit_b1]
    · simp [h1, h2, Int32.not_lt.mpr h1, Int32.not_lt.mp h2, bI, zfit_b0]
  · simp [h1, Int32.not_le.mp h1, bI, zfit_b0]
theorem WT.bears0 {q : Nat} (hW : WT A b N S U) (hq : q < N) : (0 ≤ A (b + 7) q) = (A (b + 7) q ≠ -1) := by
  apply propext
  have := hW.h6
  rcases hW.bears q hq with h | ⟨s, hs, h⟩
  · rw [h]; decide
  · rw [h]
    have h1 : nI s ≠ -1 := nI_m1 (by omega)
    have h2 : (0 : Int32) ≤ nI s := nI_le (a := 0) (by omega) (by omega)
    simp [h1, h2]
theorem v_canTake {p q : Nat} (hW : WT A b N S U) (hR : RT A b (I 148) N S) (hp : p < N) (hq : q < N) (d : Nat) : zcall (d + 4) 342 [.ref 143, .int (nI p), .int (nI q)] (mk n m g I J) = some (some (.int (bI (tTake A b p (A (b + 7) q) N))), mk n m g I J) := by
  have h12 := hW.h12
  rw [m_X12_canTake]
  simp only [e_X12_canTake_0, e_X12_canTake_1, e_X12_canTake_4, e_X12_canTake_6, e_X12_canTake_7, e_X12_canTake_8, e_X12_canTake_9, e_X12_canTake_12, e_X12_canTake_13, e_X12_canTake_16, e_X12_canTake_18, e_X12_canTake_19, e_X12_canTake_20, e_X12_canTake_21, e_X12_canTake_22, e_X12_canTake_25, e_X12_canTake_27, e_X12_canTake_28, e_X12_canTake_29, e_X12_canTake_30, e_X12_canTake_33, e_X12_canTake_34, e_X12_canTake_35, e_X12_canTake_38, e_X12_canTake_40, e_X12_canTake_41, e_X12_canTake_42, e_X12_canTake_43, e_X12_canTake_46, e_X12_canTake_49, e_X12_canTake_50, e_X12_canTake_53, e_X12_canTake_54, cA_6, cA_12, cA_18, cA_30, cA_42, cA_54, cA_66, cA_78, cA_90, cA_102, cA_114, cA_126, cA_138, cA_210, cA_222, lc_0, lc_1, lc_2, lc_3, lc_4, lc_5, g_143_20, q_148, nI_neg (show 30 + p < 2 ^ 31 by omega), nI_clamp (show 30 + p < 2 ^ 31 by omega), k_148 (show 30 + p < 2530 by omega), l_148 (show 30 + p < 2530 by omega), nI_neg (show 30 + q < 2 ^ 31 by omega), nI_clamp (show 30 + q < 2 ^ 31 by omega), k_148 (show 30 + q < 2530 by omega), l_148 (show 30 + q < 2530 by omega), c_143, hR.bears p hp, hR.bears q hq, v_isPlace hW hR, Option.bind_some, Option.isSome_some, Option.toList, List.cons_append, List.nil_append, zclr_i, zclr_r, zclr_n, zfit_i, zfit_l, and_self, if_true, if_false]
  unfold tTake
  have h0 := hW.bears0 hq
  have h0' : (A (b + 7) q < 0) = (A (b + 7) q = -1) := by rw [← Int32.not_le, h0]; simp
  by_cases h1 : A (b + 7) q = -1
  · simp [h0', h1, bI, zfit_b0]
  · by_cases h2 : A (b + 7) p = A (b + 7) q
    · simp [h0', h1, h2, bI, zfit_b1]
    · by_cases h3 : 0 < tFr A b (A (b + 7) q) N <;> simp [h0, h0', h1, h2, h3, bI, zfit_b0, zfit_b1]
theorem WT.wed0 {q : Nat} (hW : WT A b N S U) (hq : q < N) : (0 ≤ A (b + 9) q) = (A (b + 9) q ≠ -1) := by
  apply propext
  have := hW.h12
  rcases hW.wed q hq with h | ⟨s, hs, h⟩
  · rw [h]; decide
  · rw [h]
    have h1 : nI s ≠ -1 := nI_m1 (by omega)
    have h2 : (0 : Int32) ≤ nI s := nI_le (a := 0) (by omega) (by omega)
    simp [h1, h2]
theorem v_canBeWed {p q : Nat} {w : Int32} (hW : WT A b N S U) (hR : RT A b (I 148) N S) (hp : p < N) (hq : q < N) (d : Nat) : zcall (d + 5) 343 [.ref 143, .int (nI p), .int (nI q), .int w] (mk n m g I J) = some (some (.int (bI (tMarry A b p q w N))), mk n m g I J) := by
  have h12 := hW.h12
  rw [m_X12_canBeWed]
  simp only [e_X12_canBeWed_0, e_X12_canBeWed_1, e_X12_canBeWed_2, e_X12_canBeWed_3, e_X12_canBeWed_6, e_X12_canBeWed_9, e_X12_canBeWed_10, e_X12_canBeWed_13, e_X12_canBeWed_15, e_X12_canBeWed_16, e_X12_canBeWed_17, e_X12_canBeWed_18, e_X12_canBeWed_21, e_X12_canBeWed_22, e_X12_canBeWed_25, e_X12_canBeWed_27, e_X12_canBeWed_28, e_X12_canBeWed_29, e_X12_canBeWed_30, e_X12_canBeWed_33, e_X12_canBeWed_34, e_X12_canBeWed_35, e_X12_canBeWed_36, e_X12_canBeWed_39, e_X12_canBeWed_42, e_X12_canBeWed_43, e_X12_canBeWed_44, e_X12_canBeWed_45, e_X12_canBeWed_48, e_X12_canBeWed_49, e_X12_canBeWed_50, e_X12_canBeWed_53, e_X12_canBeWed_54, e_X12_canBeWed_55, e_X12_canBeWed_56, e_X12_canBeWed_59, e_X12_canBeWed_62, e_X12_canBeWed_65, e_X12_canBeWed_66, e_X12_canBeWed_67, e_X12_canBeWed_68, e_X12_canBeWed_71, e_X12_canBeWed_74, e_X12_canBeWed_75, e_X12_canBeWed_78, e_X12_canBeWed_79, cA_6, cA_12, cA_18, cA_30, cA_42, cA_54, cA_66, cA_78, cA_90, cA_102, cA_114, cA_126, cA_138, cA_210, cA_222, lc_0, lc_1, lc_2, lc_3, lc_4, lc_5, g_143_20, q_148, nI_neg (show 78 + p < 2 ^ 31 by omega), nI_clamp (show 78 + p < 2 ^ 31 by omega), k_148 (show 78 + p < 2530 by omega), l_148 (show 78 + p < 2530 by omega), nI_neg (show 78 + q < 2 ^ 31 by omega), nI_clamp (show 78 + q < 2 ^ 31 by omega), k_148 (show 78 + q < 2530 by omega), l_148 (show 78 + q < 2530 by omega), c_143, hR.wed p hp, hR.wed q hq, v_areParents hW hR hp hq, v_areNear hW hR hp hq, v_canTake hW hR hp hq, v_canTake hW hR hq hp, Option.bind_some, Option.isSome_some, Option.toList, List.cons_append, List.nil_append, zclr_i, zclr_r, zclr_n, zfit_i, zfit_l, and_self, if_true, if_false]
  unfold tMarry
  have h0 := hW.wed0 hp
  have h0' := hW.wed0 hq
  have g0 : (A (b + 9) p < 0) = (A (b + 9) p = -1) := by rw [← Int32.not_le, h0]; simp
  have g0' : (A (b + 9) q < 0) = (A (b + 9) q = -1) := by rw [← Int32.not_le, h0']; simp
  cases tBear A b p q
  · simp [bI, zfit_b0]
  · by_cases h1 : A (b + 9) p = -1
    · by_cases h2 : A (b + 9) q = -1
      · cases kNear A b p q
        · by_cases h3 : w = 0
          · simp [h0, h0', g0, g0', h1, h2, h3, bI, zfit_b1]
          · by_cases h4 : w = 1
            · simp [h0, h0', g0, g0', h1, h2, h4, zfit_bI]
              cases tTake A b p (A (b + 7) q) N <;> simp [bI, zfit_b0, zfit_b1]
            · simp [h0, h0', g0, g0', h1, h2, h3, h4, zfit_bI]
              cases tTake A b q (A (b + 7) p) N <;> simp [bI, zfit_b0, zfit_b1]
        · simp [h0, h0', g0, g0', h1, h2, bI, zfit_b0]
      · simp [h0, h0', g0, g0', h1, h2, bI, zfit_b0]
    · simp [h0, h0', g0, g0', h1, bI, zfit_b0]
end RH
