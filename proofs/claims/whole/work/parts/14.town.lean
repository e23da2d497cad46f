/-! THE TOWN: what is read of it -/
section TW
variable {n m : Nat} {g : Nat → zC} {I : Nat → Nat → Int32} {J : Nat → Nat → Int64}
theorem t_hasP_yes {b N p : Nat} (hb : isTown b) (hN : I b 4 = nI N) (h12 : N ≤ 12) (hp : p < N) (d : Nat) : zcall d 82 [.ref b, .int (nI p)] (mk n m g I J) = some (some (.int 1), mk n m g I J) := by
  rw [m_X7_hasPerson]
  simp only [e_X7_hasPerson_0, e_X7_hasPerson_1, e_X7_hasPerson_4, e_X7_hasPerson_5, e_X7_hasPerson_6, e_X7_hasPerson_9, e_X7_hasPerson_12, e_X7_hasPerson_13, e_X7_hasPerson_16, e_X7_hasPerson_17, g_T0_4 hb, Option.bind_some, hN, if_neg (nI_pos (by omega : p < 2 ^ 31)), if_neg (nI_ge hp (by omega : N < 2 ^ 31)), zfit_b1, if_true]
theorem t_hasP_no {b N : Nat} {x : Int32} (hb : isTown b) (hN : I b 4 = nI N) (h12 : N ≤ 12) (hx : ∀ p, p < N → x ≠ nI p) (d : Nat) : zcall d 82 [.ref b, .int x] (mk n m g I J) = some (some (.int 0), mk n m g I J) := by
  rw [m_X7_hasPerson]
  simp only [e_X7_hasPerson_0, e_X7_hasPerson_1, e_X7_hasPerson_4, e_X7_hasPerson_5, e_X7_hasPerson_6, e_X7_hasPerson_9, e_X7_hasPerson_12, e_X7_hasPerson_13, e_X7_hasPerson_16, e_X7_hasPerson_17, g_T0_4 hb, Option.bind_some, hN, zfit_b0, zfit_b1, if_true]
  rcases pk_ix x (n := N) (by omega) with h | h | ⟨j, hj, h⟩
  · rw [if_pos h]
  · by_cases h0 : x < 0
    · rw [if_pos h0]
    · rw [if_neg h0, if_pos h]
  · exact absurd h (hx j hj)
theorem t_hasS_yes {b N p : Nat} (hb : isTown b) (hN : I b 3 = nI N) (h12 : N ≤ 6) (hp : p < N) (d : Nat) : zcall d 81 [.ref b, .int (nI p)] (mk n m g I J) = some (some (.int 1), mk n m g I J) := by
  rw [m_X7_hasSurname]
  simp only [e_X7_hasSurname_0, e_X7_hasSurname_1, e_X7_hasSurname_4, e_X7_hasSurname_5, e_X7_hasSurname_6, e_X7_hasSurname_9, e_X7_hasSurname_12, e_X7_hasSurname_13, e_X7_hasSurname_16, e_X7_hasSurname_17, g_T0_3 hb, Option.bind_some, hN, if_neg (nI_pos (by omega : p < 2 ^ 31)), if_neg (nI_ge hp (by omega : N < 2 ^ 31)), zfit_b1, if_true]
theorem t_hasS_no {b N : Nat} {x : Int32} (hb : isTown b) (hN : I b 3 = nI N) (h12 : N ≤ 6) (hx : ∀ p, p < N → x ≠ nI p) (d : Nat) : zcall d 81 [.ref b, .int x] (mk n m g I J) = some (some (.int 0), mk n m g I J) := by
  rw [m_X7_hasSurname]
  simp only [e_X7_hasSurname_0, e_X7_hasSurname_1, e_X7_hasSurname_4, e_X7_hasSurname_5, e_X7_hasSurname_6, e_X7_hasSurname_9, e_X7_hasSurname_12, e_X7_hasSurname_13, e_X7_hasSurname_16, e_X7_hasSurname_17, g_T0_3 hb, Option.bind_some, hN, zfit_b0, zfit_b1, if_true]
  rcases pk_ix x (n := N) (by omega) with h | h | ⟨j, hj, h⟩
  · rw [if_pos h]
  · by_cases h0 : x < 0
    · rw [if_pos h0]
    · rw [if_neg h0, if_pos h]
  · exact absurd h (hx j hj)
theorem t_lives {b p : Nat} (hb : isTown b) (hp : p < 12) (d : Nat) : zcall d 84 [.ref b, .int (nI p)] (mk n m g I J) = some (some (.int (bI (I (b + 6) p = -1))), mk n m g I J) := by
  rw [m_X7_lives]
  simp only [e_X7_lives_0, e_X7_lives_1, e_X7_lives_4, e_X7_lives_5, e_X7_lives_6, e_X7_lives_7, e_X7_lives_10, e_X7_lives_11, e_X7_lives_14, e_X7_lives_15, g_T0_11 hb, l_T6 hb hp, Option.bind_some]
  by_cases h : I (b + 6) p = -1 <;> simp [h, zfit_b0, zfit_b1, bI]
theorem t_isAway {b p : Nat} (hb : isTown b) (hp : p < 12) (d : Nat) : zcall d 87 [.ref b, .int (nI p)] (mk n m g I J) = some (some (.int (bI (I (b + 11) p ≠ -1))), mk n m g I J) := by
  rw [m_X7_isAway]
  simp only [e_X7_isAway_0, e_X7_isAway_1, e_X7_isAway_4, e_X7_isAway_5, e_X7_isAway_6, e_X7_isAway_7, e_X7_isAway_10, e_X7_isAway_11, e_X7_isAway_14, e_X7_isAway_15, g_T0_16 hb, l_T11 hb hp, Option.bind_some]
  by_cases h : I (b + 11) p = -1 <;> simp [h, zfit_b0, zfit_b1, bI]
theorem t_isFull {b : Nat} (hb : isTown b) (d : Nat) : zcall d 83 [.ref b] (mk n m g I J) = some (some (.int (bI (12 ≤ I b 4))), mk n m g I J) := by
  rw [m_X7_isFull]
  simp only [e_X7_isFull_0, e_X7_isFull_1, e_X7_isFull_4, e_X7_isFull_6, e_X7_isFull_9, e_X7_isFull_10, e_X7_isFull_13, e_X7_isFull_14, g_T0_4 hb, Option.bind_some]
  by_cases h : 12 ≤ I b 4
  · simp [h, zfit_b0, zfit_b1, bI, Int32.not_lt.mpr h]
  · simp [h, zfit_b0, zfit_b1, bI, Int32.not_le.mp h]
theorem t_livesAs {b p : Nat} {s : Int32} (hb : isTown b) (hp : p < 12) (d : Nat) : zcall (d + 1) 85 [.ref b, .int (nI p), .int s] (mk n m g I J) = some (some (.int (bI (I (b + 6) p = -1 ∧ I (b + 7) p = s))), mk n m g I J) := by
  rw [m_X7_livesAs]
  simp only [e_X7_livesAs_0, e_X7_livesAs_1, e_X7_livesAs_2, e_X7_livesAs_5, e_X7_livesAs_8, e_X7_livesAs_9, e_X7_livesAs_12, e_X7_livesAs_13, e_X7_livesAs_14, e_X7_livesAs_15, e_X7_livesAs_18, e_X7_livesAs_19, e_X7_livesAs_22, e_X7_livesAs_23, c_T0 hb, g_T0_12 hb, l_T7 hb hp, t_lives hb hp, Option.bind_some, if_true, Option.toList, List.cons_append, List.nil_append]
  by_cases h : I (b + 6) p = -1 <;> by_cases h2 : I (b + 7) p = s <;> simp [h, h2, zfit_b0, zfit_b1, bI]
theorem t_takesPart {b p : Nat} (hb : isTown b) (hp : p < 12) (d : Nat) : zcall (d + 1) 86 [.ref b, .int (nI p)] (mk n m g I J) = some (some (.int (bI (I (b + 6) p = -1 ∧ I (b + 7) p ≠ -1))), mk n m g I J) := by
  rw [m_X7_takesPart]
  simp only [e_X7_takesPart_0, e_X7_takesPart_1, e_X7_takesPart_2, e_X7_takesPart_5, e_X7_takesPart_8, e_X7_takesPart_9, e_X7_takesPart_12, e_X7_takesPart_13, e_X7_takesPart_14, e_X7_takesPart_15, e_X7_takesPart_18, e_X7_takesPart_19, e_X7_takesPart_22, e_X7_takesPart_23, c_T0 hb, g_T0_12 hb, l_T7 hb hp, t_lives hb hp, Option.bind_some, if_true, Option.toList, List.cons_append, List.nil_append]
  by_cases h : I (b + 6) p = -1 <;> by_cases h2 : I (b + 7) p = -1 <;> simp [h, h2, zfit_b0, zfit_b1, bI]
theorem t_age {b p : Nat} (hb : isTown b) (hp : p < 12) (d : Nat) : zcall (d + 1) 88 [.ref b, .int (nI p)] (mk n m g I J) = some (some (.int ((if I (b + 6) p = -1 then I b 0 else I (b + 6) p) - I (b + 5) p)), mk n m g I J) := by
  rw [m_X7_age]
  simp only [e_X7_age_0, e_X7_age_1, e_X7_age_2, e_X7_age_5, e_X7_age_8, e_X7_age_9, e_X7_age_12, e_X7_age_15, e_X7_age_16, e_X7_age_19, e_X7_age_20, e_X7_age_21, e_X7_age_22, e_X7_age_25, e_X7_age_26, e_X7_age_27, e_X7_age_28, c_T0 hb, g_T0_0 hb, g_T0_10 hb, g_T0_11 hb, l_T6 hb hp, l_T5 hb hp, t_lives hb hp, Option.bind_some, if_true, Option.toList, List.cons_append, List.nil_append]
  by_cases h : I (b + 6) p = -1 <;> simp [h, bI]
theorem t_isGrown {b p : Nat} (hb : isTown b) (hp : p < 12) (d : Nat) : zcall (d + 1) 89 [.ref b, .int (nI p)] (mk n m g I J) = some (some (.int (bI (I (b + 6) p = -1 ∧ 16 ≤ I b 0 - I (b + 5) p))), mk n m g I J) := by
  rw [m_X7_isGrown]
  simp only [e_X7_isGrown_0, e_X7_isGrown_1, e_X7_isGrown_2, e_X7_isGrown_5, e_X7_isGrown_8, e_X7_isGrown_9, e_X7_isGrown_12, e_X7_isGrown_13, e_X7_isGrown_16, e_X7_isGrown_17, e_X7_isGrown_18, e_X7_isGrown_19, e_X7_isGrown_21, e_X7_isGrown_24, e_X7_isGrown_25, e_X7_isGrown_28, e_X7_isGrown_29, c_T0 hb, g_T0_0 hb, g_T0_10 hb, l_T5 hb hp, t_lives hb hp, Option.bind_some, if_true, Option.toList, List.cons_append, List.nil_append]
  by_cases h : I (b + 6) p = -1 <;> by_cases h2 : 16 ≤ I b 0 - I (b + 5) p <;> simp [h, h2, zfit_b0, zfit_b1, bI, Int32.not_le.mp, Int32.not_lt.mpr]
def tFree (I : Nat → Nat → Int32) (b : Nat) (s : Int32) (N : Nat) : Int32 := zfor (fun p (a : Int32) => if I (b + 7) p = s ∧ I (b + 6) p = -1 then a + -1 else a) 0 N (I b 1)
theorem t_free {b N : Nat} {s : Int32} (hb : isTown b) (hN : I b 4 = nI N) (h12 : N ≤ 12) (d : Nat) : zcall d 93 [.ref b, .int s] (mk n m g I J) = some (some (.int (if 0 < tFree I b s N then tFree I b s N else 0)), mk n m g I J) := by
  rw [m_X7_free]
  simp only [e_X7_free_0, e_X7_free_1, e_X7_free_4, e_X7_free_5, e_X7_free_6, e_X7_free_8, e_X7_free_9, e_X7_free_12, e_X7_free_15, e_X7_free_16, e_X7_free_19, e_X7_free_20, e_X7_free_21, e_X7_free_22, e_X7_free_25, e_X7_free_26, e_X7_free_29, e_X7_free_30, e_X7_free_31, e_X7_free_32, e_X7_free_35, e_X7_free_38, e_X7_free_41, e_X7_free_44, e_X7_free_45, e_X7_free_48, e_X7_free_49, e_X7_free_52, e_X7_free_53, g_T0_1 hb, Option.bind_some, zclr_i]
  refine (zloop (fun p a => zexec d 93 7 [some (.ref b), some (.int s), some (.int a), some (.int (nI p))] [] (mk n m g I J)) (fun p (a : Int32) => if I (b + 7) p = s ∧ I (b + 6) p = -1 then a + -1 else a) N ?_ N 0 (I b 1) (by omega)).trans ?_
  · intro p a hp
    rw [e_X7_free_7]
    simp only [e_X7_free_0, e_X7_free_1, e_X7_free_4, e_X7_free_5, e_X7_free_6, e_X7_free_8, e_X7_free_9, e_X7_free_12, e_X7_free_15, e_X7_free_16, e_X7_free_19, e_X7_free_20, e_X7_free_21, e_X7_free_22, e_X7_free_25, e_X7_free_26, e_X7_free_29, e_X7_free_30, e_X7_free_31, e_X7_free_32, e_X7_free_35, e_X7_free_38, e_X7_free_41, e_X7_free_44, e_X7_free_45, e_X7_free_48, e_X7_free_49, e_X7_free_52, e_X7_free_53, g_T0_4 hb, g_T0_12 hb, g_T0_11 hb, l_T7 hb (show p < 12 by omega), l_T6 hb (show p < 12 by omega), Option.bind_some, hN, if_neg (nI_ge hp (by omega : N < 2 ^ 31)), zclr_i, zclr_r, nI_1]
    by_cases h1 : I (b + 7) p = s <;> by_cases h2 : I (b + 6) p = -1 <;> simp only [h1, h2, if_true, if_false, true_and, and_true, and_self, false_and, and_false]
  · rw [e_X7_free_7]
    simp only [e_X7_free_0, e_X7_free_1, e_X7_free_4, e_X7_free_5, e_X7_free_6, e_X7_free_8, e_X7_free_9, e_X7_free_12, e_X7_free_15, e_X7_free_16, e_X7_free_19, e_X7_free_20, e_X7_free_21, e_X7_free_22, e_X7_free_25, e_X7_free_26, e_X7_free_29, e_X7_free_30, e_X7_free_31, e_X7_free_32, e_X7_free_35, e_X7_free_38, e_X7_free_41, e_X7_free_44, e_X7_free_45, e_X7_free_48, e_X7_free_49, e_X7_free_52, e_X7_free_53, g_T0_4 hb, Option.bind_some, hN, if_pos (nI_le (Nat.le_refl N) (by omega : N < 2 ^ 31))]
    unfold tFree
    by_cases h : 0 < zfor (fun p (a : Int32) => if I (b + 7) p = s ∧ I (b + 6) p = -1 then a + -1 else a) 0 N (I b 1)
    · rw [if_pos h, if_neg (Int32.not_le.mpr h)]
    · rw [if_neg h, if_pos (Int32.not_lt.mp h)]
end TW
