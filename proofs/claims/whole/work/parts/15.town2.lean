/-! THE TOWN: sets, sums, searches -/
section TW2
variable {n m : Nat} {g : Nat → zC} {I : Nat → Nat → Int32} {J : Nat → Nat → Int64}
theorem t_bearers {b N : Nat} {s : Int32} (hb : isTown b) (hN : I b 4 = nI N) (h12 : N ≤ 12) (d : Nat) : zcall d 91 [.ref b, .int s] (mk n m g I J) = some (some (.int (sSet (fun p => decide (I (b + 7) p = s ∧ I (b + 6) p = -1)) N)), mk n m g I J) := by
  rw [m_X7_bearers]
  simp only [e_X7_bearers_0, e_X7_bearers_1, e_X7_bearers_2, e_X7_bearers_3, e_X7_bearers_5, e_X7_bearers_6, e_X7_bearers_9, e_X7_bearers_12, e_X7_bearers_13, e_X7_bearers_16, e_X7_bearers_17, e_X7_bearers_18, e_X7_bearers_19, e_X7_bearers_22, e_X7_bearers_23, e_X7_bearers_26, e_X7_bearers_27, e_X7_bearers_28, e_X7_bearers_29, e_X7_bearers_32, e_X7_bearers_33, e_X7_bearers_34, e_X7_bearers_35, e_X7_bearers_36, e_X7_bearers_37, e_X7_bearers_38, e_X7_bearers_41, e_X7_bearers_44, e_X7_bearers_45, zclr_i]
  refine (zloop (fun p a => zexec d 91 4 [some (.ref b), some (.int s), some (.int a), some (.int (nI p))] [] (mk n m g I J)) (fun p (a : Int32) => if decide (I (b + 7) p = s ∧ I (b + 6) p = -1) = true then a ||| bt p else a) N ?_ N 0 0 (by omega)).trans ?_
  · intro p a hp
    rw [e_X7_bearers_4]
    simp only [e_X7_bearers_0, e_X7_bearers_1, e_X7_bearers_2, e_X7_bearers_3, e_X7_bearers_5, e_X7_bearers_6, e_X7_bearers_9, e_X7_bearers_12, e_X7_bearers_13, e_X7_bearers_16, e_X7_bearers_17, e_X7_bearers_18, e_X7_bearers_19, e_X7_bearers_22, e_X7_bearers_23, e_X7_bearers_26, e_X7_bearers_27, e_X7_bearers_28, e_X7_bearers_29, e_X7_bearers_32, e_X7_bearers_33, e_X7_bearers_34, e_X7_bearers_35, e_X7_bearers_36, e_X7_bearers_37, e_X7_bearers_38, e_X7_bearers_41, e_X7_bearers_44, e_X7_bearers_45, g_T0_4 hb, g_T0_12 hb, g_T0_11 hb, l_T7 hb (show p < 12 by omega), l_T6 hb (show p < 12 by omega), Option.bind_some, hN, if_neg (nI_ge hp (by omega : N < 2 ^ 31)), zclr_i, zclr_r, nI_1]
    by_cases h1 : I (b + 7) p = s <;> by_cases h2 : I (b + 6) p = -1 <;> simp [h1, h2, bt]
  · rw [e_X7_bearers_4]
    simp only [e_X7_bearers_0, e_X7_bearers_1, e_X7_bearers_2, e_X7_bearers_3, e_X7_bearers_5, e_X7_bearers_6, e_X7_bearers_9, e_X7_bearers_12, e_X7_bearers_13, e_X7_bearers_16, e_X7_bearers_17, e_X7_bearers_18, e_X7_bearers_19, e_X7_bearers_22, e_X7_bearers_23, e_X7_bearers_26, e_X7_bearers_27, e_X7_bearers_28, e_X7_bearers_29, e_X7_bearers_32, e_X7_bearers_33, e_X7_bearers_34, e_X7_bearers_35, e_X7_bearers_36, e_X7_bearers_37, e_X7_bearers_38, e_X7_bearers_41, e_X7_bearers_44, e_X7_bearers_45, g_T0_4 hb, Option.bind_some, hN, if_pos (nI_le (Nat.le_refl N) (by omega : N < 2 ^ 31))]
    rfl
theorem t_dashes {b N : Nat} (hb : isTown b) (hN : I b 4 = nI N) (h12 : N ≤ 12) (d : Nat) : zcall (d + 1) 92 [.ref b] (mk n m g I J) = some (some (.int (sSet (fun p => decide (I (b + 7) p = -1 ∧ I (b + 6) p = -1)) N)), mk n m g I J) := by
  rw [m_X7_dashes]
  simp only [e_X7_dashes_0, e_X7_dashes_1, e_X7_dashes_2, e_X7_dashes_5, c_T0 hb, t_bearers hb hN h12, Option.bind_some, if_true, Option.toList, List.cons_append, List.nil_append]
theorem t_told {b N r : Nat} (hb : isTown b) (hN : I b 4 = nI N) (h12 : N ≤ 12) (hr : ∀ p, p < 12 → zld (mk n m g I J) r (nI p) = some (I r p)) (d : Nat) : zcall d 94 [.ref b, .ref r] (mk n m g I J) = some (some (.int (sSet (fun p => decide (I r p ≠ -1)) N)), mk n m g I J) := by
  rw [m_X7_told]
  simp only [e_X7_told_0, e_X7_told_1, e_X7_told_2, e_X7_told_3, e_X7_told_5, e_X7_told_6, e_X7_told_9, e_X7_told_12, e_X7_told_13, e_X7_told_14, e_X7_told_15, e_X7_told_16, e_X7_told_19, e_X7_told_20, e_X7_told_21, e_X7_told_22, e_X7_told_23, e_X7_told_24, e_X7_told_25, e_X7_told_28, e_X7_told_31, e_X7_told_32, zclr_i, zclr_r]
  refine (zloop (fun p a => zexec d 94 4 [some (.ref b), some (.ref r), some (.int a), some (.int (nI p))] [] (mk n m g I J)) (fun p (a : Int32) => if decide (I r p ≠ -1) = true then a ||| bt p else a) N ?_ N 0 0 (by omega)).trans ?_
  · intro p a hp
    rw [e_X7_told_4]
    simp only [e_X7_told_0, e_X7_told_1, e_X7_told_2, e_X7_told_3, e_X7_told_5, e_X7_told_6, e_X7_told_9, e_X7_told_12, e_X7_told_13, e_X7_told_14, e_X7_told_15, e_X7_told_16, e_X7_told_19, e_X7_told_20, e_X7_told_21, e_X7_told_22, e_X7_told_23, e_X7_told_24, e_X7_told_25, e_X7_told_28, e_X7_told_31, e_X7_told_32, g_T0_4 hb, hr p (show p < 12 by omega), Option.bind_some, hN, if_neg (nI_ge hp (by omega : N < 2 ^ 31)), zclr_i, zclr_r, nI_1]
    by_cases h1 : I r p = -1 <;> simp [h1, bt]
  · rw [e_X7_told_4]
    simp only [e_X7_told_0, e_X7_told_1, e_X7_told_2, e_X7_told_3, e_X7_told_5, e_X7_told_6, e_X7_told_9, e_X7_told_12, e_X7_told_13, e_X7_told_14, e_X7_told_15, e_X7_told_16, e_X7_told_19, e_X7_told_20, e_X7_told_21, e_X7_told_22, e_X7_told_23, e_X7_told_24, e_X7_told_25, e_X7_told_28, e_X7_told_31, e_X7_told_32, g_T0_4 hb, Option.bind_some, hN, if_pos (nI_le (Nat.le_refl N) (by omega : N < 2 ^ 31))]
    rfl
theorem t_living {b N : Nat} (hb : isTown b) (hN : I b 4 = nI N) (h12 : N ≤ 12) (d : Nat) : zcall (d + 1) 90 [.ref b] (mk n m g I J) = some (some (.int ((1 <<< (nI N &&& 31) - 1) &&& (sSet (fun p => decide (I (b + 6) p ≠ -1)) N ^^^ -1))), mk n m g I J) := by
  rw [m_X7_living]
  simp only [e_X7_living_0, e_X7_living_1, e_X7_living_2, e_X7_living_5, e_X7_living_6, e_X7_living_7, e_X7_living_8, e_X7_living_9, e_X7_living_10, e_X7_living_13, e_X7_living_16, e_X7_living_17, e_X7_living_18, e_X7_living_19, c_T0 hb, g_T0_4 hb, g_T0_11 hb, hN, t_told hb hN h12 (fun p hp => l_T6 hb hp), Option.bind_some, if_true, Option.toList, List.cons_append, List.nil_append]
theorem t_livingCoins {b N : Nat} (hb : isTown b) (hN : I b 4 = nI N) (h12 : N ≤ 12) (d : Nat) : zcall (d + 1) 95 [.ref b] (mk n m g I J) = some (some (.int (zfor (fun p (a : Int32) => if I (b + 6) p = -1 then a + I (b + 8) p else a) 0 N 0)), mk n m g I J) := by
  rw [m_X7_livingCoins]
  simp only [e_X7_livingCoins_0, e_X7_livingCoins_1, e_X7_livingCoins_2, e_X7_livingCoins_3, e_X7_livingCoins_5, e_X7_livingCoins_6, e_X7_livingCoins_9, e_X7_livingCoins_12, e_X7_livingCoins_13, e_X7_livingCoins_14, e_X7_livingCoins_17, e_X7_livingCoins_20, e_X7_livingCoins_21, e_X7_livingCoins_22, e_X7_livingCoins_25, e_X7_livingCoins_26, e_X7_livingCoins_27, e_X7_livingCoins_28, e_X7_livingCoins_29, e_X7_livingCoins_32, e_X7_livingCoins_35, e_X7_livingCoins_36, zclr_i, zclr_r]
  refine (zloop (fun p a => zexec (d + 1) 95 4 [some (.ref b), some (.int a), some (.int (nI p))] [] (mk n m g I J)) (fun p (a : Int32) => if I (b + 6) p = -1 then a + I (b + 8) p else a) N ?_ N 0 0 (by omega)).trans ?_
  · intro p a hp
    rw [e_X7_livingCoins_4]
    simp only [e_X7_livingCoins_0, e_X7_livingCoins_1, e_X7_livingCoins_2, e_X7_livingCoins_3, e_X7_livingCoins_5, e_X7_livingCoins_6, e_X7_livingCoins_9, e_X7_livingCoins_12, e_X7_livingCoins_13, e_X7_livingCoins_14, e_X7_livingCoins_17, e_X7_livingCoins_20, e_X7_livingCoins_21, e_X7_livingCoins_22, e_X7_livingCoins_25, e_X7_livingCoins_26, e_X7_livingCoins_27, e_X7_livingCoins_28, e_X7_livingCoins_29, e_X7_livingCoins_32, e_X7_livingCoins_35, e_X7_livingCoins_36, c_T0 hb, g_T0_4 hb, g_T0_13 hb, t_lives hb (show p < 12 by omega), l_T8 hb (show p < 12 by omega), Option.bind_some, hN, if_neg (nI_ge hp (by omega : N < 2 ^ 31)), zclr_i, zclr_r, nI_1, if_true, Option.toList, List.cons_append, List.nil_append]
    by_cases h1 : I (b + 6) p = -1 <;> simp [h1, bI]
  · rw [e_X7_livingCoins_4]
    simp only [e_X7_livingCoins_0, e_X7_livingCoins_1, e_X7_livingCoins_2, e_X7_livingCoins_3, e_X7_livingCoins_5, e_X7_livingCoins_6, e_X7_livingCoins_9, e_X7_livingCoins_12, e_X7_livingCoins_13, e_X7_livingCoins_14, e_X7_livingCoins_17, e_X7_livingCoins_20, e_X7_livingCoins_21, e_X7_livingCoins_22, e_X7_livingCoins_25, e_X7_livingCoins_26, e_X7_livingCoins_27, e_X7_livingCoins_28, e_X7_livingCoins_29, e_X7_livingCoins_32, e_X7_livingCoins_35, e_X7_livingCoins_36, g_T0_4 hb, Option.bind_some, hN, if_pos (nI_le (Nat.le_refl N) (by omega : N < 2 ^ 31))]
theorem t_riches {b p : Nat} (hb : isTown b) (hp : p < 12) (hs : I (b + 7) p = -1 ∨ ∃ s, s < 6 ∧ I (b + 7) p = nI s) (d : Nat) : zcall d 96 [.ref b, .int (nI p)] (mk n m g I J) = some (some (.int (if I (b + 7) p = -1 then I (b + 8) p else I (b + 8) p + I (b + 2) (I (b + 7) p).toNatClampNeg)), mk n m g I J) := by
  rw [m_X7_riches]
  rcases hs with h | ⟨s, h6, h⟩
  · simp only [e_X7_riches_0, e_X7_riches_1, e_X7_riches_4, e_X7_riches_5, e_X7_riches_6, e_X7_riches_7, e_X7_riches_10, e_X7_riches_11, e_X7_riches_14, e_X7_riches_15, e_X7_riches_16, e_X7_riches_19, e_X7_riches_20, e_X7_riches_23, e_X7_riches_24, e_X7_riches_25, e_X7_riches_26, e_X7_riches_29, e_X7_riches_30, e_X7_riches_33, e_X7_riches_34, e_X7_riches_35, e_X7_riches_36, e_X7_riches_37, g_T0_12 hb, g_T0_13 hb, l_T7 hb hp, l_T8 hb hp, Option.bind_some, h, if_true]
  · have h1 : nI s ≠ -1 := nI_m1 (by omega)
    simp only [e_X7_riches_0, e_X7_riches_1, e_X7_riches_4, e_X7_riches_5, e_X7_riches_6, e_X7_riches_7, e_X7_riches_10, e_X7_riches_11, e_X7_riches_14, e_X7_riches_15, e_X7_riches_16, e_X7_riches_19, e_X7_riches_20, e_X7_riches_23, e_X7_riches_24, e_X7_riches_25, e_X7_riches_26, e_X7_riches_29, e_X7_riches_30, e_X7_riches_33, e_X7_riches_34, e_X7_riches_35, e_X7_riches_36, e_X7_riches_37, g_T0_7 hb, g_T0_12 hb, g_T0_13 hb, l_T7 hb hp, l_T8 hb hp, Option.bind_some, h, h1, if_false, l_T2 hb h6, nI_clamp (show s < 2 ^ 31 by omega)]
theorem t_least {s : Int32} (d : Nat) : zcall d 98 [.int s] (mk n m g I J) = some (some (.int (zfind (fun p => decide (¬ s >>> (nI p &&& 31) &&& 1 = 0)) nI 0 0 12)), mk n m g I J) := by
  rw [m_X7_least]
  simp only [e_X7_least_0, e_X7_least_1, e_X7_least_3, e_X7_least_5, e_X7_least_8, e_X7_least_9, e_X7_least_10, e_X7_least_11, e_X7_least_12, e_X7_least_13, e_X7_least_16, e_X7_least_17, e_X7_least_18, e_X7_least_21, e_X7_least_24, e_X7_least_25, zclr_i]
  have h := zsearch (fun p => zexec d 98 2 [some (.int s), some (.int (nI p))] [] (mk n m g I J)) (fun p => decide (¬ s >>> (nI p &&& 31) &&& 1 = 0)) (fun p => some (some (.int (nI p)), mk n m g I J)) 12 ?_ 12 0 (by omega)
  · refine h.trans ?_
    have h2 : zexec d 98 2 [some (.int s), some (.int (nI 12))] [] (mk n m g I J) = some (some (.int 0), mk n m g I J) := by
      rw [e_X7_least_2]
      simp only [e_X7_least_0, e_X7_least_1, e_X7_least_3, e_X7_least_5, e_X7_least_8, e_X7_least_9, e_X7_least_10, e_X7_least_11, e_X7_least_12, e_X7_least_13, e_X7_least_16, e_X7_least_17, e_X7_least_18, e_X7_least_21, e_X7_least_24, e_X7_least_25, if_pos (show (12 : Int32) ≤ nI 12 by decide)]
    rw [h2]
    generalize 12 = k
    generalize 0 = q
    induction k generalizing q with
    | zero => rfl
    | succ k ih =>
      rw [zfind, zfind, ih]
      split <;> rfl
  · intro p hp
    rw [e_X7_least_2]
    simp only [e_X7_least_0, e_X7_least_1, e_X7_least_3, e_X7_least_5, e_X7_least_8, e_X7_least_9, e_X7_least_10, e_X7_least_11, e_X7_least_12, e_X7_least_13, e_X7_least_16, e_X7_least_17, e_X7_least_18, e_X7_least_21, e_X7_least_24, e_X7_least_25, if_neg (show ¬ (12 : Int32) ≤ nI p from nI_ge (b := 12) hp (by decide)), zclr_i, nI_1]
    by_cases h : s >>> (nI p &&& 31) &&& 1 = 0 <;> simp [h]
theorem t_likedAt {b p k : Nat} (hb : isTown b) (hp : p * 6 + k < 72) (d : Nat) : zcall d 100 [.ref b, .int (nI p), .int (nI k)] (mk n m g I J) = some (some (.int (I (b + 13) (p * 6 + k))), mk n m g I J) := by
  rw [m_X7_likedAt]
  simp only [e_X7_likedAt_0, e_X7_likedAt_1, e_X7_likedAt_4, e_X7_likedAt_5, e_X7_likedAt_7, e_X7_likedAt_8, e_X7_likedAt_9, e_X7_likedAt_10, e_X7_likedAt_11, g_T0_18 hb, nI_6, l_T13 hb hp, Option.bind_some]
theorem t_younger {b p q : Nat} (hb : isTown b) (hp : p < 12) (hq : q < 12) (d : Nat) : zcall (d + 1) 99 [.ref b, .int (nI p), .int (nI q)] (mk n m g I J) = some (some (.int (if I (b + 5) p = I (b + 5) q then (if nI p < nI q then nI q else nI p) else if I (b + 5) q < I (b + 5) p then nI p else nI q)), mk n m g I J) := by
  rw [m_X7_younger]
  simp only [e_X7_younger_0, e_X7_younger_1, e_X7_younger_4, e_X7_younger_5, e_X7_younger_6, e_X7_younger_7, e_X7_younger_10, e_X7_younger_11, e_X7_younger_12, e_X7_younger_15, e_X7_younger_16, e_X7_younger_19, e_X7_younger_20, e_X7_younger_21, e_X7_younger_22, e_X7_younger_25, e_X7_younger_26, e_X7_younger_27, e_X7_younger_30, e_X7_younger_31, e_X7_younger_34, e_X7_younger_35, e_X7_younger_36, e_X7_younger_37, e_X7_younger_38, e_X7_younger_41, g_T0_10 hb, l_T5 hb hp, l_T5 hb hq, Option.bind_some, j_max, Option.toList, List.cons_append, List.nil_append]
  by_cases h1 : I (b + 5) p = I (b + 5) q
  · simp only [h1, if_true]
  · simp only [h1, if_false]
    by_cases h2 : I (b + 5) q < I (b + 5) p
    · simp [h2, Int32.not_le.mpr h2]
    · simp [h2, Int32.not_lt.mp h2]
end TW2
