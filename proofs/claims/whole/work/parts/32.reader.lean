/-! THE READER: what stands here, and faults -/
section RD
variable {n m : Nat} {g : Nat → zC} {I : Nat → Nat → Int32} {J : Nat → Nat → Int64}
theorem lg_eq (x y : Int64) : (lg_cmp x y = 0) = (x = y) := by
  unfold lg_cmp
  by_cases h : x > y
  · rw [if_pos h]
    refine propext ⟨fun e => absurd e (by decide), fun e => ?_⟩
    rw [e] at h
    exact absurd h Int64.lt_irrefl
  · rw [if_neg h]
    by_cases h1 : x = y
    · simp [h1]
    · simp [h1]
theorem d_atEnd (d : Nat) : zcall d 50 [.ref 13] (mk n m g I J) = some (some (.int (bI (decide (I 13 5 = 0)))), mk n m g I J) := by
  rw [m_X4_atEnd]
  simp only [e_X4_atEnd_0, e_X4_atEnd_1, e_X4_atEnd_4, e_X4_atEnd_7, e_X4_atEnd_8, e_X4_atEnd_11, e_X4_atEnd_12, g_13_5, Option.bind_some, Option.isSome_some, Option.toList, List.cons_append, List.nil_append, zclr_i, zclr_r, zclr_n, zfit_i, zfit_l, and_self, if_true, if_false]
  by_cases h1 : I 13 5 = 0 <;> simp [h1, bI, zfit_b0, zfit_b1]
def dName (I : Nat → Nat → Int32) (J : Nat → Nat → Int64) : Bool := decide (I 13 5 = 2 ∧ J 13 8 ≠ -1 ∧ I 13 9 = -1)
theorem d_atName (d : Nat) : zcall d 51 [.ref 13] (mk n m g I J) = some (some (.int (bI (dName I J))), mk n m g I J) := by
  rw [m_X4_atName]
  simp only [e_X4_atName_0, e_X4_atName_1, e_X4_atName_4, e_X4_atName_5, e_X4_atName_8, e_X4_atName_9, e_X4_atName_12, e_X4_atName_15, e_X4_atName_16, e_X4_atName_19, e_X4_atName_20, e_X4_atName_23, e_X4_atName_24, e_X4_atName_27, e_X4_atName_28, e_X4_atName_31, e_X4_atName_32, g_13_5, g_13_8, g_13_9, lg_eq, Option.bind_some, Option.isSome_some, Option.toList, List.cons_append, List.nil_append, zclr_i, zclr_r, zclr_n, zfit_i, zfit_l, and_self, if_true, if_false]
  unfold dName
  by_cases h1 : I 13 5 = 2 <;> by_cases h2 : J 13 8 = -1 <;> by_cases h3 : I 13 9 = -1 <;> simp [h1, h2, h3, bI, zfit_b0, zfit_b1]
theorem d_atCompare (d : Nat) : zcall d 52 [.ref 13] (mk n m g I J) = some (some (.int (bI (decide (I 13 5 = 4 ∧ I 13 7 ≠ 59)))), mk n m g I J) := by
  rw [m_X4_atCompare]
  simp only [e_X4_atCompare_0, e_X4_atCompare_1, e_X4_atCompare_4, e_X4_atCompare_5, e_X4_atCompare_8, e_X4_atCompare_9, e_X4_atCompare_12, e_X4_atCompare_14, e_X4_atCompare_17, e_X4_atCompare_18, e_X4_atCompare_21, e_X4_atCompare_22, g_13_5, g_13_7, Option.bind_some, Option.isSome_some, Option.toList, List.cons_append, List.nil_append, zclr_i, zclr_r, zclr_n, zfit_i, zfit_l, and_self, if_true, if_false]
  by_cases h1 : I 13 5 = 4 <;> by_cases h2 : I 13 7 = 59 <;> simp [h1, h2, bI, zfit_b0, zfit_b1]
def dFail (w : Int32) (I : Nat → Nat → Int32) : Nat → Nat → Int32 := zu (zu I 13 10 w) 13 11 (I 13 4)
theorem d_fail {w : Int32} (d : Nat) : zcall d 53 [.ref 13, .int w] (mk n m g I J) = some (some (.int 0), mk n m g (dFail w I) J) := by
  rw [m_X4_fail]
  simp only [e_X4_fail_0, e_X4_fail_1, e_X4_fail_2, e_X4_fail_5, e_X4_fail_6, e_X4_fail_7, e_X4_fail_10, e_X4_fail_13, e_X4_fail_14, g_13_4, g_13_10, g_13_11, p_13_10, p_13_11, zfit_b0, Option.bind_some, Option.isSome_some, Option.toList, List.cons_append, List.nil_append, zclr_i, zclr_r, zclr_n, zfit_i, zfit_l, and_self, if_true, if_false]
  rfl
def dHere (I : Nat → Nat → Int32) : Nat → Nat → Int32 := dFail (if I 13 5 = 1 then 1 else 2) I
theorem d_failHere (d : Nat) : zcall d 54 [.ref 13] (mk n m g I J) = some (some (.int 0), mk n m g (dHere I) J) := by
  rw [m_X4_failHere]
  simp only [e_X4_failHere_0, e_X4_failHere_1, e_X4_failHere_2, e_X4_failHere_5, e_X4_failHere_6, e_X4_failHere_9, e_X4_failHere_10, e_X4_failHere_13, e_X4_failHere_14, e_X4_failHere_17, e_X4_failHere_18, e_X4_failHere_19, e_X4_failHere_22, e_X4_failHere_25, e_X4_failHere_26, g_13_4, g_13_5, g_13_10, g_13_11, p_13_10, p_13_11, zfit_b0, Option.bind_some, Option.isSome_some, Option.toList, List.cons_append, List.nil_append, zclr_i, zclr_r, zclr_n, zfit_i, zfit_l, and_self, if_true, if_false]
  unfold dHere
  by_cases h1 : I 13 5 = 1
  · simp only [h1, if_true, ne_eq, not_true, if_false]
    rfl
  · simp only [h1, if_true, ne_eq, not_false_eq_true, if_false]
    rfl
def wPlace (J : Nat → Nat → Int64) (a K : Nat) (w : Int64) : Int32 := zfind (fun k => decide (J a k = w)) nI (-1) 0 K
theorem d_placeIn {a K : Nat} {w : Int64} (hK : K < 2 ^ 31) (ha : ∀ k, k < K → zlg (mk n m g I J) a k = some (J a k)) (d : Nat) : zcall d 62 [.ref a, .int (nI K), .long w] (mk n m g I J) = some (some (.int (wPlace J a K w)), mk n m g I J) := by
  rw [m_X4_placeIn]
  simp only [e_X4_placeIn_0, e_X4_placeIn_1, e_X4_placeIn_5, e_X4_placeIn_6, e_X4_placeIn_9, e_X4_placeIn_10, e_X4_placeIn_12, e_X4_placeIn_13, e_X4_placeIn_14, e_X4_placeIn_15, e_X4_placeIn_18, e_X4_placeIn_20, e_X4_placeIn_21, e_X4_placeIn_24, e_X4_placeIn_27, e_X4_placeIn_28, Option.bind_some, Option.isSome_some, Option.toList, List.cons_append, List.nil_append, zclr_i, zclr_r, zclr_n, zfit_i, zfit_l, and_self, if_true, if_false]
  have h := zsearch (fun k => zexec d 62 3 [some (.ref a), some (.int (nI K)), some (.long w), none, some (.int (nI k))] [] (mk n m g I J)) (fun k => decide (J a k = w)) (fun k => some (some (.int (nI k)), mk n m g I J)) K ?_ K 0 (by omega)
  · refine h.trans ?_
    have h2 : zexec d 62 3 [some (.ref a), some (.int (nI K)), some (.long w), none, some (.int (nI K))] [] (mk n m g I J) = some (some (.int (-1)), mk n m g I J) := by
      rw [e_X4_placeIn_3]
      simp only [e_X4_placeIn_0, e_X4_placeIn_1, e_X4_placeIn_5, e_X4_placeIn_6, e_X4_placeIn_9, e_X4_placeIn_10, e_X4_placeIn_12, e_X4_placeIn_13, e_X4_placeIn_14, e_X4_placeIn_15, e_X4_placeIn_18, e_X4_placeIn_20, e_X4_placeIn_21, e_X4_placeIn_24, e_X4_placeIn_27, e_X4_placeIn_28, if_pos (nI_le (Nat.le_refl K) hK), Option.bind_some, Option.isSome_some, Option.toList, List.cons_append, List.nil_append, zclr_i, zclr_r, zclr_n, zfit_i, zfit_l, and_self, if_true, if_false]
    rw [h2]
    exact zfind_app (fun v => some (some (Value.int v), mk n m g I J)) _ nI (-1) K 0
  · intro k hk
    rw [e_X4_placeIn_3]
    simp only [e_X4_placeIn_0, e_X4_placeIn_1, e_X4_placeIn_5, e_X4_placeIn_6, e_X4_placeIn_9, e_X4_placeIn_10, e_X4_placeIn_12, e_X4_placeIn_13, e_X4_placeIn_14, e_X4_placeIn_15, e_X4_placeIn_18, e_X4_placeIn_20, e_X4_placeIn_21, e_X4_placeIn_24, e_X4_placeIn_27, e_X4_placeIn_28, if_neg (nI_ge hk hK), nI_neg (show k < 2 ^ 31 by omega), nI_clamp (show k < 2 ^ 31 by omega), ha k hk, lg_eq, nI_1, Option.bind_some, Option.isSome_some, Option.toList, List.cons_append, List.nil_append, zclr_i, zclr_r, zclr_n, zfit_i, zfit_l, and_self, if_true, if_false]
    by_cases h1 : J a k = w <;> simp [h1]
/-- which of some words the name here is; else a fault -/
def dPlace (I : Nat → Nat → Int32) (J : Nat → Nat → Int64) (a K : Nat) : Int32 × (Nat → Nat → Int32) := if dName I J = true then (wPlace J a K (J 13 8), if wPlace J a K (J 13 8) = -1 then dFail 3 I else I) else (-1, dHere I)
theorem d_placeHere {a K : Nat} (hK : K < 2 ^ 31) (ha : ∀ k, k < K → zlg (mk n m g I J) a k = some (J a k)) (d : Nat) : zcall (d + 1) 60 [.ref 13, .ref a, .int (nI K)] (mk n m g I J) = some (some (.int (dPlace I J a K).1), mk n m g (dPlace I J a K).2 J) := by
  rw [m_X4_placeHere]
  simp only [e_X4_placeHere_0, e_X4_placeHere_1, e_X4_placeHere_4, e_X4_placeHere_7, e_X4_placeHere_8, e_X4_placeHere_11, e_X4_placeHere_12, e_X4_placeHere_13, e_X4_placeHere_14, e_X4_placeHere_15, e_X4_placeHere_16, e_X4_placeHere_17, e_X4_placeHere_20, e_X4_placeHere_23, e_X4_placeHere_24, e_X4_placeHere_25, e_X4_placeHere_26, e_X4_placeHere_29, e_X4_placeHere_30, e_X4_placeHere_31, e_X4_placeHere_34, e_X4_placeHere_35, e_X4_placeHere_36, c_13, g_13_8, d_atName, d_failHere, d_placeIn hK ha, d_fail, Option.bind_some, Option.isSome_some, Option.toList, List.cons_append, List.nil_append, zclr_i, zclr_r, zclr_n, zfit_i, zfit_l, and_self, if_true, if_false]
  unfold dPlace
  by_cases h1 : dName I J = true
  · by_cases h2 : wPlace J a K (J 13 8) = -1 <;> simp [h1, h2, bI]
  · simp [h1, bI]
theorem d_personHere {b N : Nat} (hb : isTown b) (hN : I b 4 = nI N) (h12 : N ≤ 12) (d : Nat) : zcall (d + 2) 58 [.ref 13, .ref b] (mk n m g I J) = some (some (.int (dPlace I J (b + 4) N).1), mk n m g (dPlace I J (b + 4) N).2 J) := by
  rw [m_X4_personHere]
  simp only [e_X4_personHere_0, e_X4_personHere_1, e_X4_personHere_2, e_X4_personHere_5, e_X4_personHere_6, e_X4_personHere_9, e_X4_personHere_12, c_13, g_T0_4 hb, g_T0_9 hb, hN, d_placeHere (show N < 2 ^ 31 by omega) (fun k hk => k_T4 hb (show k < 12 by omega)), Option.bind_some, Option.isSome_some, Option.toList, List.cons_append, List.nil_append, zclr_i, zclr_r, zclr_n, zfit_i, zfit_l, and_self, if_true, if_false]
theorem d_surnameHere {b S : Nat} (hb : isTown b) (hS : I b 3 = nI S) (h6 : S ≤ 6) (d : Nat) : zcall (d + 2) 59 [.ref 13, .ref b] (mk n m g I J) = some (some (.int (dPlace I J (b + 1) S).1), mk n m g (dPlace I J (b + 1) S).2 J) := by
  rw [m_X4_surnameHere]
  simp only [e_X4_surnameHere_0, e_X4_surnameHere_1, e_X4_surnameHere_2, e_X4_surnameHere_5, e_X4_surnameHere_6, e_X4_surnameHere_9, e_X4_surnameHere_12, c_13, g_T0_3 hb, g_T0_6 hb, hS, d_placeHere (show S < 2 ^ 31 by omega) (fun k hk => k_T1 hb (show k < 6 by omega)), Option.bind_some, Option.isSome_some, Option.toList, List.cons_append, List.nil_append, zclr_i, zclr_r, zclr_n, zfit_i, zfit_l, and_self, if_true, if_false]
theorem d_isTaken {b S N : Nat} (hb : isTown b) (hS : I b 3 = nI S) (h6 : S ≤ 6) (hN : I b 4 = nI N) (h12 : N ≤ 12) (d : Nat) : zcall (d + 1) 61 [.ref 13, .ref b] (mk n m g I J) = some (some (.int (bI (decide (wPlace J (b + 1) S (J 13 8) ≠ -1 ∨ wPlace J (b + 4) N (J 13 8) ≠ -1)))), mk n m g I J) := by
  rw [m_X4_isTaken]
  simp only [e_X4_isTaken_0, e_X4_isTaken_1, e_X4_isTaken_4, e_X4_isTaken_5, e_X4_isTaken_8, e_X4_isTaken_9, e_X4_isTaken_12, e_X4_isTaken_15, e_X4_isTaken_16, e_X4_isTaken_19, e_X4_isTaken_20, e_X4_isTaken_23, e_X4_isTaken_24, e_X4_isTaken_27, e_X4_isTaken_28, e_X4_isTaken_31, e_X4_isTaken_34, e_X4_isTaken_35, e_X4_isTaken_38, e_X4_isTaken_39, e_X4_isTaken_42, e_X4_isTaken_43, g_13_8, g_T0_3 hb, g_T0_4 hb, g_T0_6 hb, g_T0_9 hb, hS, hN, d_placeIn (show S < 2 ^ 31 by omega) (fun k hk => k_T1 hb (show k < 6 by omega)), d_placeIn (show N < 2 ^ 31 by omega) (fun k hk => k_T4 hb (show k < 12 by omega)), Option.bind_some, Option.isSome_some, Option.toList, List.cons_append, List.nil_append, zclr_i, zclr_r, zclr_n, zfit_i, zfit_l, and_self, if_true, if_false]
  by_cases h1 : wPlace J (b + 1) S (J 13 8) = -1 <;> by_cases h2 : wPlace J (b + 4) N (J 13 8) = -1 <;> simp [h1, h2, bI, zfit_b0, zfit_b1]
end RD
