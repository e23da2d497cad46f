/-! THE REFERENCE: questions of its town, in the class's terms -/
section RG
variable {n m : Nat} {g : Nat → zC} {I A : Nat → Nat → Int32} {J : Nat → Nat → Int64} {b N S U : Nat}
theorem nI_predI {k : Nat} (h : k ≤ 2 ^ 30) : (nI k - 1).toInt = (k : Int) - 1 := by
  rw [Int32.toInt_sub, nI_toInt (by omega), show (1 : Int32).toInt = 1 from rfl]
  simp [Int.bmod]
  omega
theorem in_iff {k : Nat} (h : k ≤ 2 ^ 30) (x : Int32) : (0 ≤ x ∧ x ≤ nI k - 1) ↔ ∃ p, p < k ∧ x = nI p := by
  rw [Int32.le_iff_toInt_le, Int32.le_iff_toInt_le, nI_predI h, show (0 : Int32).toInt = 0 from rfl]
  constructor
  · rintro ⟨h1, h2⟩
    refine ⟨x.toInt.toNat, by omega, ?_⟩
    apply Int32.toInt_inj.mp
    rw [nI_toInt (by omega)]
    omega
  · rintro ⟨p, hp, rfl⟩
    rw [nI_toInt (by omega)]
    omega
theorem WT.c1 (hW : WT A b N S U) (hR : RT A b (I 148) N S) : I 148 1 = nI N := by rw [hR.n1, hW.hN]
theorem WT.c0 (hW : WT A b N S U) (hR : RT A b (I 148) N S) : I 148 0 = nI S := by rw [hR.n0, hW.hS]
theorem v_isPersonAt {x : Int32} (hW : WT A b N S U) (hR : RT A b (I 148) N S) (d : Nat) : zcall (d + 1) 311 [.ref 143, .int x] (mk n m g I J) = some (some (.int (bI (decide (0 ≤ x ∧ x ≤ nI N - 1)))), mk n m g I J) := by
  rw [m_X12_isPersonAt]
  have h := v_isIn x 0 (nI N - 1) 0 _ rfl rfl d (mk n m g I J)
  simp only [e_X12_isPersonAt_0, e_X12_isPersonAt_1, e_X12_isPersonAt_2, e_X12_isPersonAt_3, e_X12_isPersonAt_4, e_X12_isPersonAt_7, e_X12_isPersonAt_8, e_X12_isPersonAt_9, e_X12_isPersonAt_10, e_X12_isPersonAt_11, e_X12_isPersonAt_12, e_X12_isPersonAt_15, cA_6, cA_12, cA_18, cA_30, cA_42, cA_54, cA_66, cA_78, cA_90, cA_102, cA_114, cA_126, cA_138, cA_210, cA_222, lc_0, lc_1, lc_2, lc_3, lc_4, lc_5, g_143_20, q_148, hW.c1 hR, h, zfit_bI, Option.bind_some, Option.isSome_some, Option.toList, List.cons_append, List.nil_append, zclr_i, zclr_r, zclr_n, zfit_i, zfit_l, and_self, if_true, if_false]
theorem v_isP_yes {p : Nat} (hW : WT A b N S U) (hR : RT A b (I 148) N S) (hp : p < N) (d : Nat) : zcall (d + 1) 311 [.ref 143, .int (nI p)] (mk n m g I J) = some (some (.int 1), mk n m g I J) := by
  have := hW.h12
  rw [v_isPersonAt hW hR, bI_t ((in_iff (by omega) _).mpr ⟨p, hp, rfl⟩)]
theorem v_isP_no {x : Int32} (hW : WT A b N S U) (hR : RT A b (I 148) N S) (hx : ∀ p, p < N → x ≠ nI p) (d : Nat) : zcall (d + 1) 311 [.ref 143, .int x] (mk n m g I J) = some (some (.int 0), mk n m g I J) := by
  have := hW.h12
  rw [v_isPersonAt hW hR, bI_f (fun e => by obtain ⟨p, hp, e⟩ := (in_iff (by omega) _).mp e; exact hx p hp e)]
theorem v_isSurname {x : Int32} (hW : WT A b N S U) (hR : RT A b (I 148) N S) (d : Nat) : zcall (d + 1) 312 [.ref 143, .int x] (mk n m g I J) = some (some (.int (bI (decide (0 ≤ x ∧ x ≤ nI S - 1)))), mk n m g I J) := by
  rw [m_X12_isSurname]
  have h := v_isIn x 0 (nI S - 1) 0 _ rfl rfl d (mk n m g I J)
  simp only [e_X12_isSurname_0, e_X12_isSurname_1, e_X12_isSurname_2, e_X12_isSurname_3, e_X12_isSurname_4, e_X12_isSurname_7, e_X12_isSurname_8, e_X12_isSurname_9, e_X12_isSurname_10, e_X12_isSurname_11, e_X12_isSurname_12, e_X12_isSurname_15, cA_6, cA_12, cA_18, cA_30, cA_42, cA_54, cA_66, cA_78, cA_90, cA_102, cA_114, cA_126, cA_138, cA_210, cA_222, lc_0, lc_1, lc_2, lc_3, lc_4, lc_5, g_143_20, q_148, hW.c0 hR, h, zfit_bI, Option.bind_some, Option.isSome_some, Option.toList, List.cons_append, List.nil_append, zclr_i, zclr_r, zclr_n, zfit_i, zfit_l, and_self, if_true, if_false]
theorem v_isS_yes {p : Nat} (hW : WT A b N S U) (hR : RT A b (I 148) N S) (hp : p < S) (d : Nat) : zcall (d + 1) 312 [.ref 143, .int (nI p)] (mk n m g I J) = some (some (.int 1), mk n m g I J) := by
  have := hW.h6
  rw [v_isSurname hW hR, bI_t ((in_iff (by omega) _).mpr ⟨p, hp, rfl⟩)]
theorem v_isS_no {x : Int32} (hW : WT A b N S U) (hR : RT A b (I 148) N S) (hx : ∀ p, p < S → x ≠ nI p) (d : Nat) : zcall (d + 1) 312 [.ref 143, .int x] (mk n m g I J) = some (some (.int 0), mk n m g I J) := by
  have := hW.h6
  rw [v_isSurname hW hR, bI_f (fun e => by obtain ⟨p, hp, e⟩ := (in_iff (by omega) _).mp e; exact hx p hp e)]
theorem m0_0 {x : Int32} (h : x = -1 ∨ ∃ y, 1000 ≤ y ∧ y ≤ U ∧ x = nI y) (hU : U ≤ 9999) : (m0 x = 0) = (x = -1) := by
  apply propext
  rcases h with rfl | ⟨y, h1, h2, rfl⟩
  · simp [m0]
  · have e1 : nI y ≠ -1 := nI_m1 (by omega)
    have e2 : nI y ≠ 0 := fun e => by
      have : nI y = nI 0 := e
      rw [nI_eq (by omega) (by omega)] at this
      omega
    simp [m0, e1, e2]
theorem m0_p {x : Int32} (h : x = -1 ∨ ∃ y, 1000 ≤ y ∧ y ≤ U ∧ x = nI y) (hU : U ≤ 9999) : (0 < m0 x) = ¬ (x = -1) := by
  apply propext
  rcases h with rfl | ⟨y, h1, h2, rfl⟩
  · simp [m0]
  · have e1 : nI y ≠ -1 := nI_m1 (by omega)
    have e2 : 0 < nI y := by
      rw [Int32.lt_iff_toInt_lt, nI_toInt (by omega), show (0 : Int32).toInt = 0 from rfl]
      omega
    simp [m0, e1, e2]
theorem m0_v {x : Int32} (h : x ≠ -1) : m0 x = x := by simp [m0, h]
theorem v_lives {p : Nat} (hW : WT A b N S U) (hR : RT A b (I 148) N S) (hp : p < N) (d : Nat) : zcall d 313 [.ref 143, .int (nI p)] (mk n m g I J) = some (some (.int (bI (decide (A (b + 6) p = -1)))), mk n m g I J) := by
  have := hW.h12
  rw [m_X12_lives]
  simp only [e_X12_lives_0, e_X12_lives_1, e_X12_lives_4, e_X12_lives_6, e_X12_lives_7, e_X12_lives_8, e_X12_lives_9, e_X12_lives_12, e_X12_lives_13, e_X12_lives_16, e_X12_lives_17, cA_6, cA_12, cA_18, cA_30, cA_42, cA_54, cA_66, cA_78, cA_90, cA_102, cA_114, cA_126, cA_138, cA_210, cA_222, lc_0, lc_1, lc_2, lc_3, lc_4, lc_5, g_143_20, q_148, nI_neg (show 66 + p < 2 ^ 31 by omega), nI_clamp (show 66 + p < 2 ^ 31 by omega), k_148 (show 66 + p < 2530 by omega), l_148 (show 66 + p < 2530 by omega), hR.died p hp, Option.bind_some, Option.isSome_some, Option.toList, List.cons_append, List.nil_append, zclr_i, zclr_r, zclr_n, zfit_i, zfit_l, and_self, if_true, if_false]
  have e := m0_0 (hW.died p hp) hW.hU
  by_cases h1 : A (b + 6) p = -1
  · simp [h1, m0, bI, zfit_b1]
  · have e1 : ¬ m0 (A (b + 6) p) = 0 := by rw [e]; exact h1
    simp [h1, e1, bI, zfit_b0]
def sLiv (A : Nat → Nat → Int32) (b N : Nat) : Int32 := sSet (fun p => decide (A (b + 6) p = -1)) N
theorem v_living (hW : WT A b N S U) (hR : RT A b (I 148) N S) (d : Nat) : zcall (d + 1) 314 [.ref 143] (mk n m g I J) = some (some (.int (sLiv A b N)), mk n m g I J) := by
  have h12 := hW.h12
  rw [m_X12_living]
  simp only [e_X12_living_0, e_X12_living_1, e_X12_living_2, e_X12_living_3, e_X12_living_5, e_X12_living_6, e_X12_living_9, e_X12_living_10, e_X12_living_11, e_X12_living_14, e_X12_living_15, e_X12_living_16, e_X12_living_17, e_X12_living_20, e_X12_living_23, e_X12_living_24, e_X12_living_25, e_X12_living_26, e_X12_living_29, e_X12_living_30, e_X12_living_31, e_X12_living_32, e_X12_living_35, e_X12_living_38, e_X12_living_39, Option.bind_some, Option.isSome_some, Option.toList, List.cons_append, List.nil_append, zclr_i, zclr_r, zclr_n, zfit_i, zfit_l, and_self, if_true, if_false]
  refine (zloop (fun p (a : Int32) => zexec (d + 1) 314 4 [some (.ref 143), some (.int a), some (.int (nI p))] [] (mk n m g I J)) (fun p (a : Int32) => if decide (A (b + 6) p = -1) = true then a ||| bt p else a) N ?_ N 0 0 (by omega)).trans ?_
  · intro p a hp
    rw [e_X12_living_4]
    simp only [e_X12_living_0, e_X12_living_1, e_X12_living_2, e_X12_living_3, e_X12_living_5, e_X12_living_6, e_X12_living_9, e_X12_living_10, e_X12_living_11, e_X12_living_14, e_X12_living_15, e_X12_living_16, e_X12_living_17, e_X12_living_20, e_X12_living_23, e_X12_living_24, e_X12_living_25, e_X12_living_26, e_X12_living_29, e_X12_living_30, e_X12_living_31, e_X12_living_32, e_X12_living_35, e_X12_living_38, e_X12_living_39, cA_6, cA_12, cA_18, cA_30, cA_42, cA_54, cA_66, cA_78, cA_90, cA_102, cA_114, cA_126, cA_138, cA_210, cA_222, lc_0, lc_1, lc_2, lc_3, lc_4, lc_5, g_143_20, q_148, c_143, hW.c1 hR, if_neg (nI_ge hp (by omega : N < 2 ^ 31)), v_lives hW hR hp, nI_1, Option.bind_some, Option.isSome_some, Option.toList, List.cons_append, List.nil_append, zclr_i, zclr_r, zclr_n, zfit_i, zfit_l, and_self, if_true, if_false]
    by_cases h1 : A (b + 6) p = -1
    · simp [h1, bI, bt]
    · simp [h1, bI]
  · rw [e_X12_living_4]
    simp only [e_X12_living_0, e_X12_living_1, e_X12_living_2, e_X12_living_3, e_X12_living_5, e_X12_living_6, e_X12_living_9, e_X12_living_10, e_X12_living_11, e_X12_living_14, e_X12_living_15, e_X12_living_16, e_X12_living_17, e_X12_living_20, e_X12_living_23, e_X12_living_24, e_X12_living_25, e_X12_living_26, e_X12_living_29, e_X12_living_30, e_X12_living_31, e_X12_living_32, e_X12_living_35, e_X12_living_38, e_X12_living_39, cA_6, cA_12, cA_18, cA_30, cA_42, cA_54, cA_66, cA_78, cA_90, cA_102, cA_114, cA_126, cA_138, cA_210, cA_222, lc_0, lc_1, lc_2, lc_3, lc_4, lc_5, g_143_20, q_148, hW.c1 hR, if_pos (nI_le (Nat.le_refl N) (by omega : N < 2 ^ 31)), Option.bind_some, Option.isSome_some, Option.toList, List.cons_append, List.nil_append, zclr_i, zclr_r, zclr_n, zfit_i, zfit_l, and_self, if_true, if_false]
    rfl
theorem v_bearers {s : Int32} (hW : WT A b N S U) (hR : RT A b (I 148) N S) (d : Nat) : zcall (d + 1) 315 [.ref 143, .int s] (mk n m g I J) = some (some (.int (sBear A b s N)), mk n m g I J) := by
  have h12 := hW.h12
  rw [m_X12_bearers]
  simp only [e_X12_bearers_0, e_X12_bearers_1, e_X12_bearers_2, e_X12_bearers_3, e_X12_bearers_5, e_X12_bearers_6, e_X12_bearers_9, e_X12_bearers_10, e_X12_bearers_11, e_X12_bearers_14, e_X12_bearers_15, e_X12_bearers_16, e_X12_bearers_17, e_X12_bearers_20, e_X12_bearers_23, e_X12_bearers_24, e_X12_bearers_27, e_X12_bearers_29, e_X12_bearers_30, e_X12_bearers_31, e_X12_bearers_32, e_X12_bearers_33, e_X12_bearers_36, e_X12_bearers_37, e_X12_bearers_38, e_X12_bearers_39, e_X12_bearers_42, e_X12_bearers_43, e_X12_bearers_44, e_X12_bearers_45, e_X12_bearers_48, e_X12_bearers_51, e_X12_bearers_52, Option.bind_some, Option.isSome_some, Option.toList, List.cons_append, List.nil_append, zclr_i, zclr_r, zclr_n, zfit_i, zfit_l, and_self, if_true, if_false]
  refine (zloop (fun p (a : Int32) => zexec (d + 1) 315 4 [some (.ref 143), some (.int s), some (.int a), some (.int (nI p))] [] (mk n m g I J)) (fun p (a : Int32) => if decide (A (b + 7) p = s ∧ A (b + 6) p = -1) = true then a ||| bt p else a) N ?_ N 0 0 (by omega)).trans ?_
  · intro p a hp
    rw [e_X12_bearers_4]
    simp only [e_X12_bearers_0, e_X12_bearers_1, e_X12_bearers_2, e_X12_bearers_3, e_X12_bearers_5, e_X12_bearers_6, e_X12_bearers_9, e_X12_bearers_10, e_X12_bearers_11, e_X12_bearers_14, e_X12_bearers_15, e_X12_bearers_16, e_X12_bearers_17, e_X12_bearers_20, e_X12_bearers_23, e_X12_bearers_24, e_X12_bearers_27, e_X12_bearers_29, e_X12_bearers_30, e_X12_bearers_31, e_X12_bearers_32, e_X12_bearers_33, e_X12_bearers_36, e_X12_bearers_37, e_X12_bearers_38, e_X12_bearers_39, e_X12_bearers_42, e_X12_bearers_43, e_X12_bearers_44, e_X12_bearers_45, e_X12_bearers_48, e_X12_bearers_51, e_X12_bearers_52, cA_6, cA_12, cA_18, cA_30, cA_42, cA_54, cA_66, cA_78, cA_90, cA_102, cA_114, cA_126, cA_138, cA_210, cA_222, lc_0, lc_1, lc_2, lc_3, lc_4, lc_5, g_143_20, q_148, nI_neg (show 30 + p < 2 ^ 31 by omega), nI_clamp (show 30 + p < 2 ^ 31 by omega), k_148 (show 30 + p < 2530 by omega), l_148 (show 30 + p < 2530 by omega), c_143, hW.c1 hR, hR.bears p hp, if_neg (nI_ge hp (by omega : N < 2 ^ 31)), v_lives hW hR hp, nI_1, Option.bind_some, Option.isSome_some, Option.toList, List.cons_append, List.nil_append, zclr_i, zclr_r, zclr_n, zfit_i, zfit_l, and_self, if_true, if_false]
    by_cases h1 : A (b + 6) p = -1 <;> by_cases h2 : A (b + 7) p = s <;> simp [h1, h2, bI, bt]
  · rw [e_X12_bearers_4]
    simp only [e_X12_bearers_0, e_X12_bearers_1, e_X12_bearers_2, e_X12_bearers_3, e_X12_bearers_5, e_X12_bearers_6, e_X12_bearers_9, e_X12_bearers_10, e_X12_bearers_11, e_X12_bearers_14, e_X12_bearers_15, e_X12_bearers_16, e_X12_bearers_17, e_X12_bearers_20, e_X12_bearers_23, e_X12_bearers_24, e_X12_bearers_27, e_X12_bearers_29, e_X12_bearers_30, e_X12_bearers_31, e_X12_bearers_32, e_X12_bearers_33, e_X12_bearers_36, e_X12_bearers_37, e_X12_bearers_38, e_X12_bearers_39, e_X12_bearers_42, e_X12_bearers_43, e_X12_bearers_44, e_X12_bearers_45, e_X12_bearers_48, e_X12_bearers_51, e_X12_bearers_52, cA_6, cA_12, cA_18, cA_30, cA_42, cA_54, cA_66, cA_78, cA_90, cA_102, cA_114, cA_126, cA_138, cA_210, cA_222, lc_0, lc_1, lc_2, lc_3, lc_4, lc_5, g_143_20, q_148, hW.c1 hR, if_pos (nI_le (Nat.le_refl N) (by omega : N < 2 ^ 31)), Option.bind_some, Option.isSome_some, Option.toList, List.cons_append, List.nil_append, zclr_i, zclr_r, zclr_n, zfit_i, zfit_l, and_self, if_true, if_false]
    rfl
theorem v_dashes (hW : WT A b N S U) (hR : RT A b (I 148) N S) (d : Nat) : zcall (d + 2) 317 [.ref 143] (mk n m g I J) = some (some (.int (sBear A b (-1) N)), mk n m g I J) := by
  rw [m_X12_dashes]
  simp only [e_X12_dashes_0, e_X12_dashes_1, e_X12_dashes_2, e_X12_dashes_5, c_143, v_bearers hW hR, Option.bind_some, Option.isSome_some, Option.toList, List.cons_append, List.nil_append, zclr_i, zclr_r, zclr_n, zfit_i, zfit_l, and_self, if_true, if_false]
theorem isS_bear {s : Int32} (h : N ≤ 12) : isS (sBear A b s N) (fun p => decide (p < N) && decide (A (b + 7) p = s ∧ A (b + 6) p = -1)) := isS_sSet _ h
theorem isS_liv (h : N ≤ 12) : isS (sLiv A b N) (fun p => decide (p < N) && decide (A (b + 6) p = -1)) := isS_sSet _ h
theorem cnt_le (f : Nat → Bool) : ∀ k p a, zfor (fun p a => if f p = true then a + 1 else a) p k a ≤ a + k
  | 0, _, a => Nat.le_refl a
  | k + 1, p, a => by
    rw [zfor]
    have := cnt_le f k (p + 1) (if f p = true then a + 1 else a)
    have h2 : (if f p = true then a + 1 else a) ≤ a + 1 := by split <;> omega
    omega
theorem cnt_12 {f : Nat → Bool} {N : Nat} (hN : N ≤ 12) : cnt (fun p => decide (p < N) && f p) 12 = cnt f N := by
  have h1 : ∀ k p (a : Nat), p + k ≤ N → zfor (fun p a => if (decide (p < N) && f p) = true then a + 1 else a) p k a = zfor (fun p a => if f p = true then a + 1 else a) p k a := by
    intro k
    induction k with
    | zero => intro p a _; rfl
    | succ k ih =>
      intro p a hp
      rw [zfor, zfor, ih (p + 1) _ (by omega)]
      have : p < N := by omega
      simp [this]
  have h2 : ∀ k p (a : Nat), N ≤ p → zfor (fun p a => if (decide (p < N) && f p) = true then a + 1 else a) p k a = a := by
    intro k
    induction k with
    | zero => intro p a _; rfl
    | succ k ih =>
      intro p a hp
      rw [zfor, ih (p + 1) _ (by omega)]
      have : ¬ p < N := by omega
      simp [this]
  have h3 : ∀ (h : Nat → Nat → Nat) j k p (a : Nat), zfor h p (j + k) a = zfor h (p + j) k (zfor h p j a) := by
    intro h j
    induction j with
    | zero => intro k p a; simp [zfor]
    | succ j ih =>
      intro k p a
      rw [show j + 1 + k = (j + k) + 1 by omega, zfor, ih, zfor, show p + 1 + j = p + (j + 1) by omega]
  unfold cnt
  rw [show 12 = N + (12 - N) by omega, h3, h2 _ _ _ (by omega), h1 _ _ _ (by omega)]
theorem tFree_cnt {s : Int32} : tFree A b s N = A b 1 - nI (cnt (fun p => decide (A (b + 7) p = s ∧ A (b + 6) p = -1)) N) := by
  have : ∀ k p (x : Int32) (a : Nat), zfor (fun p (a : Int32) => if A (b + 7) p = s ∧ A (b + 6) p = -1 then a + -1 else a) p k (x - nI a) = x - nI (zfor (fun p a => if decide (A (b + 7) p = s ∧ A (b + 6) p = -1) = true then a + 1 else a) p k a) := by
    intro k
    induction k with
    | zero => intro p x a; rfl
    | succ k ih =>
      intro p x a
      rw [zfor, zfor]
      by_cases h : A (b + 7) p = s ∧ A (b + 6) p = -1
      · have e : x - nI a + -1 = x - nI (a + 1) := by
          rw [← nI_1, Int32.sub_eq_add_neg, Int32.sub_eq_add_neg, Int32.neg_add, Int32.add_assoc, Int32.sub_eq_add_neg (-nI a)]
        simp only [h, and_self, if_true, decide_true]
        rw [e, ih]
      · simp only [h, if_false, decide_false, Bool.false_eq_true]
        rw [ih]
  have h0 := this N 0 (A b 1) 0
  rw [show nI 0 = 0 from rfl, Int32.sub_zero] at h0
  exact h0
theorem v_freeOf {s : Int32} (hW : WT A b N S U) (hR : RT A b (I 148) N S) (d : Nat) : zcall (d + 2) 316 [.ref 143, .int s] (mk n m g I J) = some (some (.int (tFr A b s N)), mk n m g I J) := by
  rw [m_X12_freeOf]
  have h := v_sizeOf (isS_bear (A := A) (b := b) (s := s) hW.h12) d (mk n m g I J)
  rw [cnt_12 hW.h12] at h
  simp only [e_X12_freeOf_0, e_X12_freeOf_1, e_X12_freeOf_2, e_X12_freeOf_5, e_X12_freeOf_6, e_X12_freeOf_7, e_X12_freeOf_8, e_X12_freeOf_9, e_X12_freeOf_12, e_X12_freeOf_15, e_X12_freeOf_16, e_X12_freeOf_19, cA_6, cA_12, cA_18, cA_30, cA_42, cA_54, cA_66, cA_78, cA_90, cA_102, cA_114, cA_126, cA_138, cA_210, cA_222, lc_0, lc_1, lc_2, lc_3, lc_4, lc_5, g_143_20, q_148, c_143, v_bearers hW hR, h, hR.n3, j_max, Option.bind_some, Option.isSome_some, Option.toList, List.cons_append, List.nil_append, zclr_i, zclr_r, zclr_n, zfit_i, zfit_l, and_self, if_true, if_false]
  rw [← tFree_cnt]
  rfl
theorem v_ageOf {p : Nat} (hW : WT A b N S U) (hR : RT A b (I 148) N S) (hp : p < N) (d : Nat) : zcall (d + 1) 318 [.ref 143, .int (nI p)] (mk n m g I J) = some (some (.int ((if A (b + 6) p = -1 then A b 0 else A (b + 6) p) - A (b + 5) p)), mk n m g I J) := by
  have := hW.h12
  rw [m_X12_ageOf]
  simp only [e_X12_ageOf_0, e_X12_ageOf_1, e_X12_ageOf_2, e_X12_ageOf_5, e_X12_ageOf_8, e_X12_ageOf_9, e_X12_ageOf_12, e_X12_ageOf_13, e_X12_ageOf_14, e_X12_ageOf_17, e_X12_ageOf_18, e_X12_ageOf_21, e_X12_ageOf_23, e_X12_ageOf_24, e_X12_ageOf_25, e_X12_ageOf_26, e_X12_ageOf_27, e_X12_ageOf_30, e_X12_ageOf_32, e_X12_ageOf_33, e_X12_ageOf_34, e_X12_ageOf_35, e_X12_ageOf_36, cA_6, cA_12, cA_18, cA_30, cA_42, cA_54, cA_66, cA_78, cA_90, cA_102, cA_114, cA_126, cA_138, cA_210, cA_222, lc_0, lc_1, lc_2, lc_3, lc_4, lc_5, g_143_20, q_148, nI_neg (show 66 + p < 2 ^ 31 by omega), nI_clamp (show 66 + p < 2 ^ 31 by omega), k_148 (show 66 + p < 2530 by omega), l_148 (show 66 + p < 2530 by omega), nI_neg (show 18 + p < 2 ^ 31 by omega), nI_clamp (show 18 + p < 2 ^ 31 by omega), k_148 (show 18 + p < 2530 by omega), l_148 (show 18 + p < 2530 by omega), c_143, v_lives hW hR hp, hR.died p hp, hR.born p hp, hR.n2, Option.bind_some, Option.isSome_some, Option.toList, List.cons_append, List.nil_append, zclr_i, zclr_r, zclr_n, zfit_i, zfit_l, and_self, if_true, if_false]
  by_cases h1 : A (b + 6) p = -1
  · simp [h1, bI]
  · simp [h1, bI, m0]
theorem v_thatWed (hW : WT A b N S U) (hR : RT A b (I 148) N S) (d : Nat) : zcall d 319 [.ref 143, .int 78, .int (-1)] (mk n m g I J) = some (some (.int (sSet (fun p => decide (A (b + 9) p ≠ -1)) N)), mk n m g I J) := by
  have h12 := hW.h12
  rw [m_X12_that]
  simp only [e_X12_that_0, e_X12_that_1, e_X12_that_2, e_X12_that_3, e_X12_that_7, e_X12_that_8, e_X12_that_11, e_X12_that_12, e_X12_that_13, e_X12_that_16, e_X12_that_17, e_X12_that_18, e_X12_that_21, e_X12_that_22, e_X12_that_24, e_X12_that_25, e_X12_that_26, e_X12_that_27, e_X12_that_30, e_X12_that_31, e_X12_that_34, e_X12_that_35, e_X12_that_37, e_X12_that_38, e_X12_that_39, e_X12_that_40, e_X12_that_43, e_X12_that_46, e_X12_that_47, Option.bind_some, Option.isSome_some, Option.toList, List.cons_append, List.nil_append, zclr_i, zclr_r, zclr_n, zfit_i, zfit_l, and_self, if_true, if_false]
  refine (zloop (fun p (a : Int32) => zexec d 319 5 [some (.ref 143), some (.int 78), some (.int (-1)), some (.int a), some (.int (nI p))] [] (mk n m g I J)) (fun p (a : Int32) => if decide (A (b + 9) p ≠ -1) = true then a ||| bt p else a) N ?_ N 0 0 (by omega)).trans ?_
  · intro p a hp
    rw [e_X12_that_5]
    simp only [e_X12_that_0, e_X12_that_1, e_X12_that_2, e_X12_that_3, e_X12_that_7, e_X12_that_8, e_X12_that_11, e_X12_that_12, e_X12_that_13, e_X12_that_16, e_X12_that_17, e_X12_that_18, e_X12_that_21, e_X12_that_22, e_X12_that_24, e_X12_that_25, e_X12_that_26, e_X12_that_27, e_X12_that_30, e_X12_that_31, e_X12_that_34, e_X12_that_35, e_X12_that_37, e_X12_that_38, e_X12_that_39, e_X12_that_40, e_X12_that_43, e_X12_that_46, e_X12_that_47, cA_6, cA_12, cA_18, cA_30, cA_42, cA_54, cA_66, cA_78, cA_90, cA_102, cA_114, cA_126, cA_138, cA_210, cA_222, lc_0, lc_1, lc_2, lc_3, lc_4, lc_5, g_143_20, q_148, nI_neg (show 78 + p < 2 ^ 31 by omega), nI_clamp (show 78 + p < 2 ^ 31 by omega), k_148 (show 78 + p < 2530 by omega), l_148 (show 78 + p < 2530 by omega), c_143, hW.c1 hR, hR.wed p hp, if_neg (nI_ge hp (by omega : N < 2 ^ 31)), nI_1, Option.bind_some, Option.isSome_some, Option.toList, List.cons_append, List.nil_append, zclr_i, zclr_r, zclr_n, zfit_i, zfit_l, and_self, if_true, if_false]
    by_cases h1 : A (b + 9) p = -1 <;> simp [h1, bI, bt]
  · rw [e_X12_that_5]
    simp only [e_X12_that_0, e_X12_that_1, e_X12_that_2, e_X12_that_3, e_X12_that_7, e_X12_that_8, e_X12_that_11, e_X12_that_12, e_X12_that_13, e_X12_that_16, e_X12_that_17, e_X12_that_18, e_X12_that_21, e_X12_that_22, e_X12_that_24, e_X12_that_25, e_X12_that_26, e_X12_that_27, e_X12_that_30, e_X12_that_31, e_X12_that_34, e_X12_that_35, e_X12_that_37, e_X12_that_38, e_X12_that_39, e_X12_that_40, e_X12_that_43, e_X12_that_46, e_X12_that_47, cA_6, cA_12, cA_18, cA_30, cA_42, cA_54, cA_66, cA_78, cA_90, cA_102, cA_114, cA_126, cA_138, cA_210, cA_222, lc_0, lc_1, lc_2, lc_3, lc_4, lc_5, g_143_20, q_148, hW.c1 hR, if_pos (nI_le (Nat.le_refl N) (by omega : N < 2 ^ 31)), Option.bind_some, Option.isSome_some, Option.toList, List.cons_append, List.nil_append, zclr_i, zclr_r, zclr_n, zfit_i, zfit_l, and_self, if_true, if_false]
    rfl
theorem v_thatAway (hW : WT A b N S U) (hR : RT A b (I 148) N S) (d : Nat) : zcall d 319 [.ref 143, .int 114, .int 0] (mk n m g I J) = some (some (.int (sSet (fun p => decide (A (b + 11) p ≠ -1)) N)), mk n m g I J) := by
  have h12 := hW.h12
  rw [m_X12_that]
  simp only [e_X12_that_0, e_X12_that_1, e_X12_that_2, e_X12_that_3, e_X12_that_7, e_X12_that_8, e_X12_that_11, e_X12_that_12, e_X12_that_13, e_X12_that_16, e_X12_that_17, e_X12_that_18, e_X12_that_21, e_X12_that_22, e_X12_that_24, e_X12_that_25, e_X12_that_26, e_X12_that_27, e_X12_that_30, e_X12_that_31, e_X12_that_34, e_X12_that_35, e_X12_that_37, e_X12_that_38, e_X12_that_39, e_X12_that_40, e_X12_that_43, e_X12_that_46, e_X12_that_47, Option.bind_some, Option.isSome_some, Option.toList, List.cons_append, List.nil_append, zclr_i, zclr_r, zclr_n, zfit_i, zfit_l, and_self, if_true, if_false]
  refine (zloop (fun p (a : Int32) => zexec d 319 5 [some (.ref 143), some (.int 114), some (.int 0), some (.int a), some (.int (nI p))] [] (mk n m g I J)) (fun p (a : Int32) => if decide (A (b + 11) p ≠ -1) = true then a ||| bt p else a) N ?_ N 0 0 (by omega)).trans ?_
  · intro p a hp
    rw [e_X12_that_5]
    simp only [e_X12_that_0, e_X12_that_1, e_X12_that_2, e_X12_that_3, e_X12_that_7, e_X12_that_8, e_X12_that_11, e_X12_that_12, e_X12_that_13, e_X12_that_16, e_X12_that_17, e_X12_that_18, e_X12_that_21, e_X12_that_22, e_X12_that_24, e_X12_that_25, e_X12_that_26, e_X12_that_27, e_X12_that_30, e_X12_that_31, e_X12_that_34, e_X12_that_35, e_X12_that_37, e_X12_that_38, e_X12_that_39, e_X12_that_40, e_X12_that_43, e_X12_that_46, e_X12_that_47, cA_6, cA_12, cA_18, cA_30, cA_42, cA_54, cA_66, cA_78, cA_90, cA_102, cA_114, cA_126, cA_138, cA_210, cA_222, lc_0, lc_1, lc_2, lc_3, lc_4, lc_5, g_143_20, q_148, nI_neg (show 114 + p < 2 ^ 31 by omega), nI_clamp (show 114 + p < 2 ^ 31 by omega), k_148 (show 114 + p < 2530 by omega), l_148 (show 114 + p < 2530 by omega), c_143, hW.c1 hR, hR.away p hp, if_neg (nI_ge hp (by omega : N < 2 ^ 31)), nI_1, Option.bind_some, Option.isSome_some, Option.toList, List.cons_append, List.nil_append, zclr_i, zclr_r, zclr_n, zfit_i, zfit_l, and_self, if_true, if_false]
    have e := m0_0 (hW.away p hp) hW.hU
    by_cases h1 : A (b + 11) p = -1
    · simp [h1, m0]
    · have e1 : ¬ m0 (A (b + 11) p) = 0 := by rw [e]; exact h1
      simp [h1, e1, bt]
  · rw [e_X12_that_5]
    simp only [e_X12_that_0, e_X12_that_1, e_X12_that_2, e_X12_that_3, e_X12_that_7, e_X12_that_8, e_X12_that_11, e_X12_that_12, e_X12_that_13, e_X12_that_16, e_X12_that_17, e_X12_that_18, e_X12_that_21, e_X12_that_22, e_X12_that_24, e_X12_that_25, e_X12_that_26, e_X12_that_27, e_X12_that_30, e_X12_that_31, e_X12_that_34, e_X12_that_35, e_X12_that_37, e_X12_that_38, e_X12_that_39, e_X12_that_40, e_X12_that_43, e_X12_that_46, e_X12_that_47, cA_6, cA_12, cA_18, cA_30, cA_42, cA_54, cA_66, cA_78, cA_90, cA_102, cA_114, cA_126, cA_138, cA_210, cA_222, lc_0, lc_1, lc_2, lc_3, lc_4, lc_5, g_143_20, q_148, hW.c1 hR, if_pos (nI_le (Nat.le_refl N) (by omega : N < 2 ^ 31)), Option.bind_some, Option.isSome_some, Option.toList, List.cons_append, List.nil_append, zclr_i, zclr_r, zclr_n, zfit_i, zfit_l, and_self, if_true, if_false]
    rfl
theorem v_allCoins (hW : WT A b N S U) (hR : RT A b (I 148) N S) (d : Nat) : zcall (d + 1) 320 [.ref 143] (mk n m g I J) = some (some (.int (zfor (fun p (a : Int32) => if A (b + 6) p = -1 then a + A (b + 8) p else a) 0 N 0)), mk n m g I J) := by
  have h12 := hW.h12
  rw [m_X12_allCoins]
  simp only [e_X12_allCoins_0, e_X12_allCoins_1, e_X12_allCoins_2, e_X12_allCoins_3, e_X12_allCoins_5, e_X12_allCoins_6, e_X12_allCoins_9, e_X12_allCoins_10, e_X12_allCoins_11, e_X12_allCoins_14, e_X12_allCoins_15, e_X12_allCoins_16, e_X12_allCoins_17, e_X12_allCoins_20, e_X12_allCoins_23, e_X12_allCoins_24, e_X12_allCoins_27, e_X12_allCoins_29, e_X12_allCoins_30, e_X12_allCoins_31, e_X12_allCoins_32, e_X12_allCoins_35, e_X12_allCoins_36, e_X12_allCoins_37, e_X12_allCoins_38, e_X12_allCoins_41, e_X12_allCoins_44, e_X12_allCoins_45, Option.bind_some, Option.isSome_some, Option.toList, List.cons_append, List.nil_append, zclr_i, zclr_r, zclr_n, zfit_i, zfit_l, and_self, if_true, if_false]
  refine (zloop (fun p (a : Int32) => zexec (d + 1) 320 4 [some (.ref 143), some (.int a), some (.int (nI p))] [] (mk n m g I J)) (fun p (a : Int32) => if A (b + 6) p = -1 then a + A (b + 8) p else a) N ?_ N 0 0 (by omega)).trans ?_
  · intro p a hp
    rw [e_X12_allCoins_4]
    simp only [e_X12_allCoins_0, e_X12_allCoins_1, e_X12_allCoins_2, e_X12_allCoins_3, e_X12_allCoins_5, e_X12_allCoins_6, e_X12_allCoins_9, e_X12_allCoins_10, e_X12_allCoins_11, e_X12_allCoins_14, e_X12_allCoins_15, e_X12_allCoins_16, e_X12_allCoins_17, e_X12_allCoins_20, e_X12_allCoins_23, e_X12_allCoins_24, e_X12_allCoins_27, e_X12_allCoins_29, e_X12_allCoins_30, e_X12_allCoins_31, e_X12_allCoins_32, e_X12_allCoins_35, e_X12_allCoins_36, e_X12_allCoins_37, e_X12_allCoins_38, e_X12_allCoins_41, e_X12_allCoins_44, e_X12_allCoins_45, cA_6, cA_12, cA_18, cA_30, cA_42, cA_54, cA_66, cA_78, cA_90, cA_102, cA_114, cA_126, cA_138, cA_210, cA_222, lc_0, lc_1, lc_2, lc_3, lc_4, lc_5, g_143_20, q_148, nI_neg (show 42 + p < 2 ^ 31 by omega), nI_clamp (show 42 + p < 2 ^ 31 by omega), k_148 (show 42 + p < 2530 by omega), l_148 (show 42 + p < 2530 by omega), c_143, hW.c1 hR, hR.coins p hp, v_lives hW hR hp, if_neg (nI_ge hp (by omega : N < 2 ^ 31)), nI_1, Option.bind_some, Option.isSome_some, Option.toList, List.cons_append, List.nil_append, zclr_i, zclr_r, zclr_n, zfit_i, zfit_l, and_self, if_true, if_false]
    by_cases h1 : A (b + 6) p = -1 <;> simp [h1, bI]
  · rw [e_X12_allCoins_4]
    simp only [e_X12_allCoins_0, e_X12_allCoins_1, e_X12_allCoins_2, e_X12_allCoins_3, e_X12_allCoins_5, e_X12_allCoins_6, e_X12_allCoins_9, e_X12_allCoins_10, e_X12_allCoins_11, e_X12_allCoins_14, e_X12_allCoins_15, e_X12_allCoins_16, e_X12_allCoins_17, e_X12_allCoins_20, e_X12_allCoins_23, e_X12_allCoins_24, e_X12_allCoins_27, e_X12_allCoins_29, e_X12_allCoins_30, e_X12_allCoins_31, e_X12_allCoins_32, e_X12_allCoins_35, e_X12_allCoins_36, e_X12_allCoins_37, e_X12_allCoins_38, e_X12_allCoins_41, e_X12_allCoins_44, e_X12_allCoins_45, cA_6, cA_12, cA_18, cA_30, cA_42, cA_54, cA_66, cA_78, cA_90, cA_102, cA_114, cA_126, cA_138, cA_210, cA_222, lc_0, lc_1, lc_2, lc_3, lc_4, lc_5, g_143_20, q_148, hW.c1 hR, if_pos (nI_le (Nat.le_refl N) (by omega : N < 2 ^ 31)), Option.bind_some, Option.isSome_some, Option.toList, List.cons_append, List.nil_append, zclr_i, zclr_r, zclr_n, zfit_i, zfit_l, and_self, if_true, if_false]
theorem v_placeOf {x : Int32} (hW : WT A b N S U) (hR : RT A b (I 148) N S) (d : Nat) : zcall d 327 [.ref 143, .int x] (mk n m g I J) = some (some (.int (qPlace A b x (qN A b))), mk n m g I J) := by
  have h12 := hW.hQ.2
  have c5 : I 148 5 = nI (qN A b) := by rw [hR.n5]; exact hW.hQ.1
  rw [m_X12_placeOf]
  simp only [e_X12_placeOf_0, e_X12_placeOf_1, e_X12_placeOf_3, e_X12_placeOf_4, e_X12_placeOf_7, e_X12_placeOf_8, e_X12_placeOf_9, e_X12_placeOf_12, e_X12_placeOf_13, e_X12_placeOf_16, e_X12_placeOf_19, e_X12_placeOf_20, e_X12_placeOf_21, e_X12_placeOf_22, e_X12_placeOf_23, e_X12_placeOf_26, e_X12_placeOf_27, e_X12_placeOf_28, e_X12_placeOf_31, e_X12_placeOf_34, e_X12_placeOf_35, Option.bind_some, Option.isSome_some, Option.toList, List.cons_append, List.nil_append, zclr_i, zclr_r, zclr_n, zfit_i, zfit_l, and_self, if_true, if_false]
  refine (zsearch (fun k => zexec d 327 2 [some (.ref 143), some (.int x), some (.int (nI k))] [] (mk n m g I J)) (fun k => decide (A (b + 15) k = x)) (fun k => some (some (.int (nI k)), mk n m g I J)) (qN A b) ?_ (qN A b) 0 (by omega)).trans ?_
  · intro k hk
    rw [e_X12_placeOf_2]
    simp only [e_X12_placeOf_0, e_X12_placeOf_1, e_X12_placeOf_3, e_X12_placeOf_4, e_X12_placeOf_7, e_X12_placeOf_8, e_X12_placeOf_9, e_X12_placeOf_12, e_X12_placeOf_13, e_X12_placeOf_16, e_X12_placeOf_19, e_X12_placeOf_20, e_X12_placeOf_21, e_X12_placeOf_22, e_X12_placeOf_23, e_X12_placeOf_26, e_X12_placeOf_27, e_X12_placeOf_28, e_X12_placeOf_31, e_X12_placeOf_34, e_X12_placeOf_35, cA_6, cA_12, cA_18, cA_30, cA_42, cA_54, cA_66, cA_78, cA_90, cA_102, cA_114, cA_126, cA_138, cA_210, cA_222, lc_0, lc_1, lc_2, lc_3, lc_4, lc_5, g_143_20, q_148, nI_neg (show 210 + k < 2 ^ 31 by omega), nI_clamp (show 210 + k < 2 ^ 31 by omega), k_148 (show 210 + k < 2530 by omega), l_148 (show 210 + k < 2530 by omega), c5, hR.who k hk, if_neg (nI_ge hk (by omega : qN A b < 2 ^ 31)), nI_1, Option.bind_some, Option.isSome_some, Option.toList, List.cons_append, List.nil_append, zclr_i, zclr_r, zclr_n, zfit_i, zfit_l, and_self, if_true, if_false]
    by_cases h1 : A (b + 15) k = x <;> simp [h1]
  · rw [e_X12_placeOf_2]
    simp only [e_X12_placeOf_0, e_X12_placeOf_1, e_X12_placeOf_3, e_X12_placeOf_4, e_X12_placeOf_7, e_X12_placeOf_8, e_X12_placeOf_9, e_X12_placeOf_12, e_X12_placeOf_13, e_X12_placeOf_16, e_X12_placeOf_19, e_X12_placeOf_20, e_X12_placeOf_21, e_X12_placeOf_22, e_X12_placeOf_23, e_X12_placeOf_26, e_X12_placeOf_27, e_X12_placeOf_28, e_X12_placeOf_31, e_X12_placeOf_34, e_X12_placeOf_35, cA_6, cA_12, cA_18, cA_30, cA_42, cA_54, cA_66, cA_78, cA_90, cA_102, cA_114, cA_126, cA_138, cA_210, cA_222, lc_0, lc_1, lc_2, lc_3, lc_4, lc_5, g_143_20, q_148, c5, if_pos (nI_le (Nat.le_refl (qN A b)) (by omega : qN A b < 2 ^ 31)), Option.bind_some, Option.isSome_some, Option.toList, List.cons_append, List.nil_append, zclr_i, zclr_r, zclr_n, zfit_i, zfit_l, and_self, if_true, if_false]
    exact zfind_app (fun v => some (some (Value.int v), mk n m g I J)) _ nI (-1) _ _
end RG
