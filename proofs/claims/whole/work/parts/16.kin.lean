/-! KIN, and what can be in a town -/
section KN
variable {n m : Nat} {g : Nat → zC} {I : Nat → Nat → Int32} {J : Nat → Nat → Int64}
def kbit (x : Int32) : Int32 := if x = -1 then 0 else 1 <<< (x &&& 31)
theorem k_bit (d : Nat) (x : Int32) (h : zH) : zcall d 15 [.int x] h = some (some (.int (kbit x)), h) := by
  rw [m_X1_bit]
  simp only [e_X1_bit_0, e_X1_bit_1, e_X1_bit_2, e_X1_bit_5, e_X1_bit_6, e_X1_bit_9, e_X1_bit_10, e_X1_bit_11, e_X1_bit_12]
  unfold kbit
  by_cases h1 : x = -1 <;> simp [h1]
def kPar (I : Nat → Nat → Int32) (b p : Nat) : Int32 := kbit (I (b + 10) (2 * p)) ||| kbit (I (b + 10) (2 * p + 1))
theorem k_parentsOf {b p : Nat} (hb : isTown b) (hp : p < 12) (d : Nat) : zcall (d + 1) 16 [.ref b, .int (nI p)] (mk n m g I J) = some (some (.int (kPar I b p)), mk n m g I J) := by
  rw [m_X1_parentsOf]
  simp only [e_X1_parentsOf_0, e_X1_parentsOf_1, e_X1_parentsOf_4, e_X1_parentsOf_5, e_X1_parentsOf_6, e_X1_parentsOf_7, e_X1_parentsOf_8, e_X1_parentsOf_11, e_X1_parentsOf_12, e_X1_parentsOf_15, e_X1_parentsOf_16, e_X1_parentsOf_17, e_X1_parentsOf_18, e_X1_parentsOf_19, e_X1_parentsOf_20, e_X1_parentsOf_21, e_X1_parentsOf_24, e_X1_parentsOf_25, g_T0_15 hb, nI_2, nI_1, l_T10 hb (show 2 * p < 24 by omega), l_T10 hb (show 2 * p + 1 < 24 by omega), k_bit, Option.bind_some, Option.toList, List.cons_append, List.nil_append]
  rfl
def kChild (I : Nat → Nat → Int32) (b : Nat) (x : Int32) (q : Nat) : Bool := decide (I (b + 10) (2 * q) = x ∨ I (b + 10) (2 * q + 1) = x)
theorem k_childrenOf {b N : Nat} {x : Int32} (hb : isTown b) (hN : I b 4 = nI N) (h12 : N ≤ 12) (d : Nat) : zcall d 17 [.ref b, .int x] (mk n m g I J) = some (some (.int (sSet (kChild I b x) N)), mk n m g I J) := by
  rw [m_X1_childrenOf]
  simp only [e_X1_childrenOf_0, e_X1_childrenOf_1, e_X1_childrenOf_2, e_X1_childrenOf_3, e_X1_childrenOf_5, e_X1_childrenOf_6, e_X1_childrenOf_9, e_X1_childrenOf_12, e_X1_childrenOf_13, e_X1_childrenOf_16, e_X1_childrenOf_17, e_X1_childrenOf_18, e_X1_childrenOf_19, e_X1_childrenOf_20, e_X1_childrenOf_21, e_X1_childrenOf_24, e_X1_childrenOf_25, e_X1_childrenOf_28, e_X1_childrenOf_29, e_X1_childrenOf_30, e_X1_childrenOf_31, e_X1_childrenOf_32, e_X1_childrenOf_33, e_X1_childrenOf_34, e_X1_childrenOf_35, e_X1_childrenOf_38, e_X1_childrenOf_39, e_X1_childrenOf_40, e_X1_childrenOf_41, e_X1_childrenOf_42, e_X1_childrenOf_43, e_X1_childrenOf_44, e_X1_childrenOf_47, e_X1_childrenOf_50, e_X1_childrenOf_51, zclr_i, zclr_r]
  refine (zloop (fun p a => zexec d 17 4 [some (.ref b), some (.int x), some (.int a), some (.int (nI p))] [] (mk n m g I J)) (fun p (a : Int32) => if kChild I b x p = true then a ||| bt p else a) N ?_ N 0 0 (by omega)).trans ?_
  · intro p a hp
    rw [e_X1_childrenOf_4]
    simp only [e_X1_childrenOf_0, e_X1_childrenOf_1, e_X1_childrenOf_2, e_X1_childrenOf_3, e_X1_childrenOf_5, e_X1_childrenOf_6, e_X1_childrenOf_9, e_X1_childrenOf_12, e_X1_childrenOf_13, e_X1_childrenOf_16, e_X1_childrenOf_17, e_X1_childrenOf_18, e_X1_childrenOf_19, e_X1_childrenOf_20, e_X1_childrenOf_21, e_X1_childrenOf_24, e_X1_childrenOf_25, e_X1_childrenOf_28, e_X1_childrenOf_29, e_X1_childrenOf_30, e_X1_childrenOf_31, e_X1_childrenOf_32, e_X1_childrenOf_33, e_X1_childrenOf_34, e_X1_childrenOf_35, e_X1_childrenOf_38, e_X1_childrenOf_39, e_X1_childrenOf_40, e_X1_childrenOf_41, e_X1_childrenOf_42, e_X1_childrenOf_43, e_X1_childrenOf_44, e_X1_childrenOf_47, e_X1_childrenOf_50, e_X1_childrenOf_51, g_T0_4 hb, g_T0_15 hb, nI_2, nI_1, l_T10 hb (show 2 * p < 24 by omega), l_T10 hb (show 2 * p + 1 < 24 by omega), Option.bind_some, hN, if_neg (nI_ge hp (by omega : N < 2 ^ 31)), zclr_i, zclr_r]
    by_cases h1 : I (b + 10) (2 * p) = x <;> by_cases h2 : I (b + 10) (2 * p + 1) = x <;> simp [h1, h2, bt, kChild]
  · rw [e_X1_childrenOf_4]
    simp only [e_X1_childrenOf_0, e_X1_childrenOf_1, e_X1_childrenOf_2, e_X1_childrenOf_3, e_X1_childrenOf_5, e_X1_childrenOf_6, e_X1_childrenOf_9, e_X1_childrenOf_12, e_X1_childrenOf_13, e_X1_childrenOf_16, e_X1_childrenOf_17, e_X1_childrenOf_18, e_X1_childrenOf_19, e_X1_childrenOf_20, e_X1_childrenOf_21, e_X1_childrenOf_24, e_X1_childrenOf_25, e_X1_childrenOf_28, e_X1_childrenOf_29, e_X1_childrenOf_30, e_X1_childrenOf_31, e_X1_childrenOf_32, e_X1_childrenOf_33, e_X1_childrenOf_34, e_X1_childrenOf_35, e_X1_childrenOf_38, e_X1_childrenOf_39, e_X1_childrenOf_40, e_X1_childrenOf_41, e_X1_childrenOf_42, e_X1_childrenOf_43, e_X1_childrenOf_44, e_X1_childrenOf_47, e_X1_childrenOf_50, e_X1_childrenOf_51, g_T0_4 hb, Option.bind_some, hN, if_pos (nI_le (Nat.le_refl N) (by omega : N < 2 ^ 31))]
    rfl
def kNear (I : Nat → Nat → Int32) (b p q : Nat) : Bool := decide (¬ kPar I b p &&& kPar I b q = 0 ∨ ¬ kPar I b p &&& kbit (nI q) = 0 ∨ ¬ kPar I b q &&& kbit (nI p) = 0)
theorem k_areNear {b p q : Nat} (hb : isTown b) (hp : p < 12) (hq : q < 12) (d : Nat) : zcall (d + 2) 18 [.ref b, .int (nI p), .int (nI q)] (mk n m g I J) = some (some (.int (bI (kNear I b p q))), mk n m g I J) := by
  rw [m_X1_areNear]
  simp only [e_X1_areNear_0, e_X1_areNear_1, e_X1_areNear_2, e_X1_areNear_5, e_X1_areNear_6, e_X1_areNear_7, e_X1_areNear_8, e_X1_areNear_11, e_X1_areNear_13, e_X1_areNear_14, e_X1_areNear_16, e_X1_areNear_17, e_X1_areNear_20, e_X1_areNear_21, e_X1_areNear_22, e_X1_areNear_25, e_X1_areNear_26, e_X1_areNear_29, e_X1_areNear_31, e_X1_areNear_32, e_X1_areNear_35, e_X1_areNear_36, e_X1_areNear_39, e_X1_areNear_40, e_X1_areNear_43, e_X1_areNear_44, k_parentsOf hb hp, k_parentsOf hb hq, k_bit, Option.bind_some, Option.toList, List.cons_append, List.nil_append, zclr_i, zclr_r]
  unfold kNear
  by_cases h1 : kPar I b p &&& kPar I b q = 0 <;> by_cases h2 : kPar I b p &&& kbit (nI q) = 0 <;> by_cases h3 : kPar I b q &&& kbit (nI p) = 0 <;> simp [h1, h2, h3, zfit_b0, zfit_b1, bI]
def kAround (I : Nat → Nat → Int32) (b : Nat) (s : Int32) (N : Nat) : Int32 := zfor (fun q (a : Int32) => if s >>> (nI q &&& 31) &&& 1 = 0 then a else a ||| (kPar I b q ||| sSet (kChild I b (nI q)) N)) 0 N 0
theorem k_around {b N : Nat} {s : Int32} (hb : isTown b) (hN : I b 4 = nI N) (h12 : N ≤ 12) (d : Nat) : zcall (d + 2) 21 [.ref b, .int s] (mk n m g I J) = some (some (.int (kAround I b s N)), mk n m g I J) := by
  rw [m_X1_around]
  simp only [e_X1_around_0, e_X1_around_1, e_X1_around_2, e_X1_around_3, e_X1_around_5, e_X1_around_6, e_X1_around_9, e_X1_around_12, e_X1_around_13, e_X1_around_14, e_X1_around_15, e_X1_around_16, e_X1_around_17, e_X1_around_20, e_X1_around_21, e_X1_around_22, e_X1_around_23, e_X1_around_26, e_X1_around_27, e_X1_around_28, e_X1_around_31, e_X1_around_32, e_X1_around_33, e_X1_around_34, e_X1_around_37, e_X1_around_40, e_X1_around_41, zclr_i, zclr_r]
  refine (zloop (fun p a => zexec (d + 2) 21 4 [some (.ref b), some (.int s), some (.int a), some (.int (nI p))] [] (mk n m g I J)) (fun q (a : Int32) => if s >>> (nI q &&& 31) &&& 1 = 0 then a else a ||| (kPar I b q ||| sSet (kChild I b (nI q)) N)) N ?_ N 0 0 (by omega)).trans ?_
  · intro p a hp
    rw [e_X1_around_4]
    simp only [e_X1_around_0, e_X1_around_1, e_X1_around_2, e_X1_around_3, e_X1_around_5, e_X1_around_6, e_X1_around_9, e_X1_around_12, e_X1_around_13, e_X1_around_14, e_X1_around_15, e_X1_around_16, e_X1_around_17, e_X1_around_20, e_X1_around_21, e_X1_around_22, e_X1_around_23, e_X1_around_26, e_X1_around_27, e_X1_around_28, e_X1_around_31, e_X1_around_32, e_X1_around_33, e_X1_around_34, e_X1_around_37, e_X1_around_40, e_X1_around_41, g_T0_4 hb, nI_1, k_parentsOf hb (show p < 12 by omega), k_childrenOf hb hN h12, Option.bind_some, hN, if_neg (nI_ge hp (by omega : N < 2 ^ 31)), zclr_i, zclr_r, Option.toList, List.cons_append, List.nil_append]
    by_cases h1 : s >>> (nI p &&& 31) &&& 1 = 0 <;> simp [h1]
  · rw [e_X1_around_4]
    simp only [e_X1_around_0, e_X1_around_1, e_X1_around_2, e_X1_around_3, e_X1_around_5, e_X1_around_6, e_X1_around_9, e_X1_around_12, e_X1_around_13, e_X1_around_14, e_X1_around_15, e_X1_around_16, e_X1_around_17, e_X1_around_20, e_X1_around_21, e_X1_around_22, e_X1_around_23, e_X1_around_26, e_X1_around_27, e_X1_around_28, e_X1_around_31, e_X1_around_32, e_X1_around_33, e_X1_around_34, e_X1_around_37, e_X1_around_40, e_X1_around_41, g_T0_4 hb, Option.bind_some, hN, if_pos (nI_le (Nat.le_refl N) (by omega : N < 2 ^ 31))]
    rfl
def kCould (I : Nat → Nat → Int32) (b c p q : Nat) : Bool := decide (p ≠ q ∧ I (b + 5) p ≤ I (b + 5) c - 16 ∧ I (b + 5) q ≤ I (b + 5) c - 16 ∧ (if I (b + 7) c = -1 then I (b + 7) p = I (b + 7) c ∧ I (b + 7) q = I (b + 7) c else I (b + 7) p = I (b + 7) c ∨ I (b + 7) q = I (b + 7) c))
theorem k_couldHave {b c p q : Nat} (hb : isTown b) (hc : c < 12) (hp : p < 12) (hq : q < 12) (d : Nat) : zcall d 22 [.ref b, .int (nI c), .int (nI p), .int (nI q)] (mk n m g I J) = some (some (.int (bI (kCould I b c p q))), mk n m g I J) := by
  rw [m_X1_couldHave]
  simp only [e_X1_couldHave_0, e_X1_couldHave_1, e_X1_couldHave_4, e_X1_couldHave_5, e_X1_couldHave_6, e_X1_couldHave_8, e_X1_couldHave_9, e_X1_couldHave_11, e_X1_couldHave_12, e_X1_couldHave_13, e_X1_couldHave_16, e_X1_couldHave_17, e_X1_couldHave_20, e_X1_couldHave_21, e_X1_couldHave_22, e_X1_couldHave_24, e_X1_couldHave_27, e_X1_couldHave_28, e_X1_couldHave_31, e_X1_couldHave_32, e_X1_couldHave_33, e_X1_couldHave_35, e_X1_couldHave_38, e_X1_couldHave_39, e_X1_couldHave_40, e_X1_couldHave_41, e_X1_couldHave_44, e_X1_couldHave_45, e_X1_couldHave_46, e_X1_couldHave_48, e_X1_couldHave_49, e_X1_couldHave_52, e_X1_couldHave_53, e_X1_couldHave_54, e_X1_couldHave_56, e_X1_couldHave_59, e_X1_couldHave_60, e_X1_couldHave_63, e_X1_couldHave_64, e_X1_couldHave_66, e_X1_couldHave_67, e_X1_couldHave_70, e_X1_couldHave_71, e_X1_couldHave_72, e_X1_couldHave_74, e_X1_couldHave_77, e_X1_couldHave_78, e_X1_couldHave_81, e_X1_couldHave_82, e_X1_couldHave_84, e_X1_couldHave_86, e_X1_couldHave_87, e_X1_couldHave_90, e_X1_couldHave_92, e_X1_couldHave_95, e_X1_couldHave_97, e_X1_couldHave_100, e_X1_couldHave_101, e_X1_couldHave_104, e_X1_couldHave_105, e_X1_couldHave_108, e_X1_couldHave_110, e_X1_couldHave_113, e_X1_couldHave_115, e_X1_couldHave_118, e_X1_couldHave_119, e_X1_couldHave_122, e_X1_couldHave_123, g_T0_10 hb, g_T0_12 hb, l_T5 hb hc, l_T5 hb hp, l_T5 hb hq, l_T7 hb hc, l_T7 hb hp, l_T7 hb hq, Option.bind_some, zclr_i, zclr_r]
  unfold kCould
  have e : nI p = nI q ↔ p = q := nI_eq (by omega) (by omega)
  by_cases h0 : p = q
  · simp [h0, zfit_b0, zfit_b1, bI]
  by_cases h1 : I (b + 5) p ≤ I (b + 5) c - 16
  · by_cases h2 : I (b + 5) q ≤ I (b + 5) c - 16
    · by_cases h3 : I (b + 7) c = -1
      · by_cases h4 : I (b + 7) p = -1 <;> by_cases h5 : I (b + 7) q = -1 <;> simp [e, h0, h1, h2, h3, h4, h5, zfit_b0, zfit_b1, bI, Int32.not_lt.mpr h1, Int32.not_lt.mpr h2]
      · by_cases h4 : I (b + 7) p = I (b + 7) c <;> by_cases h5 : I (b + 7) q = I (b + 7) c <;> simp [e, h0, h1, h2, h3, h4, h5, zfit_b0, zfit_b1, bI, Int32.not_lt.mpr h1, Int32.not_lt.mpr h2]
    · simp [e, h0, h1, h2, zfit_b0, zfit_b1, bI, Int32.not_lt.mpr h1, Int32.not_le.mp h2]
  · simp [e, h0, h1, zfit_b0, zfit_b1, bI, Int32.not_le.mp h1]
/-! what can be -/
def tGrown (I : Nat → Nat → Int32) (b p : Nat) : Bool := decide (I (b + 6) p = -1 ∧ 16 ≤ I b 0 - I (b + 5) p)
def tBear (I : Nat → Nat → Int32) (b p q : Nat) : Bool := decide (p ≠ q) && tGrown I b p && tGrown I b q
theorem t_canBear {b p q : Nat} (hb : isTown b) (hp : p < 12) (hq : q < 12) (d : Nat) : zcall (d + 2) 107 [.ref b, .int (nI p), .int (nI q)] (mk n m g I J) = some (some (.int (bI (tBear I b p q))), mk n m g I J) := by
  rw [m_X7_canBear]
  simp only [e_X7_canBear_0, e_X7_canBear_1, e_X7_canBear_2, e_X7_canBear_5, e_X7_canBear_6, e_X7_canBear_7, e_X7_canBear_10, e_X7_canBear_13, e_X7_canBear_14, e_X7_canBear_15, e_X7_canBear_18, e_X7_canBear_21, e_X7_canBear_22, e_X7_canBear_25, e_X7_canBear_26, c_T0 hb, t_isGrown hb hp, t_isGrown hb hq, Option.bind_some, Option.toList, List.cons_append, List.nil_append, zclr_i, zclr_r, if_true]
  have e : nI p = nI q ↔ p = q := nI_eq (by omega) (by omega)
  unfold tBear tGrown
  by_cases h0 : p = q
  · simp [h0, zfit_b0, zfit_b1, bI]
  by_cases h1 : I (b + 6) p = -1 ∧ 16 ≤ I b 0 - I (b + 5) p <;> by_cases h2 : I (b + 6) q = -1 ∧ 16 ≤ I b 0 - I (b + 5) q <;> simp [e, h0, h1, h2, zfit_b0, zfit_b1, bI]
def tFr (I : Nat → Nat → Int32) (b : Nat) (s : Int32) (N : Nat) : Int32 := if 0 < tFree I b s N then tFree I b s N else 0
def tTake (I : Nat → Nat → Int32) (b p : Nat) (s : Int32) (N : Nat) : Bool := decide (s ≠ -1 ∧ (I (b + 7) p = s ∨ 0 < tFr I b s N))
theorem t_canTake {b p N : Nat} {s : Int32} (hb : isTown b) (hN : I b 4 = nI N) (h12 : N ≤ 12) (hp : p < 12) (d : Nat) : zcall (d + 1) 111 [.ref b, .int (nI p), .int s] (mk n m g I J) = some (some (.int (bI (tTake I b p s N))), mk n m g I J) := by
  rw [m_X7_canTake]
  simp only [e_X7_canTake_0, e_X7_canTake_1, e_X7_canTake_2, e_X7_canTake_5, e_X7_canTake_6, e_X7_canTake_9, e_X7_canTake_10, e_X7_canTake_11, e_X7_canTake_12, e_X7_canTake_15, e_X7_canTake_16, e_X7_canTake_17, e_X7_canTake_20, e_X7_canTake_23, e_X7_canTake_24, e_X7_canTake_27, e_X7_canTake_28, c_T0 hb, g_T0_12 hb, l_T7 hb hp, t_free hb hN h12, Option.bind_some, Option.toList, List.cons_append, List.nil_append, zclr_i, zclr_r, if_true]
  unfold tTake
  rw [show (if 0 < tFree I b s N then tFree I b s N else 0) = tFr I b s N from rfl]
  by_cases h0 : s = -1
  · simp [h0, zfit_b0, zfit_b1, bI]
  by_cases h1 : I (b + 7) p = s
  · simp [h0, h1, zfit_b0, zfit_b1, bI]
  by_cases h2 : 0 < tFr I b s N
  · simp [h0, h1, h2, zfit_b0, zfit_b1, bI, Int32.not_le.mpr h2]
  · simp [h0, h1, h2, zfit_b0, zfit_b1, bI, Int32.not_lt.mp h2]
def tMarry (I : Nat → Nat → Int32) (b p q : Nat) (w : Int32) (N : Nat) : Bool := tBear I b p q && decide (I (b + 9) p = -1) && decide (I (b + 9) q = -1) && !kNear I b p q && (decide (w = 0) || (if w = 1 then tTake I b p (I (b + 7) q) N else tTake I b q (I (b + 7) p) N))
theorem t_canMarry {b p q N : Nat} {w : Int32} (hb : isTown b) (hN : I b 4 = nI N) (h12 : N ≤ 12) (hp : p < 12) (hq : q < 12) (d : Nat) : zcall (d + 3) 110 [.ref b, .int (nI p), .int (nI q), .int w] (mk n m g I J) = some (some (.int (bI (tMarry I b p q w N))), mk n m g I J) := by
  rw [m_X7_canMarry]
  simp only [e_X7_canMarry_0, e_X7_canMarry_1, e_X7_canMarry_2, e_X7_canMarry_3, e_X7_canMarry_6, e_X7_canMarry_9, e_X7_canMarry_10, e_X7_canMarry_13, e_X7_canMarry_14, e_X7_canMarry_15, e_X7_canMarry_16, e_X7_canMarry_19, e_X7_canMarry_20, e_X7_canMarry_23, e_X7_canMarry_24, e_X7_canMarry_25, e_X7_canMarry_26, e_X7_canMarry_29, e_X7_canMarry_30, e_X7_canMarry_31, e_X7_canMarry_32, e_X7_canMarry_33, e_X7_canMarry_34, e_X7_canMarry_37, e_X7_canMarry_40, e_X7_canMarry_41, e_X7_canMarry_42, e_X7_canMarry_43, e_X7_canMarry_46, e_X7_canMarry_47, e_X7_canMarry_48, e_X7_canMarry_51, e_X7_canMarry_52, e_X7_canMarry_53, e_X7_canMarry_54, e_X7_canMarry_57, e_X7_canMarry_58, e_X7_canMarry_59, e_X7_canMarry_62, e_X7_canMarry_65, e_X7_canMarry_68, e_X7_canMarry_69, e_X7_canMarry_70, e_X7_canMarry_71, e_X7_canMarry_74, e_X7_canMarry_75, e_X7_canMarry_76, e_X7_canMarry_79, e_X7_canMarry_82, e_X7_canMarry_83, e_X7_canMarry_86, e_X7_canMarry_87, c_T0 hb, g_T0_12 hb, g_T0_14 hb, l_T7 hb hp, l_T7 hb hq, l_T9 hb hp, l_T9 hb hq, t_canBear hb hp hq, t_canTake hb hN h12 hp, t_canTake hb hN h12 hq, k_areNear hb hp hq, Option.bind_some, Option.toList, List.cons_append, List.nil_append, zclr_i, zclr_r, if_true]
  unfold tMarry
  cases h0 : tBear I b p q
  · simp [bI, zfit_b0]
  by_cases h1 : I (b + 9) p = -1
  · by_cases h2 : I (b + 9) q = -1
    · cases h3 : kNear I b p q
      · by_cases h4 : w = 0
        · simp [bI, h1, h2, h4, zfit_b1]
        · by_cases h5 : w = 1
          · cases h6 : tTake I b p (I (b + 7) q) N <;> simp [bI, h1, h2, h5, h6, zfit_b1, zfit_b0]
          · cases h6 : tTake I b q (I (b + 7) p) N <;> simp [bI, h1, h2, h4, h5, h6, zfit_b1, zfit_b0]
      · simp [bI, h1, h2, zfit_b0]
    · simp [bI, h1, h2, zfit_b0]
  · simp [bI, h1, zfit_b0]
end KN
