/-! A LIFE: one step -/
section LI
variable {n m : Nat} {g : Nat → zC} {I : Nat → Nat → Int32} {J : Nat → Nat → Int64}
def lCmp (x s y : Int32) : Bool := if s = 60 then decide (x < y) else if s = 62 then decide (y < x) else decide (x = y)
theorem li_compares {x s y : Int32} (d : Nat) : zcall d 28 [.int x, .int s, .int y] (mk n m g I J) = some (some (.int (bI (lCmp x s y))), mk n m g I J) := by
  rw [m_X2_compares]
  simp only [e_X2_compares_0, e_X2_compares_1, e_X2_compares_3, e_X2_compares_6, e_X2_compares_7, e_X2_compares_8, e_X2_compares_11, e_X2_compares_12, e_X2_compares_15, e_X2_compares_16, e_X2_compares_17, e_X2_compares_18, e_X2_compares_20, e_X2_compares_23, e_X2_compares_24, e_X2_compares_25, e_X2_compares_28, e_X2_compares_29, e_X2_compares_32, e_X2_compares_33, e_X2_compares_36, e_X2_compares_37, e_X2_compares_38, e_X2_compares_41, e_X2_compares_42, e_X2_compares_45, e_X2_compares_46, Option.bind_some, Option.isSome_some, Option.toList, List.cons_append, List.nil_append, zclr_i, zclr_r, zclr_n, zfit_i, zfit_l, and_self, if_true, if_false]
  unfold lCmp
  by_cases h1 : s = 60
  · by_cases h2 : x < y
    · simp [h1, h2, Int32.not_le.mpr h2, bI, zfit_b1]
    · simp [h1, h2, Int32.not_lt.mp h2, bI, zfit_b0]
  · by_cases h3 : s = 62
    · by_cases h2 : y < x
      · simp [h3, h2, Int32.not_le.mpr h2, bI, zfit_b1]
      · simp [h3, h2, Int32.not_lt.mp h2, bI, zfit_b0]
    · by_cases h2 : x = y <;> simp [h1, h2, h3, bI, zfit_b0, zfit_b1]
def lHolds (I : Nat → Nat → Int32) (b t N k : Nat) : Bool := if I (b + 1) k = 21 then decide (I (t + 6) (I (b + 2) k).toNatClampNeg = -1 ∧ I (t + 7) (I (b + 2) k).toNatClampNeg = I (b + 3) k) else if I (b + 1) k = 22 then decide (I (t + 6) (I (b + 2) k).toNatClampNeg = -1 ∧ I (t + 7) (I (b + 2) k).toNatClampNeg = -1) else lCmp (tFr I t (I (b + 2) k) N) (I (b + 4) k) (I (b + 3) k)
theorem li_holds {b t k N : Nat} (hb : isScript b) (ht : isTown t) (hN : I t 4 = nI N) (h12 : N ≤ 12) (hk : k < 60) (hp : I (b + 1) k = 21 ∨ I (b + 1) k = 22 → ∃ p, p < 12 ∧ I (b + 2) k = nI p) (d : Nat) : zcall (d + 2) 27 [.ref b, .ref t, .int (nI k)] (mk n m g I J) = some (some (.int (bI (lHolds I b t N k))), mk n m g I J) := by
  rw [m_X2_holds]
  simp only [e_X2_holds_0, e_X2_holds_1, e_X2_holds_4, e_X2_holds_5, e_X2_holds_6, e_X2_holds_7, e_X2_holds_8, e_X2_holds_11, e_X2_holds_12, e_X2_holds_13, e_X2_holds_40, e_X2_holds_41, e_X2_holds_42, e_X2_holds_43, e_X2_holds_46, e_X2_holds_47, e_X2_holds_48, e_X2_holds_51, e_X2_holds_52, e_X2_holds_53, e_X2_holds_54, e_X2_holds_55, e_X2_holds_58, e_X2_holds_59, e_X2_holds_60, e_X2_holds_61, e_X2_holds_64, e_X2_holds_65, e_X2_holds_68, e_X2_holds_69, e_X2_holds_70, e_X2_holds_71, e_X2_holds_74, e_X2_holds_75, e_X2_holds_76, e_X2_holds_79, zsx, c_T0 ht, g_S0_3 hb, g_S0_4 hb, g_S0_5 hb, g_S0_6 hb, l_S1 hb hk, l_S2 hb hk, l_S3 hb hk, l_S4 hb hk, t_free ht hN h12, li_compares, zfit_bI, Option.bind_some, Option.isSome_some, Option.toList, List.cons_append, List.nil_append, zclr_i, zclr_r, zclr_n, zfit_i, zfit_l, and_self, if_true, if_false]
  unfold lHolds
  by_cases h1 : I (b + 1) k = 21
  · obtain ⟨p, h2, h3⟩ := hp (.inl h1)
    simp only [h1, h3, if_true, t_livesAs ht h2, nI_clamp (show p < 2 ^ 31 by omega), zfit_bI, Option.bind_some, Option.toList, List.cons_append, List.nil_append]
    rw [e_X2_holds_51]
    simp only [zfit_bI, if_true]
  · by_cases h4 : I (b + 1) k = 22
    · obtain ⟨p, h2, h3⟩ := hp (.inr h4)
      simp only [h4, h3, if_true, if_neg (show ¬ (22 : Int32) = 21 by decide), t_livesAs ht h2, nI_clamp (show p < 2 ^ 31 by omega), zfit_bI, Option.bind_some, Option.toList, List.cons_append, List.nil_append]
      rw [e_X2_holds_58]
      simp only [zfit_bI, if_true]
    · simp only [h1, h4, if_false]
      rfl
def lBack (I : Nat → Nat → Int32) (l b k : Nat) : Bool := decide (I (b + 5) k ≠ -1 ∧ I (b + 1) (I (b + 5) k).toNatClampNeg = 24 ∧ 1 < I (l + 1) (I (b + 5) k).toNatClampNeg)
theorem li_behindEnd {l b k : Nat} (hl : isLife l) (hb : isScript b) (hk : k < 60) (hm : I (b + 5) k = -1 ∨ ∃ i, i < 60 ∧ I (b + 5) k = nI i) (d : Nat) : zcall d 25 [.ref l, .ref b, .int (nI k)] (mk n m g I J) = some (some (.int (if lBack I l b k = true then I (b + 5) k + 1 else nI (k + 1))), mk n m g (if lBack I l b k = true then zu I (l + 1) (I (b + 5) k).toNatClampNeg (I (l + 1) (I (b + 5) k).toNatClampNeg - 1) else I) J) := by
  rw [m_X2_behindEnd]
  unfold lBack
  rcases hm with h | ⟨i, hi, h⟩
  · simp only [e_X2_behindEnd_0, e_X2_behindEnd_1, e_X2_behindEnd_4, e_X2_behindEnd_5, e_X2_behindEnd_6, e_X2_behindEnd_7, e_X2_behindEnd_8, e_X2_behindEnd_9, e_X2_behindEnd_12, e_X2_behindEnd_13, e_X2_behindEnd_16, e_X2_behindEnd_17, e_X2_behindEnd_18, e_X2_behindEnd_20, e_X2_behindEnd_23, e_X2_behindEnd_24, e_X2_behindEnd_27, e_X2_behindEnd_28, e_X2_behindEnd_29, e_X2_behindEnd_30, e_X2_behindEnd_33, e_X2_behindEnd_34, e_X2_behindEnd_37, e_X2_behindEnd_38, e_X2_behindEnd_39, e_X2_behindEnd_40, e_X2_behindEnd_41, e_X2_behindEnd_42, e_X2_behindEnd_43, e_X2_behindEnd_44, e_X2_behindEnd_45, e_X2_behindEnd_46, e_X2_behindEnd_47, e_X2_behindEnd_48, e_X2_behindEnd_49, e_X2_behindEnd_50, g_S0_7 hb, l_S5 hb hk, h, nI_1, Option.bind_some, Option.isSome_some, Option.toList, List.cons_append, List.nil_append, zclr_i, zclr_r, zclr_n, zfit_i, zfit_l, and_self, if_true, if_false]
    simp
  · simp only [e_X2_behindEnd_0, e_X2_behindEnd_1, e_X2_behindEnd_4, e_X2_behindEnd_5, e_X2_behindEnd_6, e_X2_behindEnd_7, e_X2_behindEnd_8, e_X2_behindEnd_9, e_X2_behindEnd_12, e_X2_behindEnd_13, e_X2_behindEnd_16, e_X2_behindEnd_17, e_X2_behindEnd_18, e_X2_behindEnd_20, e_X2_behindEnd_23, e_X2_behindEnd_24, e_X2_behindEnd_27, e_X2_behindEnd_28, e_X2_behindEnd_29, e_X2_behindEnd_30, e_X2_behindEnd_33, e_X2_behindEnd_34, e_X2_behindEnd_37, e_X2_behindEnd_38, e_X2_behindEnd_39, e_X2_behindEnd_40, e_X2_behindEnd_41, e_X2_behindEnd_42, e_X2_behindEnd_43, e_X2_behindEnd_44, e_X2_behindEnd_45, e_X2_behindEnd_46, e_X2_behindEnd_47, e_X2_behindEnd_48, e_X2_behindEnd_49, e_X2_behindEnd_50, g_S0_3 hb, g_S0_7 hb, g_L0_8 hl, l_S5 hb hk, l_S1 hb hi, l_L1 hl hi, h, nI_m1 (show i < 2 ^ 31 by omega), nI_neg (show i < 2 ^ 31 by omega), nI_clamp (show i < 2 ^ 31 by omega), k_L1 hl hi, q_L1 hl, nI_1, Option.bind_some, Option.isSome_some, Option.toList, List.cons_append, List.nil_append, zclr_i, zclr_r, zclr_n, zfit_i, zfit_l, and_self, if_true, if_false]
    by_cases h1 : I (b + 1) i = 24
    · by_cases h2 : 1 < I (l + 1) i
      · simp [h1, h2, Int32.not_le.mpr h2, nI_m1 (show i < 2 ^ 31 by omega)]
      · simp [h2, Int32.not_lt.mp h2]
    · simp [h1]
def lIn (I : Nat → Nat → Int32) (b t N k : Nat) : Int32 := if I (b + 1) k = 24 then (if I (b + 5) k = nI (k + 1) then I (b + 5) k + 1 else nI (k + 1)) else if lHolds I b t N k = true then nI (k + 1) else I (b + 5) k + 1
theorem li_inside {l b t k N : Nat} (hl : isLife l) (hb : isScript b) (ht : isTown t) (hN : I t 4 = nI N) (h12 : N ≤ 12) (hk : k < 60) (hp : I (b + 1) k = 21 ∨ I (b + 1) k = 22 → ∃ p, p < 12 ∧ I (b + 2) k = nI p) (d : Nat) : zcall (d + 3) 26 [.ref l, .ref b, .ref t, .int (nI k)] (mk n m g I J) = some (some (.int (lIn I b t N k)), mk n m g (if I (b + 1) k = 24 then zu I (l + 1) k (I (b + 2) k) else I) J) := by
  rw [m_X2_inside]
  simp only [e_X2_inside_0, e_X2_inside_1, e_X2_inside_4, e_X2_inside_5, e_X2_inside_6, e_X2_inside_8, e_X2_inside_9, e_X2_inside_12, e_X2_inside_13, e_X2_inside_14, e_X2_inside_16, e_X2_inside_19, e_X2_inside_20, e_X2_inside_21, e_X2_inside_22, e_X2_inside_25, e_X2_inside_28, e_X2_inside_29, e_X2_inside_30, e_X2_inside_31, e_X2_inside_34, e_X2_inside_36, e_X2_inside_37, e_X2_inside_38, e_X2_inside_39, e_X2_inside_40, e_X2_inside_43, e_X2_inside_44, e_X2_inside_45, e_X2_inside_48, e_X2_inside_49, e_X2_inside_50, e_X2_inside_51, e_X2_inside_53, e_X2_inside_54, e_X2_inside_55, e_X2_inside_56, e_X2_inside_59, e_X2_inside_61, e_X2_inside_62, e_X2_inside_63, e_X2_inside_66, e_X2_inside_67, e_X2_inside_68, e_X2_inside_69, g_S0_3 hb, g_S0_4 hb, g_S0_7 hb, g_L0_8 hl, l_S5 hb hk, l_S1 hb hk, l_S2 hb hk, li_holds hb ht hN h12 hk hp, nI_neg (show k < 2 ^ 31 by omega), nI_clamp (show k < 2 ^ 31 by omega), k_L1 hl hk, q_L1 hl, nI_1, Option.bind_some, Option.isSome_some, Option.toList, List.cons_append, List.nil_append, zclr_i, zclr_r, zclr_n, zfit_i, zfit_l, and_self, if_true, if_false]
  unfold lIn
  by_cases h1 : I (b + 1) k = 24
  · by_cases h2 : I (b + 5) k = nI (k + 1) <;> simp [h1, h2]
  · by_cases h2 : lHolds I b t N k = true <;> simp [h1, h2, bI]
def lYears (l t N k : Nat) (I : Nat → Nat → Int32) : Nat → Nat → Int32 := zu (zu (tYears I t N k).2 l 4 (I l 4 + jbc (tYears I t N k).1)) l 2 ((zu (tYears I t N k).2 l 4 (I l 4 + jbc (tYears I t N k).1)) l 2 + nI k)
theorem li_letYearsPass {l t k N : Nat} (hl : isLife l) (ht : isTown t) (h12 : N ≤ 12) (hw : yWell I t N) (hk : k < 2 ^ 31) (d : Nat) : zcall (d + 4) 30 [.ref l, .ref t, .int (nI k)] (mk n m g I J) = some (some (.int (bI (decide (I t 0 + nI k ≤ 2999)))), mk n m g (if I t 0 + nI k ≤ 2999 then lYears l t N k I else I) J) := by
  rw [m_X2_letYearsPass]
  simp only [e_X2_letYearsPass_0, e_X2_letYearsPass_1, e_X2_letYearsPass_4, e_X2_letYearsPass_5, e_X2_letYearsPass_6, e_X2_letYearsPass_9, e_X2_letYearsPass_12, e_X2_letYearsPass_13, e_X2_letYearsPass_14, e_X2_letYearsPass_15, e_X2_letYearsPass_16, e_X2_letYearsPass_19, e_X2_letYearsPass_20, e_X2_letYearsPass_21, e_X2_letYearsPass_24, e_X2_letYearsPass_27, e_X2_letYearsPass_28, e_X2_letYearsPass_31, e_X2_letYearsPass_32, e_X2_letYearsPass_33, e_X2_letYearsPass_36, e_X2_letYearsPass_37, e_X2_letYearsPass_38, e_X2_letYearsPass_41, e_X2_letYearsPass_42, c_T0 ht, g_T0_0 ht, g_L0_2 hl, g_L0_4 hl, p_L0_2 hl, p_L0_4 hl, t_passYears ht h12 hw hk, j_bitCount, Option.bind_some, Option.isSome_some, Option.toList, List.cons_append, List.nil_append, zclr_i, zclr_r, zclr_n, zfit_i, zfit_l, and_self, if_true, if_false]
  by_cases h1 : I t 0 + nI k ≤ 2999
  · simp [h1, bI, zfit_b1, lYears]
  · simp [h1, bI, zfit_b0]
def lBury (l t p : Nat) (I : Nat → Nat → Int32) : Nat → Nat → Int32 := zu (tBury I t (qN I t) p) l 4 (tBury I t (qN I t) p l 4 + 1)
theorem li_bury {l t p N : Nat} (hl : isLife l) (ht : isTown t) (hw : yWell I t N) (hp : p < N) (h12 : N ≤ 12) (d : Nat) : zcall (d + 2) 31 [.ref l, .ref t, .int (nI p)] (mk n m g I J) = some (some (.int (bI (decide (I (t + 6) p = -1)))), mk n m g (if I (t + 6) p = -1 then lBury l t p I else I) J) := by
  rw [m_X2_bury]
  obtain ⟨h4, h5, h6⟩ := qWell_N hw.2.1
  simp only [e_X2_bury_0, e_X2_bury_1, e_X2_bury_2, e_X2_bury_5, e_X2_bury_6, e_X2_bury_7, e_X2_bury_10, e_X2_bury_13, e_X2_bury_14, e_X2_bury_15, e_X2_bury_16, e_X2_bury_17, e_X2_bury_20, e_X2_bury_21, e_X2_bury_22, e_X2_bury_25, e_X2_bury_26, e_X2_bury_27, e_X2_bury_30, e_X2_bury_31, c_T0 ht, g_L0_4 hl, p_L0_4 hl, t_lives ht (show p < 12 by omega), t_bury ht (show p < 12 by omega) h5 h4 (hw.2.2 p hp), nI_m1 (show p < 2 ^ 31 by omega), Option.bind_some, Option.isSome_some, Option.toList, List.cons_append, List.nil_append, zclr_i, zclr_r, zclr_n, zfit_i, zfit_l, and_self, if_true, if_false]
  by_cases h1 : I (t + 6) p = -1
  · simp [h1, bI, zfit_b1, lBury]
  · simp [h1, bI, zfit_b0]
theorem li_buryNone {l t : Nat} (d : Nat) : zcall d 31 [.ref l, .ref t, .int (-1)] (mk n m g I J) = some (some (.int 0), mk n m g I J) := by
  rw [m_X2_bury]
  simp only [e_X2_bury_0, e_X2_bury_1, e_X2_bury_2, e_X2_bury_5, e_X2_bury_6, e_X2_bury_7, e_X2_bury_10, e_X2_bury_13, e_X2_bury_14, e_X2_bury_15, e_X2_bury_16, e_X2_bury_17, e_X2_bury_20, e_X2_bury_21, e_X2_bury_22, e_X2_bury_25, e_X2_bury_26, e_X2_bury_27, e_X2_bury_30, e_X2_bury_31, zfit_b0, Option.bind_some, Option.isSome_some, Option.toList, List.cons_append, List.nil_append, zclr_i, zclr_r, zclr_n, zfit_i, zfit_l, and_self, if_true, if_false]
def lMarry (t p q : Nat) (I : Nat → Nat → Int32) : Nat → Nat → Int32 := zu (zu I (t + 9) p (nI q)) (t + 9) q (nI p)
theorem li_marry {t p q N : Nat} (ht : isTown t) (hN : I t 4 = nI N) (h12 : N ≤ 12) (hp : p < 12) (hq : q < 12) (d : Nat) : zcall (d + 4) 33 [.ref t, .int (nI p), .int (nI q)] (mk n m g I J) = some (some (.int (bI (tMarry I t p q 0 N))), mk n m g (if tMarry I t p q 0 N = true then lMarry t p q I else I) J) := by
  rw [m_X2_marry]
  simp only [e_X2_marry_0, e_X2_marry_1, e_X2_marry_2, e_X2_marry_3, e_X2_marry_4, e_X2_marry_7, e_X2_marry_10, e_X2_marry_11, e_X2_marry_12, e_X2_marry_13, e_X2_marry_14, e_X2_marry_15, e_X2_marry_16, e_X2_marry_19, e_X2_marry_20, c_T0 ht, t_canMarry ht hN h12 hp hq, t_marry ht hp hq, if_neg (show ¬ (0 : Int32) = 1 by decide), if_neg (show ¬ (0 : Int32) = 2 by decide), Option.bind_some, Option.isSome_some, Option.toList, List.cons_append, List.nil_append, zclr_i, zclr_r, zclr_n, zfit_i, zfit_l, and_self, if_true, if_false]
  by_cases h1 : tMarry I t p q 0 N = true
  · simp [h1, bI, zfit_b1, lMarry]
  · simp [h1, bI, zfit_b0]
def lSwap (t p q : Nat) (I : Nat → Nat → Int32) : Nat → Nat → Int32 := zu (zu I (t + 7) p (I (t + 7) q)) (t + 7) q (I (t + 7) p)
def tSwap (I : Nat → Nat → Int32) (t p q : Nat) : Bool := decide (I (t + 6) p = -1 ∧ I (t + 6) q = -1 ∧ I (t + 7) p ≠ I (t + 7) q)
theorem li_exchange {t p q : Nat} (ht : isTown t) (hp : p < 12) (hq : q < 12) (d : Nat) : zcall (d + 2) 35 [.ref t, .int (nI p), .int (nI q)] (mk n m g I J) = some (some (.int (bI (tSwap I t p q))), mk n m g (if tSwap I t p q = true then lSwap t p q I else I) J) := by
  rw [m_X2_exchange]
  have h0 := t_canExchange (n := n) (m := m) (g := g) (I := I) (J := J) ht hp hq d
  change _ = some (some (Value.int (bI (tSwap I t p q))), _) at h0
  simp only [e_X2_exchange_0, e_X2_exchange_1, e_X2_exchange_2, e_X2_exchange_3, e_X2_exchange_6, e_X2_exchange_9, e_X2_exchange_10, e_X2_exchange_11, e_X2_exchange_12, e_X2_exchange_13, e_X2_exchange_14, e_X2_exchange_17, e_X2_exchange_18, c_T0 ht, h0, t_exchange ht hp hq, Option.bind_some, Option.isSome_some, Option.toList, List.cons_append, List.nil_append, zclr_i, zclr_r, zclr_n, zfit_i, zfit_l, and_self, if_true, if_false]
  by_cases h1 : tSwap I t p q = true
  · simp [h1, bI, zfit_b1, lSwap]
  · simp [h1, bI, zfit_b0]
def lSell (t p q : Nat) (I : Nat → Nat → Int32) : Nat → Nat → Int32 := zu (zu (zu (zu (zu I (t + 8) q (I (t + 8) q - I (t + 2) (I (t + 7) p).toNatClampNeg)) (t + 8) p (if I (t + 8) p + I (t + 2) (I (t + 7) p).toNatClampNeg < 9999 then I (t + 8) p + I (t + 2) (I (t + 7) p).toNatClampNeg else 9999)) (t + 7) q (I (t + 7) p)) (t + 7) p (-1)) (t + 3) (I (t + 7) p).toNatClampNeg (I t 0)
theorem tSell_ne {t p q : Nat} (h : tSell I t p q = true) : p ≠ q ∧ I (t + 7) p ≠ -1 := by
  unfold tSell at h
  rw [decide_eq_true_eq] at h
  refine ⟨?_, h.2.2.1⟩
  rintro rfl
  exact h.2.2.2.1 rfl
theorem li_handOver {t p q : Nat} (ht : isTown t) (hp : p < 12) (hq : q < 12) (hs : I (t + 7) p = -1 ∨ ∃ s, s < 6 ∧ I (t + 7) p = nI s) (d : Nat) : zcall (d + 2) 34 [.ref t, .int (nI p), .int (nI q)] (mk n m g I J) = some (some (.int (bI (tSell I t p q))), mk n m g (if tSell I t p q = true then lSell t p q I else I) J) := by
  rw [m_X2_handOver]
  by_cases h1 : tSell I t p q = true
  · obtain ⟨h2, h3⟩ := tSell_ne h1
    rcases hs with h | ⟨s, h6, h⟩
    · exact absurd h h3
    · simp only [e_X2_handOver_0, e_X2_handOver_1, e_X2_handOver_2, e_X2_handOver_3, e_X2_handOver_6, e_X2_handOver_9, e_X2_handOver_10, e_X2_handOver_11, e_X2_handOver_12, e_X2_handOver_13, e_X2_handOver_14, e_X2_handOver_17, e_X2_handOver_18, e_X2_handOver_19, c_T0 ht, t_canHandOver ht hp hq (.inr ⟨s, h6, h⟩), t_handOver ht hp hq h2 h6 h, h1, bI, zfit_b1, Option.bind_some, Option.isSome_some, Option.toList, List.cons_append, List.nil_append, zclr_i, zclr_r, zclr_n, zfit_i, zfit_l, and_self, if_true, if_false]
      simp [lSell, h, nI_clamp (show s < 2 ^ 31 by omega)]
  · simp only [e_X2_handOver_0, e_X2_handOver_1, e_X2_handOver_2, e_X2_handOver_3, e_X2_handOver_6, e_X2_handOver_9, e_X2_handOver_10, e_X2_handOver_11, e_X2_handOver_12, e_X2_handOver_13, e_X2_handOver_14, e_X2_handOver_17, e_X2_handOver_18, e_X2_handOver_19, c_T0 ht, t_canHandOver ht hp hq hs, h1, bI, zfit_b0, Option.bind_some, Option.isSome_some, Option.toList, List.cons_append, List.nil_append, zclr_i, zclr_r, zclr_n, zfit_i, zfit_l, and_self, if_true, if_false]
    simp
end LI
