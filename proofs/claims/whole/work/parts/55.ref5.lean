/-! THE REFERENCE: weddings, sales, swaps done -/
section RK
variable {n m : Nat} {g : Nat → zC} {I A A' : Nat → Nat → Int32} {J : Nat → Nat → Int64} {b N S U : Nat}
def tWeds (A : Nat → Nat → Int32) (b p q : Nat) (w : Int32) : Nat → Nat → Int32 := if w = 1 then zu (zu (zu A (b + 9) p (nI q)) (b + 9) q (nI p)) (b + 7) p (A (b + 7) q) else if w = 2 then zu (zu (zu A (b + 9) p (nI q)) (b + 9) q (nI p)) (b + 7) q (A (b + 7) p) else zu (zu A (b + 9) p (nI q)) (b + 9) q (nI p)
theorem WT.weds {p q : Nat} {w : Int32} (hW : WT A b N S U) (hp : p < N) (hq : q < N) : WT (tWeds A b p q w) b N S U := by
  have h1 := (hW.wedSet (p := p) (x := nI q) (Or.inr ⟨q, hq, rfl⟩)).wedSet (p := q) (x := nI p) (Or.inr ⟨p, hp, rfl⟩)
  unfold tWeds
  split
  · exact h1.bear (hW.bears q hq)
  · split
    · exact h1.bear (hW.bears p hp)
    · exact h1
theorem v_weds_no {p q : Nat} {w : Int32} (hW : WT A b N S U) (hR : RT A b (I 148) N S) (hp : p < N) (hq : q < N) (h : tMarry A b p q w N = false) (d : Nat) : zcall (d + 6) 344 [.ref 143, .int (nI p), .int (nI q), .int w] (mk n m g I J) = some (some (.int 0), mk n m g I J) := by
  rw [m_X12_weds]
  simp only [e_X12_weds_0, e_X12_weds_1, e_X12_weds_2, e_X12_weds_3, e_X12_weds_4, e_X12_weds_7, e_X12_weds_10, e_X12_weds_11, e_X12_weds_12, e_X12_weds_13, e_X12_weds_16, e_X12_weds_18, e_X12_weds_19, e_X12_weds_20, e_X12_weds_21, e_X12_weds_22, e_X12_weds_23, e_X12_weds_26, e_X12_weds_28, e_X12_weds_29, e_X12_weds_30, e_X12_weds_31, e_X12_weds_32, e_X12_weds_33, e_X12_weds_34, e_X12_weds_37, e_X12_weds_38, e_X12_weds_41, e_X12_weds_43, e_X12_weds_44, e_X12_weds_45, e_X12_weds_46, e_X12_weds_49, e_X12_weds_51, e_X12_weds_52, e_X12_weds_53, e_X12_weds_54, e_X12_weds_55, e_X12_weds_56, e_X12_weds_57, e_X12_weds_60, e_X12_weds_61, e_X12_weds_64, e_X12_weds_66, e_X12_weds_67, e_X12_weds_68, e_X12_weds_69, e_X12_weds_72, e_X12_weds_74, e_X12_weds_75, e_X12_weds_76, e_X12_weds_77, e_X12_weds_78, e_X12_weds_79, e_X12_weds_82, e_X12_weds_83, c_143, v_canBeWed hW hR hp hq, h, bI, Bool.false_eq_true, zfit_b0, Option.bind_some, Option.isSome_some, Option.toList, List.cons_append, List.nil_append, zclr_i, zclr_r, zclr_n, zfit_i, zfit_l, and_self, if_true, if_false]
theorem v_weds {p q : Nat} {w : Int32} (hW : WT A b N S U) (hR : RT A b (I 148) N S) (hp : p < N) (hq : q < N) (h : tMarry A b p q w N = true) (d : Nat) : ∃ c', zcall (d + 6) 344 [.ref 143, .int (nI p), .int (nI q), .int w] (mk n m g I J) = some (some (.int 1), mk n m g (zr I 148 c') J) ∧ RT (tSettle (tWeds A b p q w) b N) b c' N S ∧ ∀ j, 234 ≤ j → c' j = I 148 j := by
  have h12 := hW.h12
  have w1 := hW.weds (w := w) hp hq
  have r0 := (hR.set9 (p := p) (x := nI q) h12 hW.h6 (by omega)).set9 (p := q) (x := nI p) h12 hW.h6 (by omega)
  have r1 : RT (tWeds A b p q w) b (if w = 1 then fu (fu (fu (I 148) (78 + p) (nI q)) (78 + q) (nI p)) (30 + p) (A (b + 7) q) else if w = 2 then fu (fu (fu (I 148) (78 + p) (nI q)) (78 + q) (nI p)) (30 + q) (A (b + 7) p) else fu (fu (I 148) (78 + p) (nI q)) (78 + q) (nI p)) N S := by
    unfold tWeds
    by_cases h1 : w = 1
    · rw [if_pos h1, if_pos h1]
      exact r0.set7 h12 hW.h6 (by omega)
    · rw [if_neg h1, if_neg h1]
      by_cases h2 : w = 2
      · rw [if_pos h2, if_pos h2]
        exact r0.set7 h12 hW.h6 (by omega)
      · rw [if_neg h2, if_neg h2]
        exact r0
  obtain ⟨c3, e3, r3, f3⟩ := v_settles (n := n) (m := m) (g := g) (J := J) (I := zr I 148 (if w = 1 then fu (fu (fu (I 148) (78 + p) (nI q)) (78 + q) (nI p)) (30 + p) (A (b + 7) q) else if w = 2 then fu (fu (fu (I 148) (78 + p) (nI q)) (78 + q) (nI p)) (30 + q) (A (b + 7) p) else fu (fu (I 148) (78 + p) (nI q)) (78 + q) (nI p))) w1 (by rw [zr_same]; exact r1) (d + 2)
  rw [zr_zr] at e3
  rw [zr_same] at f3
  refine ⟨c3, ?_, r3, fun j hj => ?_⟩
  · rw [m_X12_weds]
    have e7 : ∀ j, j < N → fu (fu (I 148) (78 + p) (nI q)) (78 + q) (nI p) (30 + j) = A (b + 7) j := fun j hj => by
      rw [fu_ne _ _ (by omega), fu_ne _ _ (by omega), hR.bears j hj]
    simp only [e_X12_weds_0, e_X12_weds_1, e_X12_weds_2, e_X12_weds_3, e_X12_weds_4, e_X12_weds_7, e_X12_weds_10, e_X12_weds_11, e_X12_weds_12, e_X12_weds_13, e_X12_weds_16, e_X12_weds_18, e_X12_weds_19, e_X12_weds_20, e_X12_weds_21, e_X12_weds_22, e_X12_weds_23, e_X12_weds_26, e_X12_weds_28, e_X12_weds_29, e_X12_weds_30, e_X12_weds_31, e_X12_weds_32, e_X12_weds_33, e_X12_weds_34, e_X12_weds_37, e_X12_weds_38, e_X12_weds_41, cA_6, cA_12, cA_18, cA_30, cA_42, cA_54, cA_66, cA_78, cA_90, cA_102, cA_114, cA_126, cA_138, cA_210, cA_222, lc_0, lc_1, lc_2, lc_3, lc_4, lc_5, g_143_20, q_148, nI_neg (show 78 + p < 2 ^ 31 by omega), nI_clamp (show 78 + p < 2 ^ 31 by omega), k_148 (show 78 + p < 2530 by omega), l_148 (show 78 + p < 2530 by omega), nI_neg (show 78 + q < 2 ^ 31 by omega), nI_clamp (show 78 + q < 2 ^ 31 by omega), k_148 (show 78 + q < 2530 by omega), l_148 (show 78 + q < 2530 by omega), c_143, v_canBeWed hW hR hp hq, h, bI, zfit_b1, Option.bind_some, Option.isSome_some, Option.toList, List.cons_append, List.nil_append, zclr_i, zclr_r, zclr_n, zfit_i, zfit_l, and_self, if_true, if_false]
    simp only [zu_148, zr_same, zr_zr]
    simp only [e_X12_weds_0, e_X12_weds_1, e_X12_weds_2, e_X12_weds_3, e_X12_weds_4, e_X12_weds_7, e_X12_weds_10, e_X12_weds_11, e_X12_weds_12, e_X12_weds_13, e_X12_weds_16, e_X12_weds_18, e_X12_weds_19, e_X12_weds_20, e_X12_weds_21, e_X12_weds_22, e_X12_weds_23, e_X12_weds_26, e_X12_weds_28, e_X12_weds_29, e_X12_weds_30, e_X12_weds_31, e_X12_weds_32, e_X12_weds_33, e_X12_weds_34, e_X12_weds_37, e_X12_weds_38, e_X12_weds_41, e_X12_weds_43, e_X12_weds_44, e_X12_weds_45, e_X12_weds_46, e_X12_weds_49, e_X12_weds_51, e_X12_weds_52, e_X12_weds_53, e_X12_weds_54, e_X12_weds_55, e_X12_weds_56, e_X12_weds_57, e_X12_weds_60, e_X12_weds_61, e_X12_weds_64, e_X12_weds_66, e_X12_weds_67, e_X12_weds_68, e_X12_weds_69, e_X12_weds_72, e_X12_weds_74, e_X12_weds_75, e_X12_weds_76, e_X12_weds_77, e_X12_weds_78, e_X12_weds_79, e_X12_weds_82, e_X12_weds_83, cA_6, cA_12, cA_18, cA_30, cA_42, cA_54, cA_66, cA_78, cA_90, cA_102, cA_114, cA_126, cA_138, cA_210, cA_222, lc_0, lc_1, lc_2, lc_3, lc_4, lc_5, g_143_20, q_148, nI_neg (show 78 + p < 2 ^ 31 by omega), nI_clamp (show 78 + p < 2 ^ 31 by omega), k_148 (show 78 + p < 2530 by omega), l_148 (show 78 + p < 2530 by omega), nI_neg (show 78 + q < 2 ^ 31 by omega), nI_clamp (show 78 + q < 2 ^ 31 by omega), k_148 (show 78 + q < 2530 by omega), l_148 (show 78 + q < 2530 by omega), nI_neg (show 30 + p < 2 ^ 31 by omega), nI_clamp (show 30 + p < 2 ^ 31 by omega), k_148 (show 30 + p < 2530 by omega), l_148 (show 30 + p < 2530 by omega), nI_neg (show 30 + q < 2 ^ 31 by omega), nI_clamp (show 30 + q < 2 ^ 31 by omega), k_148 (show 30 + q < 2530 by omega), l_148 (show 30 + q < 2530 by omega), c_143, zu_zr, zr_same, e7 p hp, e7 q hq, zfit_b1, Option.bind_some, Option.isSome_some, Option.toList, List.cons_append, List.nil_append, zclr_i, zclr_r, zclr_n, zfit_i, zfit_l, and_self, if_true, if_false]
    by_cases h1 : w = 1
    · simp only [h1, if_true] at e3
      simp only [h1, ne_eq, not_true, if_false, show ((1 : Int32) = 2) = False by decide, not_false_eq_true, if_true]
      simp only [e3, e_X12_weds_32, e_X12_weds_33, e_X12_weds_34, e_X12_weds_37, e_X12_weds_38, e_X12_weds_41, e_X12_weds_43, e_X12_weds_44, e_X12_weds_45, e_X12_weds_46, e_X12_weds_49, e_X12_weds_51, e_X12_weds_52, e_X12_weds_53, e_X12_weds_54, e_X12_weds_55, e_X12_weds_56, e_X12_weds_57, e_X12_weds_60, e_X12_weds_61, e_X12_weds_64, e_X12_weds_66, e_X12_weds_67, e_X12_weds_68, e_X12_weds_69, e_X12_weds_72, e_X12_weds_74, e_X12_weds_75, e_X12_weds_76, e_X12_weds_77, e_X12_weds_78, e_X12_weds_79, e_X12_weds_82, e_X12_weds_83, cA_6, cA_12, cA_18, cA_30, cA_42, cA_54, cA_66, cA_78, cA_90, cA_102, cA_114, cA_126, cA_138, cA_210, cA_222, lc_0, lc_1, lc_2, lc_3, lc_4, lc_5, g_143_20, q_148, c_143, zfit_b1, Option.bind_some, Option.isSome_some, Option.toList, List.cons_append, List.nil_append, zclr_i, zclr_r, zclr_n, zfit_i, zfit_l, and_self, if_true, if_false]
      simp
    · by_cases h2 : w = 2
      · simp only [h2, show ((2 : Int32) = 1) = False by decide, if_false, if_true] at e3
        simp only [h2, ne_eq, not_true, if_false, show ((2 : Int32) = 1) = False by decide, not_false_eq_true, if_true]
        simp only [e3, e_X12_weds_32, e_X12_weds_33, e_X12_weds_34, e_X12_weds_37, e_X12_weds_38, e_X12_weds_41, e_X12_weds_43, e_X12_weds_44, e_X12_weds_45, e_X12_weds_46, e_X12_weds_49, e_X12_weds_51, e_X12_weds_52, e_X12_weds_53, e_X12_weds_54, e_X12_weds_55, e_X12_weds_56, e_X12_weds_57, e_X12_weds_60, e_X12_weds_61, e_X12_weds_64, e_X12_weds_66, e_X12_weds_67, e_X12_weds_68, e_X12_weds_69, e_X12_weds_72, e_X12_weds_74, e_X12_weds_75, e_X12_weds_76, e_X12_weds_77, e_X12_weds_78, e_X12_weds_79, e_X12_weds_82, e_X12_weds_83, cA_6, cA_12, cA_18, cA_30, cA_42, cA_54, cA_66, cA_78, cA_90, cA_102, cA_114, cA_126, cA_138, cA_210, cA_222, lc_0, lc_1, lc_2, lc_3, lc_4, lc_5, g_143_20, q_148, c_143, zfit_b1, Option.bind_some, Option.isSome_some, Option.toList, List.cons_append, List.nil_append, zclr_i, zclr_r, zclr_n, zfit_i, zfit_l, and_self, if_true, if_false]
        simp
      · simp only [h1, h2, if_false] at e3
        simp only [h1, h2, ne_eq, not_false_eq_true, if_true]
        simp only [e3, e_X12_weds_32, e_X12_weds_33, e_X12_weds_34, e_X12_weds_37, e_X12_weds_38, e_X12_weds_41, e_X12_weds_43, e_X12_weds_44, e_X12_weds_45, e_X12_weds_46, e_X12_weds_49, e_X12_weds_51, e_X12_weds_52, e_X12_weds_53, e_X12_weds_54, e_X12_weds_55, e_X12_weds_56, e_X12_weds_57, e_X12_weds_60, e_X12_weds_61, e_X12_weds_64, e_X12_weds_66, e_X12_weds_67, e_X12_weds_68, e_X12_weds_69, e_X12_weds_72, e_X12_weds_74, e_X12_weds_75, e_X12_weds_76, e_X12_weds_77, e_X12_weds_78, e_X12_weds_79, e_X12_weds_82, e_X12_weds_83, cA_6, cA_12, cA_18, cA_30, cA_42, cA_54, cA_66, cA_78, cA_90, cA_102, cA_114, cA_126, cA_138, cA_210, cA_222, lc_0, lc_1, lc_2, lc_3, lc_4, lc_5, g_143_20, q_148, c_143, zfit_b1, Option.bind_some, Option.isSome_some, Option.toList, List.cons_append, List.nil_append, zclr_i, zclr_r, zclr_n, zfit_i, zfit_l, and_self, if_true, if_false]
        simp
  · rw [f3 j hj]
    split
    · rw [fu_ne _ _ (by omega), fu_ne _ _ (by omega), fu_ne _ _ (by omega)]
    · split
      · rw [fu_ne _ _ (by omega), fu_ne _ _ (by omega), fu_ne _ _ (by omega)]
      · rw [fu_ne _ _ (by omega), fu_ne _ _ (by omega)]
theorem v_swaps_no {p q : Nat} (hW : WT A b N S U) (hR : RT A b (I 148) N S) (hp : p < N) (hq : q < N) (h : tSwap A b p q = false) (d : Nat) : zcall (d + 4) 350 [.ref 143, .int (nI p), .int (nI q)] (mk n m g I J) = some (some (.int 0), mk n m g I J) := by
  have h12 := hW.h12
  rw [m_X12_swaps]
  simp only [e_X12_swaps_0, e_X12_swaps_1, e_X12_swaps_2, e_X12_swaps_5, e_X12_swaps_8, e_X12_swaps_9, e_X12_swaps_10, e_X12_swaps_13, e_X12_swaps_16, e_X12_swaps_17, e_X12_swaps_20, e_X12_swaps_22, e_X12_swaps_23, e_X12_swaps_24, e_X12_swaps_25, e_X12_swaps_26, e_X12_swaps_29, e_X12_swaps_31, e_X12_swaps_32, e_X12_swaps_33, e_X12_swaps_34, e_X12_swaps_37, e_X12_swaps_38, e_X12_swaps_39, e_X12_swaps_40, e_X12_swaps_43, e_X12_swaps_45, e_X12_swaps_46, e_X12_swaps_47, e_X12_swaps_48, e_X12_swaps_49, e_X12_swaps_50, e_X12_swaps_53, e_X12_swaps_55, e_X12_swaps_56, e_X12_swaps_57, e_X12_swaps_58, e_X12_swaps_61, e_X12_swaps_63, e_X12_swaps_64, e_X12_swaps_65, e_X12_swaps_66, e_X12_swaps_67, e_X12_swaps_68, e_X12_swaps_71, e_X12_swaps_73, e_X12_swaps_74, e_X12_swaps_75, e_X12_swaps_76, e_X12_swaps_77, e_X12_swaps_78, e_X12_swaps_81, e_X12_swaps_82, cA_6, cA_12, cA_18, cA_30, cA_42, cA_54, cA_66, cA_78, cA_90, cA_102, cA_114, cA_126, cA_138, cA_210, cA_222, lc_0, lc_1, lc_2, lc_3, lc_4, lc_5, g_143_20, q_148, nI_neg (show 30 + p < 2 ^ 31 by omega), nI_clamp (show 30 + p < 2 ^ 31 by omega), k_148 (show 30 + p < 2530 by omega), l_148 (show 30 + p < 2530 by omega), nI_neg (show 30 + q < 2 ^ 31 by omega), nI_clamp (show 30 + q < 2 ^ 31 by omega), k_148 (show 30 + q < 2530 by omega), l_148 (show 30 + q < 2530 by omega), c_143, hR.bears p hp, hR.bears q hq, v_lives hW hR hp, v_lives hW hR hq, Option.bind_some, Option.isSome_some, Option.toList, List.cons_append, List.nil_append, zclr_i, zclr_r, zclr_n, zfit_i, zfit_l, and_self, if_true, if_false]
  unfold tSwap at h
  have h := of_decide_eq_false h
  by_cases h1 : A (b + 6) p = -1
  · by_cases h2 : A (b + 6) q = -1
    · have h3 : A (b + 7) p = A (b + 7) q := Classical.byContradiction (fun e => h ⟨h1, h2, e⟩)
      simp [h1, h2, h3, bI, zfit_b0]
    · simp [h1, h2, bI, zfit_b0]
  · simp [h1, bI, zfit_b0]
theorem v_swaps {p q : Nat} (hW : WT A b N S U) (hR : RT A b (I 148) N S) (hp : p < N) (hq : q < N) (h : tSwap A b p q = true) (d : Nat) : ∃ c', zcall (d + 4) 350 [.ref 143, .int (nI p), .int (nI q)] (mk n m g I J) = some (some (.int 1), mk n m g (zr I 148 c') J) ∧ RT (tSettle (lSwap b p q A) b N) b c' N S ∧ ∀ j, 234 ≤ j → c' j = I 148 j := by
  have h12 := hW.h12
  have w1 : WT (lSwap b p q A) b N S U := (hW.bear (hW.bears q hq)).bear (hW.bears p hp)
  have r1 : RT (lSwap b p q A) b (fu (fu (I 148) (30 + p) (A (b + 7) q)) (30 + q) (A (b + 7) p)) N S := (hR.set7 (p := p) h12 hW.h6 (by omega)).set7 (p := q) h12 hW.h6 (by omega)
  obtain ⟨c3, e3, r3, f3⟩ := v_settles (n := n) (m := m) (g := g) (J := J) (I := zr I 148 (fu (fu (I 148) (30 + p) (A (b + 7) q)) (30 + q) (A (b + 7) p))) w1 (by rw [zr_same]; exact r1) d
  rw [zr_zr] at e3
  rw [zr_same] at f3
  unfold tSwap at h
  obtain ⟨h1, h2, h3⟩ := of_decide_eq_true h
  refine ⟨c3, ?_, r3, fun j hj => by rw [f3 j hj, fu_ne _ _ (by omega), fu_ne _ _ (by omega)]⟩
  rw [m_X12_swaps]
  simp only [e_X12_swaps_0, e_X12_swaps_1, e_X12_swaps_2, e_X12_swaps_5, e_X12_swaps_8, e_X12_swaps_9, e_X12_swaps_10, e_X12_swaps_13, e_X12_swaps_16, e_X12_swaps_17, e_X12_swaps_20, e_X12_swaps_22, e_X12_swaps_23, e_X12_swaps_24, e_X12_swaps_25, e_X12_swaps_26, e_X12_swaps_29, e_X12_swaps_31, e_X12_swaps_32, e_X12_swaps_33, e_X12_swaps_34, e_X12_swaps_37, e_X12_swaps_38, e_X12_swaps_39, e_X12_swaps_40, e_X12_swaps_43, e_X12_swaps_45, e_X12_swaps_46, e_X12_swaps_47, e_X12_swaps_48, e_X12_swaps_49, e_X12_swaps_50, e_X12_swaps_53, e_X12_swaps_55, cA_6, cA_12, cA_18, cA_30, cA_42, cA_54, cA_66, cA_78, cA_90, cA_102, cA_114, cA_126, cA_138, cA_210, cA_222, lc_0, lc_1, lc_2, lc_3, lc_4, lc_5, g_143_20, q_148, nI_neg (show 30 + p < 2 ^ 31 by omega), nI_clamp (show 30 + p < 2 ^ 31 by omega), k_148 (show 30 + p < 2530 by omega), l_148 (show 30 + p < 2530 by omega), nI_neg (show 30 + q < 2 ^ 31 by omega), nI_clamp (show 30 + q < 2 ^ 31 by omega), k_148 (show 30 + q < 2530 by omega), l_148 (show 30 + q < 2530 by omega), c_143, hR.bears p hp, hR.bears q hq, v_lives hW hR hp, v_lives hW hR hq, h1, h2, h3, decide_true, bI, ne_eq, not_false_eq_true, Option.bind_some, Option.isSome_some, Option.toList, List.cons_append, List.nil_append, zclr_i, zclr_r, zclr_n, zfit_i, zfit_l, and_self, if_true, if_false]
  simp only [e_X12_swaps_0, e_X12_swaps_1, e_X12_swaps_2, e_X12_swaps_5, e_X12_swaps_8, e_X12_swaps_9, e_X12_swaps_10, e_X12_swaps_13, e_X12_swaps_16, e_X12_swaps_17, e_X12_swaps_20, e_X12_swaps_22, e_X12_swaps_23, e_X12_swaps_24, e_X12_swaps_25, e_X12_swaps_26, e_X12_swaps_29, e_X12_swaps_31, e_X12_swaps_32, e_X12_swaps_33, e_X12_swaps_34, e_X12_swaps_37, e_X12_swaps_38, e_X12_swaps_39, e_X12_swaps_40, e_X12_swaps_43, e_X12_swaps_45, e_X12_swaps_46, e_X12_swaps_47, e_X12_swaps_48, e_X12_swaps_49, e_X12_swaps_50, e_X12_swaps_53, e_X12_swaps_55, e_X12_swaps_56, e_X12_swaps_57, e_X12_swaps_58, e_X12_swaps_61, e_X12_swaps_63, e_X12_swaps_64, e_X12_swaps_65, e_X12_swaps_66, e_X12_swaps_67, e_X12_swaps_68, e_X12_swaps_71, e_X12_swaps_73, e_X12_swaps_74, e_X12_swaps_75, e_X12_swaps_76, e_X12_swaps_77, e_X12_swaps_78, e_X12_swaps_81, e_X12_swaps_82, cA_6, cA_12, cA_18, cA_30, cA_42, cA_54, cA_66, cA_78, cA_90, cA_102, cA_114, cA_126, cA_138, cA_210, cA_222, lc_0, lc_1, lc_2, lc_3, lc_4, lc_5, g_143_20, q_148, nI_neg (show 30 + p < 2 ^ 31 by omega), nI_clamp (show 30 + p < 2 ^ 31 by omega), k_148 (show 30 + p < 2530 by omega), l_148 (show 30 + p < 2530 by omega), nI_neg (show 30 + q < 2 ^ 31 by omega), nI_clamp (show 30 + q < 2 ^ 31 by omega), k_148 (show 30 + q < 2530 by omega), l_148 (show 30 + q < 2530 by omega), c_143, hR.bears p hp, hR.bears q hq, zu_148, zr_same, zr_zr, zfit_b1, e3, Option.bind_some, Option.isSome_some, Option.toList, List.cons_append, List.nil_append, zclr_i, zclr_r, zclr_n, zfit_i, zfit_l, and_self, if_true, if_false]
  simp
end RK
