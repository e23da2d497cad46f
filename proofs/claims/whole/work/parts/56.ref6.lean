/-! THE REFERENCE: sales, worth, who could be whose parents -/
section RL
variable {n m : Nat} {g : Nat → zC} {I A A' : Nat → Nat → Int32} {J : Nat → Nat → Int64} {b N S U : Nat}
theorem v_canSell {p q : Nat} (hW : WT A b N S U) (hR : RT A b (I 148) N S) (hp : p < N) (hq : q < N) (d : Nat) : zcall (d + 1) 347 [.ref 143, .int (nI p), .int (nI q)] (mk n m g I J) = some (some (.int (bI (tSell A b p q))), mk n m g I J) := by
  have h12 := hW.h12
  have h6 := hW.h6
  rw [m_X12_canSell]
  unfold tSell
  have e : nI p = nI q ↔ p = q := nI_eq (by omega) (by omega)
  have hlt : (A (b + 7) p < 0) = (A (b + 7) p = -1) := by rw [← Int32.not_le, hW.bears0 hp]; simp
  rcases hW.bears p hp with h | ⟨s, hs, h⟩
  · simp only [e_X12_canSell_0, e_X12_canSell_1, e_X12_canSell_4, e_X12_canSell_6, e_X12_canSell_7, e_X12_canSell_8, e_X12_canSell_9, e_X12_canSell_10, e_X12_canSell_11, e_X12_canSell_12, e_X12_canSell_15, e_X12_canSell_16, e_X12_canSell_17, e_X12_canSell_20, e_X12_canSell_23, e_X12_canSell_24, e_X12_canSell_25, e_X12_canSell_28, e_X12_canSell_31, e_X12_canSell_32, e_X12_canSell_35, e_X12_canSell_36, e_X12_canSell_39, e_X12_canSell_41, e_X12_canSell_42, e_X12_canSell_43, e_X12_canSell_44, e_X12_canSell_45, e_X12_canSell_48, e_X12_canSell_49, e_X12_canSell_52, e_X12_canSell_54, e_X12_canSell_55, e_X12_canSell_56, e_X12_canSell_57, e_X12_canSell_58, e_X12_canSell_61, e_X12_canSell_63, e_X12_canSell_64, e_X12_canSell_65, e_X12_canSell_66, e_X12_canSell_69, e_X12_canSell_70, e_X12_canSell_71, e_X12_canSell_72, e_X12_canSell_75, e_X12_canSell_77, e_X12_canSell_78, e_X12_canSell_79, e_X12_canSell_80, e_X12_canSell_83, e_X12_canSell_84, e_X12_canSell_87, e_X12_canSell_88, e_X12_canSell_89, e_X12_canSell_90, e_X12_canSell_93, e_X12_canSell_95, e_X12_canSell_96, e_X12_canSell_97, e_X12_canSell_98, e_X12_canSell_99, e_X12_canSell_101, e_X12_canSell_104, e_X12_canSell_105, e_X12_canSell_108, e_X12_canSell_109, cA_6, cA_12, cA_18, cA_30, cA_42, cA_54, cA_66, cA_78, cA_90, cA_102, cA_114, cA_126, cA_138, cA_210, cA_222, lc_0, lc_1, lc_2, lc_3, lc_4, lc_5, g_143_20, q_148, nI_neg (show 30 + p < 2 ^ 31 by omega), nI_clamp (show 30 + p < 2 ^ 31 by omega), k_148 (show 30 + p < 2530 by omega), l_148 (show 30 + p < 2530 by omega), nI_neg (show 30 + q < 2 ^ 31 by omega), nI_clamp (show 30 + q < 2 ^ 31 by omega), k_148 (show 30 + q < 2530 by omega), l_148 (show 30 + q < 2530 by omega), c_143, hR.bears p hp, hR.bears q hq, v_lives hW hR hp, v_lives hW hR hq, h, e, Option.bind_some, Option.isSome_some, Option.toList, List.cons_append, List.nil_append, zclr_i, zclr_r, zclr_n, zfit_i, zfit_l, and_self, if_true, if_false]
    by_cases h0 : p = q
    · simp [h0, bI, zfit_b0, h]
    · by_cases h1 : A (b + 6) p = -1 <;> by_cases h2 : A (b + 6) q = -1 <;> simp [h0, h1, h2, bI, zfit_b0]
  · have hs1 : nI s ≠ -1 := nI_m1 (by omega)
    have hs0 : ¬ nI s < 0 := nI_pos (by omega)
    have hm := m0_0 (hW.sold s hs) hW.hU
    simp only [e_X12_canSell_0, e_X12_canSell_1, e_X12_canSell_4, e_X12_canSell_6, e_X12_canSell_7, e_X12_canSell_8, e_X12_canSell_9, e_X12_canSell_10, e_X12_canSell_11, e_X12_canSell_12, e_X12_canSell_15, e_X12_canSell_16, e_X12_canSell_17, e_X12_canSell_20, e_X12_canSell_23, e_X12_canSell_24, e_X12_canSell_25, e_X12_canSell_28, e_X12_canSell_31, e_X12_canSell_32, e_X12_canSell_35, e_X12_canSell_36, e_X12_canSell_39, e_X12_canSell_41, e_X12_canSell_42, e_X12_canSell_43, e_X12_canSell_44, e_X12_canSell_45, e_X12_canSell_48, e_X12_canSell_49, e_X12_canSell_52, e_X12_canSell_54, e_X12_canSell_55, e_X12_canSell_56, e_X12_canSell_57, e_X12_canSell_58, e_X12_canSell_61, e_X12_canSell_63, e_X12_canSell_64, e_X12_canSell_65, e_X12_canSell_66, e_X12_canSell_69, e_X12_canSell_70, e_X12_canSell_71, e_X12_canSell_72, e_X12_canSell_75, e_X12_canSell_77, e_X12_canSell_78, e_X12_canSell_79, e_X12_canSell_80, e_X12_canSell_83, e_X12_canSell_84, e_X12_canSell_87, e_X12_canSell_88, e_X12_canSell_89, e_X12_canSell_90, e_X12_canSell_93, e_X12_canSell_95, e_X12_canSell_96, e_X12_canSell_97, e_X12_canSell_98, e_X12_canSell_99, e_X12_canSell_101, e_X12_canSell_104, e_X12_canSell_105, e_X12_canSell_108, e_X12_canSell_109, cA_6, cA_12, cA_18, cA_30, cA_42, cA_54, cA_66, cA_78, cA_90, cA_102, cA_114, cA_126, cA_138, cA_210, cA_222, lc_0, lc_1, lc_2, lc_3, lc_4, lc_5, g_143_20, q_148, nI_neg (show 30 + p < 2 ^ 31 by omega), nI_clamp (show 30 + p < 2 ^ 31 by omega), k_148 (show 30 + p < 2530 by omega), l_148 (show 30 + p < 2530 by omega), nI_neg (show 30 + q < 2 ^ 31 by omega), nI_clamp (show 30 + q < 2 ^ 31 by omega), k_148 (show 30 + q < 2530 by omega), l_148 (show 30 + q < 2530 by omega), nI_neg (show 42 + q < 2 ^ 31 by omega), nI_clamp (show 42 + q < 2 ^ 31 by omega), k_148 (show 42 + q < 2530 by omega), l_148 (show 42 + q < 2530 by omega), nI_neg (show 6 + s < 2 ^ 31 by omega), nI_clamp (show 6 + s < 2 ^ 31 by omega), k_148 (show 6 + s < 2530 by omega), l_148 (show 6 + s < 2530 by omega), nI_neg (show 12 + s < 2 ^ 31 by omega), nI_clamp (show 12 + s < 2 ^ 31 by omega), k_148 (show 12 + s < 2530 by omega), l_148 (show 12 + s < 2530 by omega), c_143, hR.n2, hR.bears p hp, hR.bears q hq, hR.coins q hq, hR.worth s hs, hR.sold s hs, v_lives hW hR hp, v_lives hW hR hq, h, e, nI_clamp (show s < 2 ^ 31 by omega), Option.bind_some, Option.isSome_some, Option.toList, List.cons_append, List.nil_append, zclr_i, zclr_r, zclr_n, zfit_i, zfit_l, and_self, if_true, if_false]
    by_cases h0 : p = q
    · subst h0
      simp [bI, zfit_b0, h]
    · by_cases h1 : A (b + 6) p = -1
      · by_cases h2 : A (b + 6) q = -1
        · by_cases h3 : A (b + 7) q = nI s
          · simp [h0, h1, h2, h3, hs0, bI, zfit_b0]
          · by_cases h4 : A (b + 2) s ≤ A (b + 8) q
            · by_cases h5 : A (b + 3) s = -1
              · simp [h0, h1, h2, h3, h4, h5, m0, hs0, hs1, Int32.not_lt.mpr h4, bI, zfit_b1]
              · have h5' : ¬ A (b + 3) s = 0 := by
                  have : ¬ m0 (A (b + 3) s) = 0 := by rw [hm]; exact h5
                  rw [m0_v h5] at this
                  exact this
                by_cases h7 : 9 ≤ A b 0 - A (b + 3) s
                · simp [h0, h1, h2, h3, h4, h5, h5', m0_v h5, h7, hs0, hs1, Int32.not_lt.mpr h4, Int32.not_lt.mpr h7, bI, zfit_b1]
                · simp [h0, h1, h2, h3, h4, h5, h5', m0_v h5, h7, hs0, hs1, Int32.not_lt.mpr h4, Int32.not_le.mp h7, bI, zfit_b0]
            · simp [h0, h1, h2, h3, h4, hs0, Int32.not_le.mp h4, bI, zfit_b0]
        · simp [h0, h1, h2, bI, zfit_b0]
      · simp [h0, h1, bI, zfit_b0]
theorem WT.coin {p k : Nat} (hW : WT A b N S U) (hk : k ≤ 9999) : WT (zu A (b + 8) p (nI k)) b N S U := by
  refine hW.row8 (fun j _ h => zu_far _ _ _ (by omega)) ?_
  intro q hq
  rw [zu_row]
  by_cases e : q = p
  · rw [if_pos e]
    exact ⟨k, hk, rfl⟩
  · rw [if_neg e]
    exact hW.coins q hq
theorem WT.sale {s : Nat} (hW : WT A b N S U) : WT (zu A (b + 3) s (A b 0)) b N S U := by
  refine hW.row3 (fun j _ h => zu_far _ _ _ (by omega)) ?_
  intro q hq
  rw [zu_row]
  by_cases e : q = s
  · rw [if_pos e]
    exact Or.inr hW.hY
  · rw [if_neg e]
    exact hW.sold q hq
theorem nI_subn {a k : Nat} (h : k ≤ a) : nI a - nI k = nI (a - k) := by
  obtain ⟨j, rfl⟩ : ∃ j, a = j + k := ⟨a - k, by omega⟩
  rw [← nI_add, Int32.sub_eq_add_neg, Int32.add_assoc, ← Int32.sub_eq_add_neg, Int32.sub_self, Int32.add_zero]
  congr 1
  omega
theorem nI_leq {a k : Nat} (ha : a < 2 ^ 31) (hk : k < 2 ^ 31) : (nI a ≤ nI k) = (a ≤ k) := by
  apply propext
  rw [Int32.le_iff_toInt_le, nI_toInt ha, nI_toInt hk]
  omega
theorem nI_ltq {a k : Nat} (ha : a < 2 ^ 31) (hk : k < 2 ^ 31) : (nI a < nI k) = (a < k) := by
  apply propext
  rw [Int32.lt_iff_toInt_lt, nI_toInt ha, nI_toInt hk]
  omega
theorem WT.sell {p q : Nat} (hW : WT A b N S U) (hp : p < N) (hq : q < N) (h : tSell A b p q = true) : WT (lSell b p q A) b N S U := by
  have h6 := hW.h6
  unfold tSell at h
  obtain ⟨h1, h2, h3, h4, h5, h7⟩ := of_decide_eq_true h
  unfold lSell
  rcases hW.bears p hp with e | ⟨s, hs, e⟩
  · exact absurd e h3
  · rw [e, nI_clamp (by omega)] at h7 ⊢
    obtain ⟨k, hk, ek⟩ := hW.worth s hs
    obtain ⟨x, hx, ex⟩ := hW.coins p hp
    obtain ⟨y, hy, ey⟩ := hW.coins q hq
    rw [ek, ey, nI_leq (by omega) (by omega)] at h7
    rw [ek, ex, ey, nI_subn h7, nI_add, show (9999 : Int32) = nI 9999 from rfl]
    have w1 := hW.coin (p := q) (k := y - k) (by omega)
    have w2 : WT (zu (zu A (b + 8) q (nI (y - k))) (b + 8) p (if nI (x + k) < nI 9999 then nI (x + k) else nI 9999)) b N S U := by
      by_cases h9 : nI (x + k) < nI 9999
      · rw [if_pos h9]
        rw [nI_ltq (by omega) (by omega)] at h9
        exact w1.coin (by omega)
      · rw [if_neg h9]
        exact w1.coin (by omega)
    have w3 := ((w2.bear (p := q) (x := nI s) (Or.inr ⟨s, hs, rfl⟩)).bear (p := p) (x := -1) (Or.inl rfl)).sale (s := s)
    simp only [zu_o0 (i := 7) (by decide), zu_o0 (i := 8) (by decide)] at w3
    exact w3
theorem v_sells_no {p q : Nat} (hW : WT A b N S U) (hR : RT A b (I 148) N S) (hp : p < N) (hq : q < N) (h : tSell A b p q = false) (d : Nat) : zcall (d + 4) 348 [.ref 143, .int (nI p), .int (nI q)] (mk n m g I J) = some (some (.int 0), mk n m g I J) := by
  rw [m_X12_sells]
  simp only [e_X12_sells_0, e_X12_sells_1, e_X12_sells_2, e_X12_sells_3, e_X12_sells_6, e_X12_sells_9, e_X12_sells_10, e_X12_sells_11, e_X12_sells_12, e_X12_sells_15, e_X12_sells_17, e_X12_sells_18, e_X12_sells_19, e_X12_sells_20, e_X12_sells_21, e_X12_sells_22, e_X12_sells_25, e_X12_sells_27, e_X12_sells_28, e_X12_sells_29, e_X12_sells_30, e_X12_sells_31, e_X12_sells_32, e_X12_sells_35, e_X12_sells_37, e_X12_sells_38, e_X12_sells_39, e_X12_sells_40, e_X12_sells_41, e_X12_sells_42, e_X12_sells_43, e_X12_sells_46, e_X12_sells_48, e_X12_sells_49, e_X12_sells_50, e_X12_sells_53, e_X12_sells_54, e_X12_sells_57, e_X12_sells_59, e_X12_sells_60, e_X12_sells_61, e_X12_sells_62, e_X12_sells_63, e_X12_sells_66, e_X12_sells_68, e_X12_sells_69, e_X12_sells_70, e_X12_sells_71, e_X12_sells_72, e_X12_sells_75, e_X12_sells_76, e_X12_sells_77, e_X12_sells_80, e_X12_sells_82, e_X12_sells_83, e_X12_sells_84, e_X12_sells_85, e_X12_sells_86, e_X12_sells_87, e_X12_sells_90, e_X12_sells_92, e_X12_sells_93, e_X12_sells_94, e_X12_sells_95, e_X12_sells_96, e_X12_sells_97, e_X12_sells_100, e_X12_sells_102, e_X12_sells_103, e_X12_sells_104, e_X12_sells_105, e_X12_sells_108, e_X12_sells_109, e_X12_sells_110, e_X12_sells_111, e_X12_sells_112, e_X12_sells_115, e_X12_sells_116, c_143, v_canSell hW hR hp hq, h, bI, Bool.false_eq_true, zfit_b0, Option.bind_some, Option.isSome_some, Option.toList, List.cons_append, List.nil_append, zclr_i, zclr_r, zclr_n, zfit_i, zfit_l, and_self, if_true, if_false]
theorem v_sells {p q : Nat} (hW : WT A b N S U) (hR : RT A b (I 148) N S) (hp : p < N) (hq : q < N) (h : tSell A b p q = true) (d : Nat) : ∃ c', zcall (d + 4) 348 [.ref 143, .int (nI p), .int (nI q)] (mk n m g I J) = some (some (.int 1), mk n m g (zr I 148 c') J) ∧ RT (tSettle (lSell b p q A) b N) b c' N S ∧ ∀ j, 234 ≤ j → c' j = I 148 j := by
  have h12 := hW.h12
  have h6 := hW.h6
  have hne := tSell_ne h
  have w1 := hW.sell hp hq h
  obtain ⟨s, hs, e⟩ : ∃ s, s < S ∧ A (b + 7) p = nI s := by
    rcases hW.bears p hp with e | e
    · exact absurd e hne.2
    · exact e
  obtain ⟨yr, hy1, hy2, hy3⟩ := hW.hY
  have hU := hW.hU
  have r1 : RT (lSell b p q A) b (fu (fu (fu (fu (fu (I 148) (42 + q) (A (b + 8) q - A (b + 2) s)) (42 + p) (if A (b + 8) p + A (b + 2) s < 9999 then A (b + 8) p + A (b + 2) s else 9999)) (30 + p) (-1)) (30 + q) (nI s)) (12 + s) (A b 0)) N S := by
    have := ((((hR.set8 (p := q) (x := A (b + 8) q - A (b + 2) s) h12 h6 (by omega)).set8 (p := p) (x := if A (b + 8) p + A (b + 2) s < 9999 then A (b + 8) p + A (b + 2) s else 9999) h12 h6 (by omega)).set7 (p := q) (x := nI s) h12 h6 (by omega)).set7 (p := p) (x := -1) h12 h6 (by omega)).set3 (p := s) (x := A b 0) h12 h6 (by omega)
    rw [m0_v (by rw [hy3]; exact nI_m1 (by omega)), fu_swap _ (30 + q) (30 + p) _ _ (by omega)] at this
    unfold lSell
    rw [e, nI_clamp (by omega)]
    exact this
  obtain ⟨c3, e3, r3, f3⟩ := v_settles (n := n) (m := m) (g := g) (J := J) (I := zr I 148 (fu (fu (fu (fu (fu (I 148) (42 + q) (A (b + 8) q - A (b + 2) s)) (42 + p) (if A (b + 8) p + A (b + 2) s < 9999 then A (b + 8) p + A (b + 2) s else 9999)) (30 + p) (-1)) (30 + q) (nI s)) (12 + s) (A b 0))) w1 (by rw [zr_same]; exact r1) d
  rw [zr_zr] at e3
  rw [zr_same] at f3
  refine ⟨c3, ?_, r3, fun j hj => by rw [f3 j hj, fu_ne _ _ (by omega), fu_ne _ _ (by omega), fu_ne _ _ (by omega), fu_ne _ _ (by omega), fu_ne _ _ (by omega)]⟩
  rw [m_X12_sells]
  have i1 : fu (I 148) (42 + q) (A (b + 8) q - A (b + 2) s) (6 + s) = A (b + 2) s := by rw [fu_ne _ _ (by omega), hR.worth s hs]
  have i2 : fu (I 148) (42 + q) (A (b + 8) q - A (b + 2) s) (42 + p) = A (b + 8) p := by rw [fu_ne _ _ (by omega), hR.coins p hp]
  have i3 : fu (fu (fu (fu (I 148) (42 + q) (A (b + 8) q - A (b + 2) s)) (42 + p) (if A (b + 8) p + A (b + 2) s < 9999 then A (b + 8) p + A (b + 2) s else 9999)) (30 + p) (-1)) (30 + q) (nI s) 2 = A b 0 := by rw [fu_ne _ _ (by omega), fu_ne _ _ (by omega), fu_ne _ _ (by omega), fu_ne _ _ (by omega), hR.n2]
  simp only [e_X12_sells_0, e_X12_sells_1, e_X12_sells_2, e_X12_sells_3, e_X12_sells_6, e_X12_sells_9, e_X12_sells_10, e_X12_sells_11, e_X12_sells_12, e_X12_sells_15, e_X12_sells_17, e_X12_sells_18, e_X12_sells_19, e_X12_sells_20, e_X12_sells_21, e_X12_sells_22, e_X12_sells_25, e_X12_sells_27, e_X12_sells_28, e_X12_sells_29, e_X12_sells_30, e_X12_sells_31, e_X12_sells_32, e_X12_sells_35, e_X12_sells_37, e_X12_sells_38, e_X12_sells_39, e_X12_sells_40, e_X12_sells_41, e_X12_sells_42, e_X12_sells_43, e_X12_sells_46, cA_6, cA_12, cA_18, cA_30, cA_42, cA_54, cA_66, cA_78, cA_90, cA_102, cA_114, cA_126, cA_138, cA_210, cA_222, lc_0, lc_1, lc_2, lc_3, lc_4, lc_5, g_143_20, q_148, nI_neg (show 30 + p < 2 ^ 31 by omega), nI_clamp (show 30 + p < 2 ^ 31 by omega), k_148 (show 30 + p < 2530 by omega), l_148 (show 30 + p < 2530 by omega), nI_neg (show 42 + q < 2 ^ 31 by omega), nI_clamp (show 42 + q < 2 ^ 31 by omega), k_148 (show 42 + q < 2530 by omega), l_148 (show 42 + q < 2530 by omega), nI_neg (show 6 + s < 2 ^ 31 by omega), nI_clamp (show 6 + s < 2 ^ 31 by omega), k_148 (show 6 + s < 2530 by omega), l_148 (show 6 + s < 2530 by omega), c_143, v_canSell hW hR hp hq, h, bI, hR.bears p hp, hR.coins q hq, hR.worth s hs, e, zu_148, Option.bind_some, Option.isSome_some, Option.toList, List.cons_append, List.nil_append, zclr_i, zclr_r, zclr_n, zfit_i, zfit_l, and_self, if_true, if_false]
  simp only [e_X12_sells_0, e_X12_sells_1, e_X12_sells_2, e_X12_sells_3, e_X12_sells_6, e_X12_sells_9, e_X12_sells_10, e_X12_sells_11, e_X12_sells_12, e_X12_sells_15, e_X12_sells_17, e_X12_sells_18, e_X12_sells_19, e_X12_sells_20, e_X12_sells_21, e_X12_sells_22, e_X12_sells_25, e_X12_sells_27, e_X12_sells_28, e_X12_sells_29, e_X12_sells_30, e_X12_sells_31, e_X12_sells_32, e_X12_sells_35, e_X12_sells_37, e_X12_sells_38, e_X12_sells_39, e_X12_sells_40, e_X12_sells_41, e_X12_sells_42, e_X12_sells_43, e_X12_sells_46, e_X12_sells_48, e_X12_sells_49, e_X12_sells_50, e_X12_sells_53, e_X12_sells_54, e_X12_sells_57, e_X12_sells_59, e_X12_sells_60, e_X12_sells_61, e_X12_sells_62, e_X12_sells_63, e_X12_sells_66, e_X12_sells_68, e_X12_sells_69, e_X12_sells_70, e_X12_sells_71, e_X12_sells_72, e_X12_sells_75, e_X12_sells_76, e_X12_sells_77, e_X12_sells_80, e_X12_sells_82, e_X12_sells_83, e_X12_sells_84, e_X12_sells_85, e_X12_sells_86, e_X12_sells_87, e_X12_sells_90, e_X12_sells_92, e_X12_sells_93, e_X12_sells_94, e_X12_sells_95, e_X12_sells_96, e_X12_sells_97, e_X12_sells_100, e_X12_sells_102, e_X12_sells_103, e_X12_sells_104, e_X12_sells_105, e_X12_sells_108, e_X12_sells_109, e_X12_sells_110, e_X12_sells_111, e_X12_sells_112, e_X12_sells_115, e_X12_sells_116, cA_6, cA_12, cA_18, cA_30, cA_42, cA_54, cA_66, cA_78, cA_90, cA_102, cA_114, cA_126, cA_138, cA_210, cA_222, lc_0, lc_1, lc_2, lc_3, lc_4, lc_5, g_143_20, q_148, nI_neg (show 30 + p < 2 ^ 31 by omega), nI_clamp (show 30 + p < 2 ^ 31 by omega), k_148 (show 30 + p < 2530 by omega), l_148 (show 30 + p < 2530 by omega), nI_neg (show 30 + q < 2 ^ 31 by omega), nI_clamp (show 30 + q < 2 ^ 31 by omega), k_148 (show 30 + q < 2530 by omega), l_148 (show 30 + q < 2530 by omega), nI_neg (show 42 + q < 2 ^ 31 by omega), nI_clamp (show 42 + q < 2 ^ 31 by omega), k_148 (show 42 + q < 2530 by omega), l_148 (show 42 + q < 2530 by omega), nI_neg (show 42 + p < 2 ^ 31 by omega), nI_clamp (show 42 + p < 2 ^ 31 by omega), k_148 (show 42 + p < 2530 by omega), l_148 (show 42 + p < 2530 by omega), nI_neg (show 6 + s < 2 ^ 31 by omega), nI_clamp (show 6 + s < 2 ^ 31 by omega), k_148 (show 6 + s < 2530 by omega), l_148 (show 6 + s < 2530 by omega), nI_neg (show 12 + s < 2 ^ 31 by omega), nI_clamp (show 12 + s < 2 ^ 31 by omega), k_148 (show 12 + s < 2530 by omega), l_148 (show 12 + s < 2530 by omega), c_143, zu_148, zr_same, zr_zr, i1, i2, i3, j_min, zfit_b1, e3, Option.bind_some, Option.isSome_some, Option.toList, List.cons_append, List.nil_append, zclr_i, zclr_r, zclr_n, zfit_i, zfit_l, and_self, if_true, if_false]
  simp
theorem cmp16 {x y : Nat} (hx : x ≤ 9999) (hy : y ≤ 9999) : (nI x - nI y < 16) = ¬ (nI y ≤ nI x - 16) := by
  apply propext
  rw [Int32.not_le, Int32.lt_iff_toInt_lt, Int32.lt_iff_toInt_lt, Int32.toInt_sub, Int32.toInt_sub, nI_toInt (by omega), nI_toInt (by omega), show (16 : Int32).toInt = 16 from rfl]
  simp only [Int.bmod]
  omega
theorem v_couldBeBy {r p q : Nat} (hW : WT A b N S U) (hR : RT A b (I 148) N S) (hr : r < N) (hp : p < N) (hq : q < N) (d : Nat) : zcall d 385 [.ref 143, .int (nI r), .int (nI p), .int (nI q)] (mk n m g I J) = some (some (.int (bI (kCould A b r p q))), mk n m g I J) := by
  have h12 := hW.h12
  have hU := hW.hU
  rw [m_X12_couldBeBy]
  have e1 : nI p = nI q ↔ p = q := nI_eq (by omega) (by omega)
  have e2 : nI p = nI r ↔ p = r := nI_eq (by omega) (by omega)
  have e3 : nI q = nI r ↔ q = r := nI_eq (by omega) (by omega)
  obtain ⟨x, _, hx, ex⟩ := hW.born r hr
  obtain ⟨y, _, hy, ey⟩ := hW.born p hp
  obtain ⟨z, _, hz, ez⟩ := hW.born q hq
  simp only [e_X12_couldBeBy_0, e_X12_couldBeBy_1, e_X12_couldBeBy_2, e_X12_couldBeBy_5, e_X12_couldBeBy_6, e_X12_couldBeBy_7, e_X12_couldBeBy_10, e_X12_couldBeBy_11, e_X12_couldBeBy_12, e_X12_couldBeBy_15, e_X12_couldBeBy_16, e_X12_couldBeBy_19, e_X12_couldBeBy_21, e_X12_couldBeBy_22, e_X12_couldBeBy_23, e_X12_couldBeBy_24, e_X12_couldBeBy_25, e_X12_couldBeBy_28, e_X12_couldBeBy_30, e_X12_couldBeBy_31, e_X12_couldBeBy_32, e_X12_couldBeBy_33, e_X12_couldBeBy_34, e_X12_couldBeBy_36, e_X12_couldBeBy_39, e_X12_couldBeBy_40, e_X12_couldBeBy_43, e_X12_couldBeBy_45, e_X12_couldBeBy_46, e_X12_couldBeBy_47, e_X12_couldBeBy_48, e_X12_couldBeBy_49, e_X12_couldBeBy_52, e_X12_couldBeBy_54, e_X12_couldBeBy_55, e_X12_couldBeBy_56, e_X12_couldBeBy_57, e_X12_couldBeBy_58, e_X12_couldBeBy_60, e_X12_couldBeBy_63, e_X12_couldBeBy_64, e_X12_couldBeBy_65, e_X12_couldBeBy_66, e_X12_couldBeBy_69, e_X12_couldBeBy_71, e_X12_couldBeBy_72, e_X12_couldBeBy_73, e_X12_couldBeBy_74, e_X12_couldBeBy_76, e_X12_couldBeBy_78, e_X12_couldBeBy_81, e_X12_couldBeBy_82, e_X12_couldBeBy_85, e_X12_couldBeBy_87, e_X12_couldBeBy_88, e_X12_couldBeBy_89, e_X12_couldBeBy_90, e_X12_couldBeBy_93, e_X12_couldBeBy_94, e_X12_couldBeBy_97, e_X12_couldBeBy_99, e_X12_couldBeBy_100, e_X12_couldBeBy_101, e_X12_couldBeBy_102, e_X12_couldBeBy_105, e_X12_couldBeBy_106, e_X12_couldBeBy_109, e_X12_couldBeBy_110, e_X12_couldBeBy_113, e_X12_couldBeBy_114, e_X12_couldBeBy_117, e_X12_couldBeBy_119, e_X12_couldBeBy_120, e_X12_couldBeBy_121, e_X12_couldBeBy_122, e_X12_couldBeBy_124, e_X12_couldBeBy_127, e_X12_couldBeBy_128, e_X12_couldBeBy_131, e_X12_couldBeBy_133, e_X12_couldBeBy_134, e_X12_couldBeBy_135, e_X12_couldBeBy_136, e_X12_couldBeBy_138, e_X12_couldBeBy_141, e_X12_couldBeBy_142, e_X12_couldBeBy_145, e_X12_couldBeBy_146, cA_6, cA_12, cA_18, cA_30, cA_42, cA_54, cA_66, cA_78, cA_90, cA_102, cA_114, cA_126, cA_138, cA_210, cA_222, lc_0, lc_1, lc_2, lc_3, lc_4, lc_5, g_143_20, q_148, nI_neg (show 18 + r < 2 ^ 31 by omega), nI_clamp (show 18 + r < 2 ^ 31 by omega), k_148 (show 18 + r < 2530 by omega), l_148 (show 18 + r < 2530 by omega), nI_neg (show 18 + p < 2 ^ 31 by omega), nI_clamp (show 18 + p < 2 ^ 31 by omega), k_148 (show 18 + p < 2530 by omega), l_148 (show 18 + p < 2530 by omega), nI_neg (show 18 + q < 2 ^ 31 by omega), nI_clamp (show 18 + q < 2 ^ 31 by omega), k_148 (show 18 + q < 2530 by omega), l_148 (show 18 + q < 2530 by omega), nI_neg (show 30 + r < 2 ^ 31 by omega), nI_clamp (show 30 + r < 2 ^ 31 by omega), k_148 (show 30 + r < 2530 by omega), l_148 (show 30 + r < 2530 by omega), nI_neg (show 30 + p < 2 ^ 31 by omega), nI_clamp (show 30 + p < 2 ^ 31 by omega), k_148 (show 30 + p < 2530 by omega), l_148 (show 30 + p < 2530 by omega), nI_neg (show 30 + q < 2 ^ 31 by omega), nI_clamp (show 30 + q < 2 ^ 31 by omega), k_148 (show 30 + q < 2530 by omega), l_148 (show 30 + q < 2530 by omega), hR.born r hr, hR.born p hp, hR.born q hq, hR.bears r hr, hR.bears p hp, hR.bears q hq, e1, e2, e3, Option.bind_some, Option.isSome_some, Option.toList, List.cons_append, List.nil_append, zclr_i, zclr_r, zclr_n, zfit_i, zfit_l, and_self, if_true, if_false]
  unfold kCould
  have c1 : (A (b + 5) r - A (b + 5) p < 16) = ¬ (A (b + 5) p ≤ A (b + 5) r - 16) := by rw [ex, ey]; exact cmp16 (by omega) (by omega)
  have c2 : (A (b + 5) r - A (b + 5) q < 16) = ¬ (A (b + 5) q ≤ A (b + 5) r - 16) := by rw [ex, ez]; exact cmp16 (by omega) (by omega)
  have d1 : (16 ≤ A (b + 5) r - A (b + 5) p) = (A (b + 5) p ≤ A (b + 5) r - 16) := by rw [← Int32.not_lt, c1, Classical.not_not]
  have d2 : (16 ≤ A (b + 5) r - A (b + 5) q) = (A (b + 5) q ≤ A (b + 5) r - 16) := by rw [← Int32.not_lt, c2, Classical.not_not]
  have hlt : ∀ j, j < N → (A (b + 7) j < 0) = (A (b + 7) j = -1) := fun j hj => by
    rw [← Int32.not_le, hW.bears0 hj]; simp
  have hge : ∀ j, j < N → (0 ≤ A (b + 7) j) = ¬ (A (b + 7) j = -1) := fun j hj => hW.bears0 hj
  have self : ¬ (A (b + 5) r ≤ A (b + 5) r - 16) := by
    have h9 := cmp16 (x := x) (y := x) (by omega) (by omega)
    rw [Int32.sub_self] at h9
    rw [ex, ← h9]
    decide
  by_cases h0 : p = q
  · simp [h0, bI, zfit_b0]
  by_cases h1 : p = r
  · subst h1
    simp [h0, self, bI, zfit_b0]
  by_cases h2 : q = r
  · subst h2
    simp [h0, h1, self, bI, zfit_b0]
  by_cases h3 : A (b + 5) p ≤ A (b + 5) r - 16
  · by_cases h4 : A (b + 5) q ≤ A (b + 5) r - 16
    · by_cases h5 : A (b + 7) r = -1
      · by_cases h7 : A (b + 7) p = -1 <;> by_cases h8 : A (b + 7) q = -1 <;> simp [h0, h1, h2, c1, c2, d1, d2, h3, h4, h5, hlt p hp, hlt q hq, hge p hp, hge q hq, h7, h8, bI, zfit_b0, zfit_b1]
      · by_cases h7 : A (b + 7) p = A (b + 7) r <;> by_cases h8 : A (b + 7) q = A (b + 7) r <;> simp [h0, h1, h2, c1, c2, d1, d2, h3, h4, h5, hlt r hr, hge r hr, h7, h8, bI, zfit_b0, zfit_b1]
    · simp [h0, h1, h2, c1, c2, d1, d2, h3, h4, bI, zfit_b0]
  · simp [h0, h1, h2, c1, d1, h3, bI, zfit_b0]
def tRich (A : Nat → Nat → Int32) (b p : Nat) : Int32 := if A (b + 7) p = -1 then A (b + 8) p else A (b + 8) p + A (b + 2) (A (b + 7) p).toNatClampNeg
theorem v_wealthOf {p : Nat} (hW : WT A b N S U) (hR : RT A b (I 148) N S) (hp : p < N) (d : Nat) : zcall d 388 [.ref 143, .int (nI p)] (mk n m g I J) = some (some (.int (tRich A b p)), mk n m g I J) := by
  have h12 := hW.h12
  have h6 := hW.h6
  rw [m_X12_wealthOf]
  unfold tRich
  rcases hW.bears p hp with h | ⟨s, hs, h⟩
  · simp only [e_X12_wealthOf_0, e_X12_wealthOf_1, e_X12_wealthOf_4, e_X12_wealthOf_6, e_X12_wealthOf_7, e_X12_wealthOf_8, e_X12_wealthOf_9, e_X12_wealthOf_10, e_X12_wealthOf_13, e_X12_wealthOf_15, e_X12_wealthOf_16, e_X12_wealthOf_17, e_X12_wealthOf_18, e_X12_wealthOf_21, e_X12_wealthOf_22, e_X12_wealthOf_25, e_X12_wealthOf_26, e_X12_wealthOf_29, e_X12_wealthOf_31, e_X12_wealthOf_32, e_X12_wealthOf_35, e_X12_wealthOf_37, e_X12_wealthOf_38, e_X12_wealthOf_39, e_X12_wealthOf_40, e_X12_wealthOf_41, e_X12_wealthOf_42, e_X12_wealthOf_43, cA_6, cA_12, cA_18, cA_30, cA_42, cA_54, cA_66, cA_78, cA_90, cA_102, cA_114, cA_126, cA_138, cA_210, cA_222, lc_0, lc_1, lc_2, lc_3, lc_4, lc_5, g_143_20, q_148, nI_neg (show 30 + p < 2 ^ 31 by omega), nI_clamp (show 30 + p < 2 ^ 31 by omega), k_148 (show 30 + p < 2530 by omega), l_148 (show 30 + p < 2530 by omega), nI_neg (show 42 + p < 2 ^ 31 by omega), nI_clamp (show 42 + p < 2 ^ 31 by omega), k_148 (show 42 + p < 2530 by omega), l_148 (show 42 + p < 2530 by omega), hR.bears p hp, hR.coins p hp, h, Option.bind_some, Option.isSome_some, Option.toList, List.cons_append, List.nil_append, zclr_i, zclr_r, zclr_n, zfit_i, zfit_l, and_self, if_true, if_false]
    simp
  · have hs1 : nI s ≠ -1 := nI_m1 (by omega)
    have hs0 : ¬ nI s < 0 := nI_pos (by omega)
    have hs2 : (0 : Int32) ≤ nI s := Int32.not_lt.mp hs0
    simp only [e_X12_wealthOf_0, e_X12_wealthOf_1, e_X12_wealthOf_4, e_X12_wealthOf_6, e_X12_wealthOf_7, e_X12_wealthOf_8, e_X12_wealthOf_9, e_X12_wealthOf_10, e_X12_wealthOf_13, e_X12_wealthOf_15, e_X12_wealthOf_16, e_X12_wealthOf_17, e_X12_wealthOf_18, e_X12_wealthOf_21, e_X12_wealthOf_22, e_X12_wealthOf_25, e_X12_wealthOf_26, e_X12_wealthOf_29, e_X12_wealthOf_31, e_X12_wealthOf_32, e_X12_wealthOf_35, e_X12_wealthOf_37, e_X12_wealthOf_38, e_X12_wealthOf_39, e_X12_wealthOf_40, e_X12_wealthOf_41, e_X12_wealthOf_42, e_X12_wealthOf_43, cA_6, cA_12, cA_18, cA_30, cA_42, cA_54, cA_66, cA_78, cA_90, cA_102, cA_114, cA_126, cA_138, cA_210, cA_222, lc_0, lc_1, lc_2, lc_3, lc_4, lc_5, g_143_20, q_148, nI_neg (show 30 + p < 2 ^ 31 by omega), nI_clamp (show 30 + p < 2 ^ 31 by omega), k_148 (show 30 + p < 2530 by omega), l_148 (show 30 + p < 2530 by omega), nI_neg (show 42 + p < 2 ^ 31 by omega), nI_clamp (show 42 + p < 2 ^ 31 by omega), k_148 (show 42 + p < 2530 by omega), l_148 (show 42 + p < 2530 by omega), nI_neg (show 6 + s < 2 ^ 31 by omega), nI_clamp (show 6 + s < 2 ^ 31 by omega), k_148 (show 6 + s < 2530 by omega), l_148 (show 6 + s < 2530 by omega), hR.bears p hp, hR.coins p hp, hR.worth s hs, h, nI_clamp (show s < 2 ^ 31 by omega), Option.bind_some, Option.isSome_some, Option.toList, List.cons_append, List.nil_append, zclr_i, zclr_r, zclr_n, zfit_i, zfit_l, and_self, if_true, if_false]
    simp [hs1, hs0, hs2]
end RL
