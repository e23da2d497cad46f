/-! CALLS: sell -/
section QE
variable {n m : Nat} {g : Nat → zC} {I I2 T A : Nat → Nat → Int32} {J J2 : Nat → Nat → Int64} {N S N' S' : Nat} {c' : Nat → Int32}
theorem q_sell {x : Int32} {y : Int32} (h : Inv I J N S) (d : Nat) : Eqv (d + 30) 176 349 [.int x, .int y] n m g I J := by
  have hW := h.W
  have h12 := hW.h12
  have h6 := hW.h6
  rcases p_cases x N with ⟨p, hp, rfl⟩ | hx
  · rcases p_cases y N with ⟨q, hq, rfl⟩ | hx
    · cases h1 : tSell I 16 p q
      · refine ⟨.int (-1), zu I 3 0 9, J, st 9 I, J, N, S, ?_, ?_, h.stI⟩
        · have hb := hW.bear6 p hp
          rw [m_X11_sell]
          simp only [e_X11_sell_0, e_X11_sell_1, e_X11_sell_2, e_X11_sell_3, e_X11_sell_6, e_X11_sell_9, e_X11_sell_10, e_X11_sell_11, e_X11_sell_14, e_X11_sell_15, e_X11_sell_16, e_X11_sell_19, e_X11_sell_20, e_X11_sell_21, e_X11_sell_24, e_X11_sell_27, e_X11_sell_28, e_X11_sell_30, e_X11_sell_33, e_X11_sell_34, e_X11_sell_35, e_X11_sell_38, e_X11_sell_39, e_X11_sell_40, e_X11_sell_43, e_X11_sell_44, e_X11_sell_45, e_X11_sell_48, e_X11_sell_51, e_X11_sell_52, e_X11_sell_53, e_X11_sell_56, c_3, c_4, c_T0 t16, g_3_3, g_3_5, g_3_7, g_3_8, n_refuse, n_deny, n_answer, n_grant, n_are_yes hW hp hq, t_canHandOver t16 (show p < 12 by omega) (show q < 12 by omega) hb, h1, bI, Bool.false_eq_true, Option.bind_some, Option.isSome_some, Option.toList, List.cons_append, List.nil_append, zclr_i, zclr_r, zclr_n, zfit_i, zfit_l, and_self, if_true, if_false] <;> first | rfl | simp
        · have hR1 : RT I 16 ((zu (zu (zu I 3 0 9) 143 1 0) 143 0 0) 148) N S := h.R
          rw [m_X12_sell]
          simp only [e_X12_sell_0, e_X12_sell_1, e_X12_sell_2, e_X12_sell_5, e_X12_sell_6, e_X12_sell_7, e_X12_sell_10, e_X12_sell_11, e_X12_sell_12, e_X12_sell_15, e_X12_sell_18, e_X12_sell_19, e_X12_sell_20, e_X12_sell_23, e_X12_sell_26, e_X12_sell_27, e_X12_sell_28, e_X12_sell_31, e_X12_sell_32, e_X12_sell_33, e_X12_sell_36, e_X12_sell_38, e_X12_sell_39, e_X12_sell_40, e_X12_sell_41, e_X12_sell_42, e_X12_sell_43, e_X12_sell_44, e_X12_sell_45, e_X12_sell_48, e_X12_sell_51, e_X12_sell_52, e_X12_sell_55, e_X12_sell_57, e_X12_sell_58, e_X12_sell_59, e_X12_sell_60, e_X12_sell_63, e_X12_sell_64, e_X12_sell_66, e_X12_sell_69, c_143, g_143_0, g_143_1, p_143_0, p_143_1, v_refuse, v_no, st_eq, v_isP_yes hW hR1 hp, v_isP_yes hW hR1 hq, cA_6, cA_12, cA_18, cA_30, cA_42, cA_54, cA_66, cA_78, cA_90, cA_102, cA_114, cA_126, cA_138, cA_210, cA_222, lc_0, lc_1, lc_2, lc_3, lc_4, lc_5, g_143_20, q_148, nI_neg (show 30 + p < 2 ^ 31 by omega), nI_clamp (show 30 + p < 2 ^ 31 by omega), k_148 (show 30 + p < 2530 by omega), l_148 (show 30 + p < 2530 by omega), bI, v_sells_no hW hR1 hp hq h1, Option.bind_some, Option.isSome_some, Option.toList, List.cons_append, List.nil_append, zclr_i, zclr_r, zclr_n, zfit_i, zfit_l, and_self, if_true, if_false] <;> first | rfl | simp
      · have hne := tSell_ne h1
        obtain ⟨s, hs, e⟩ : ∃ s, s < S ∧ I (16 + 7) p = nI s := by
          rcases hW.bears p hp with e | e
          · exact absurd e hne.2
          · exact e
        have hb := hW.bear6 p hp
        have th : zcall (d + 29) 114 [.ref 16, .int (nI p), .int (nI q)] (mk n m g I J) = some (some (.int (I (16 + 2) s)), mk n m g (lSell 16 p q I) J) := by
          have := t_handOver (n := n) (m := m) (g := g) (J := J) t16 (show p < 12 by omega) (show q < 12 by omega) hne.1 (show s < 6 by omega) e (d + 28)
          unfold lSell
          rw [e, nI_clamp (by omega)]
          exact this
        have wB : WT (lSell 16 p q I) 16 N S 2999 := hW.sell hp hq h1
        have w1 := wB.settle
        have hT : ∀ a, (∀ i, i < 17 → a ≠ 16 + i) → (tSettle (lSell 16 p q I) 16 N) a = I a := fun a ha => by rw [settle_out ha, lSell, zu_out (by decide) ha, zu_out (by decide) ha, zu_out (by decide) ha, zu_out (by decide) ha, zu_out (by decide) ha]
        have hR1 : RT I 16 ((zu (zu (zu (tSettle (lSell 16 p q I) 16 N) 3 0 0) 143 1 0) 143 0 0) 148) N S := h.R1 hT
        obtain ⟨c3, e3, r3, f3⟩ := v_sells (n := n) (m := m) (g := g) (J := J) hW hR1 hp hq h1 (d + 25)
        have hw6 : c3 (6 + s) = I (16 + 2) s := by
          rw [r3.worth s hs, tSettle_far (by decide) (by decide) (by decide) (by decide)]
          unfold lSell
          rw [zu_oo (i := 3) (j := 2) (by decide), zu_oo (i := 7) (j := 2) (by decide), zu_oo (i := 7) (j := 2) (by decide), zu_oo (i := 8) (j := 2) (by decide), zu_oo (i := 8) (j := 2) (by decide)]
        refine ⟨.int (I (16 + 2) s), zu (tSettle (lSell 16 p q I) 16 N) 3 0 0, J, st 0 (zr (tSettle (lSell 16 p q I) 16 N) 148 c3), J, N, S, ?_, ?_, h.fin w1 hT r3 f3⟩
        · rw [m_X11_sell]
          simp only [e_X11_sell_0, e_X11_sell_1, e_X11_sell_2, e_X11_sell_3, e_X11_sell_6, e_X11_sell_9, e_X11_sell_10, e_X11_sell_11, e_X11_sell_14, e_X11_sell_15, e_X11_sell_16, e_X11_sell_19, e_X11_sell_20, e_X11_sell_21, e_X11_sell_24, e_X11_sell_27, e_X11_sell_28, e_X11_sell_30, e_X11_sell_33, e_X11_sell_34, e_X11_sell_35, e_X11_sell_38, e_X11_sell_39, e_X11_sell_40, e_X11_sell_43, e_X11_sell_44, e_X11_sell_45, e_X11_sell_48, e_X11_sell_51, e_X11_sell_52, e_X11_sell_53, e_X11_sell_56, c_3, c_4, c_T0 t16, g_3_3, g_3_5, g_3_7, g_3_8, n_refuse, n_deny, n_answer, n_grant, n_are_yes hW hp hq, t_canHandOver t16 (show p < 12 by omega) (show q < 12 by omega) hb, h1, bI, th, t_settle t16 wB.hN h12 wB.qWell, n_done wB.hN h12 wB.qWell, Option.bind_some, Option.isSome_some, Option.toList, List.cons_append, List.nil_append, zclr_i, zclr_r, zclr_n, zfit_i, zfit_l, and_self, if_true, if_false] <;> first | rfl | simp
        · rw [m_X12_sell, ← st_zr]
          simp only [e_X12_sell_0, e_X12_sell_1, e_X12_sell_2, e_X12_sell_5, e_X12_sell_6, e_X12_sell_7, e_X12_sell_10, e_X12_sell_11, e_X12_sell_12, e_X12_sell_15, e_X12_sell_18, e_X12_sell_19, e_X12_sell_20, e_X12_sell_23, e_X12_sell_26, e_X12_sell_27, e_X12_sell_28, e_X12_sell_31, e_X12_sell_32, e_X12_sell_33, e_X12_sell_36, e_X12_sell_38, e_X12_sell_39, e_X12_sell_40, e_X12_sell_41, e_X12_sell_42, e_X12_sell_43, e_X12_sell_44, e_X12_sell_45, e_X12_sell_48, e_X12_sell_51, e_X12_sell_52, e_X12_sell_55, e_X12_sell_57, e_X12_sell_58, e_X12_sell_59, e_X12_sell_60, e_X12_sell_63, e_X12_sell_64, e_X12_sell_66, e_X12_sell_69, c_143, g_143_0, g_143_1, p_143_0, p_143_1, v_refuse, v_no, st_eq, v_isP_yes hW hR1 hp, v_isP_yes hW hR1 hq, cA_6, cA_12, cA_18, cA_30, cA_42, cA_54, cA_66, cA_78, cA_90, cA_102, cA_114, cA_126, cA_138, cA_210, cA_222, lc_0, lc_1, lc_2, lc_3, lc_4, lc_5, g_143_20, q_148, nI_neg (show 30 + p < 2 ^ 31 by omega), nI_clamp (show 30 + p < 2 ^ 31 by omega), k_148 (show 30 + p < 2530 by omega), l_148 (show 30 + p < 2530 by omega), nI_neg (show 6 + s < 2 ^ 31 by omega), nI_clamp (show 6 + s < 2 ^ 31 by omega), k_148 (show 6 + s < 2530 by omega), l_148 (show 6 + s < 2530 by omega), hR1.bears p hp, e, bI, zr_same, hw6, e3, Option.bind_some, Option.isSome_some, Option.toList, List.cons_append, List.nil_append, zclr_i, zclr_r, zclr_n, zfit_i, zfit_l, and_self, if_true, if_false] <;> first | rfl | simp
    · refine ⟨.int (-1), zu I 3 0 2, J, st 2 I, J, N, S, ?_, ?_, h.stI⟩
      · rw [m_X11_sell]
        simp only [e_X11_sell_0, e_X11_sell_1, e_X11_sell_2, e_X11_sell_3, e_X11_sell_6, e_X11_sell_9, e_X11_sell_10, e_X11_sell_11, e_X11_sell_14, e_X11_sell_15, e_X11_sell_16, e_X11_sell_19, e_X11_sell_20, e_X11_sell_21, e_X11_sell_24, e_X11_sell_27, e_X11_sell_28, e_X11_sell_30, e_X11_sell_33, e_X11_sell_34, e_X11_sell_35, e_X11_sell_38, e_X11_sell_39, e_X11_sell_40, e_X11_sell_43, e_X11_sell_44, e_X11_sell_45, e_X11_sell_48, e_X11_sell_51, e_X11_sell_52, e_X11_sell_53, e_X11_sell_56, c_3, c_4, c_T0 t16, g_3_3, g_3_5, g_3_7, g_3_8, n_refuse, n_deny, n_answer, n_grant, n_are_no2 hW hp hx, Option.bind_some, Option.isSome_some, Option.toList, List.cons_append, List.nil_append, zclr_i, zclr_r, zclr_n, zfit_i, zfit_l, and_self, if_true, if_false] <;> first | rfl | rfl
      · have hR1 : RT I 16 ((zu (zu (zu I 3 0 2) 143 1 0) 143 0 0) 148) N S := h.R
        rw [m_X12_sell]
        simp only [e_X12_sell_0, e_X12_sell_1, e_X12_sell_2, e_X12_sell_5, e_X12_sell_6, e_X12_sell_7, e_X12_sell_10, e_X12_sell_11, e_X12_sell_12, e_X12_sell_15, e_X12_sell_18, e_X12_sell_19, e_X12_sell_20, e_X12_sell_23, e_X12_sell_26, e_X12_sell_27, e_X12_sell_28, e_X12_sell_31, e_X12_sell_32, e_X12_sell_33, e_X12_sell_36, e_X12_sell_38, e_X12_sell_39, e_X12_sell_40, e_X12_sell_41, e_X12_sell_42, e_X12_sell_43, e_X12_sell_44, e_X12_sell_45, e_X12_sell_48, e_X12_sell_51, e_X12_sell_52, e_X12_sell_55, e_X12_sell_57, e_X12_sell_58, e_X12_sell_59, e_X12_sell_60, e_X12_sell_63, e_X12_sell_64, e_X12_sell_66, e_X12_sell_69, c_143, g_143_0, g_143_1, p_143_0, p_143_1, v_refuse, v_no, st_eq, v_isP_yes hW hR1 hp, v_isP_no hW hR1 hx, bI, Option.bind_some, Option.isSome_some, Option.toList, List.cons_append, List.nil_append, zclr_i, zclr_r, zclr_n, zfit_i, zfit_l, and_self, if_true, if_false] <;> first | rfl | rfl
  · refine ⟨.int (-1), zu I 3 0 2, J, st 2 I, J, N, S, ?_, ?_, h.stI⟩
    · rw [m_X11_sell]
      simp only [e_X11_sell_0, e_X11_sell_1, e_X11_sell_2, e_X11_sell_3, e_X11_sell_6, e_X11_sell_9, e_X11_sell_10, e_X11_sell_11, e_X11_sell_14, e_X11_sell_15, e_X11_sell_16, e_X11_sell_19, e_X11_sell_20, e_X11_sell_21, e_X11_sell_24, e_X11_sell_27, e_X11_sell_28, e_X11_sell_30, e_X11_sell_33, e_X11_sell_34, e_X11_sell_35, e_X11_sell_38, e_X11_sell_39, e_X11_sell_40, e_X11_sell_43, e_X11_sell_44, e_X11_sell_45, e_X11_sell_48, e_X11_sell_51, e_X11_sell_52, e_X11_sell_53, e_X11_sell_56, c_3, c_4, c_T0 t16, g_3_3, g_3_5, g_3_7, g_3_8, n_refuse, n_deny, n_answer, n_grant, n_are_no1 hW hx, Option.bind_some, Option.isSome_some, Option.toList, List.cons_append, List.nil_append, zclr_i, zclr_r, zclr_n, zfit_i, zfit_l, and_self, if_true, if_false] <;> first | rfl | rfl
    · have hR1 : RT I 16 ((zu (zu (zu I 3 0 2) 143 1 0) 143 0 0) 148) N S := h.R
      rw [m_X12_sell]
      simp only [e_X12_sell_0, e_X12_sell_1, e_X12_sell_2, e_X12_sell_5, e_X12_sell_6, e_X12_sell_7, e_X12_sell_10, e_X12_sell_11, e_X12_sell_12, e_X12_sell_15, e_X12_sell_18, e_X12_sell_19, e_X12_sell_20, e_X12_sell_23, e_X12_sell_26, e_X12_sell_27, e_X12_sell_28, e_X12_sell_31, e_X12_sell_32, e_X12_sell_33, e_X12_sell_36, e_X12_sell_38, e_X12_sell_39, e_X12_sell_40, e_X12_sell_41, e_X12_sell_42, e_X12_sell_43, e_X12_sell_44, e_X12_sell_45, e_X12_sell_48, e_X12_sell_51, e_X12_sell_52, e_X12_sell_55, e_X12_sell_57, e_X12_sell_58, e_X12_sell_59, e_X12_sell_60, e_X12_sell_63, e_X12_sell_64, e_X12_sell_66, e_X12_sell_69, c_143, g_143_0, g_143_1, p_143_0, p_143_1, v_refuse, v_no, st_eq, v_isP_no hW hR1 hx, Option.bind_some, Option.isSome_some, Option.toList, List.cons_append, List.nil_append, zclr_i, zclr_r, zclr_n, zfit_i, zfit_l, and_self, if_true, if_false] <;> first | rfl | rfl
end QE
