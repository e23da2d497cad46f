/-! CALLS: birth -/
section QI
variable {n m : Nat} {g : Nat → zC} {I I2 T A : Nat → Nat → Int32} {J J2 : Nat → Nat → Int64} {N S N' S' : Nat} {c' : Nat → Int32}
theorem JW.born {J : Nat → Nat → Int64} (h : JW J 16 (J 151) N S) (hN : N < 12) (hS : S ≤ 6) : JW (zu (zu J (16 + 4) N (-1)) 151 (6 + N) 0) 16 (zu (zu J (16 + 4) N (-1)) 151 (6 + N) 0 151) (N + 1) S := by
  obtain ⟨h1, h2⟩ := h
  refine ⟨fun s hs => ?_, fun p hp => ?_⟩
  · rw [zu_far _ _ _ (by decide), zu_far _ _ _ (by decide), zu_row, if_neg (by omega), zu_far _ _ _ (by decide)]
    exact h1 s hs
  · rw [zu_far _ _ _ (by decide), zu_row, zu_row, zu_far _ _ _ (by decide)]
    by_cases e : p = N
    · rw [if_pos e, if_pos (by omega)]
      exact Or.inr ⟨rfl, rfl⟩
    · rw [if_neg e, if_neg (by omega)]
      exact h2 p (by omega)
theorem born_out {a p q : Nat} (h : ∀ i, i < 17 → a ≠ 16 + i) : tBorn 16 N p q I a = I a := tNew_far h
theorem q_birth {x : Int32} {y : Int32} (h : Inv I J N S) (d : Nat) : Eqv (d + 30) 173 338 [.int x, .int y] n m g I J := by
  have hW := h.W
  have h12 := hW.h12
  have h6 := hW.h6
  rcases p_cases x N with ⟨p, hp, rfl⟩ | hx
  · rcases p_cases y N with ⟨q, hq, rfl⟩ | hx
    · cases h1 : tBear I 16 p q
      · refine ⟨.int (-1), zu I 3 0 9, J, st 9 I, J, N, S, ?_, ?_, h.stI⟩
        · rw [m_X11_birth]
          simp only [e_X11_birth_0, e_X11_birth_1, e_X11_birth_2, e_X11_birth_3, e_X11_birth_6, e_X11_birth_9, e_X11_birth_10, e_X11_birth_11, e_X11_birth_14, e_X11_birth_15, e_X11_birth_16, e_X11_birth_19, e_X11_birth_20, e_X11_birth_21, e_X11_birth_24, e_X11_birth_27, e_X11_birth_28, e_X11_birth_30, e_X11_birth_33, e_X11_birth_34, e_X11_birth_35, e_X11_birth_38, e_X11_birth_41, e_X11_birth_44, e_X11_birth_45, e_X11_birth_47, e_X11_birth_50, e_X11_birth_51, e_X11_birth_52, e_X11_birth_55, e_X11_birth_56, e_X11_birth_57, e_X11_birth_60, e_X11_birth_61, e_X11_birth_62, e_X11_birth_65, e_X11_birth_68, e_X11_birth_69, e_X11_birth_70, e_X11_birth_73, c_3, c_4, c_T0 t16, g_3_3, g_3_5, g_3_7, g_3_8, n_refuse, n_deny, n_answer, n_grant, n_are_yes hW hp hq, t_canBear t16 (show p < 12 by omega) (show q < 12 by omega), h1, bI, Bool.false_eq_true, Option.bind_some, Option.isSome_some, Option.toList, List.cons_append, List.nil_append, zclr_i, zclr_r, zclr_n, zfit_i, zfit_l, and_self, if_true, if_false] <;> first | rfl | simp
        · have hR1 : RT I 16 ((zu (zu (zu I 3 0 9) 143 1 0) 143 0 0) 148) N S := h.R
          rw [m_X12_birth]
          simp only [e_X12_birth_0, e_X12_birth_1, e_X12_birth_2, e_X12_birth_5, e_X12_birth_6, e_X12_birth_7, e_X12_birth_10, e_X12_birth_11, e_X12_birth_12, e_X12_birth_15, e_X12_birth_18, e_X12_birth_19, e_X12_birth_20, e_X12_birth_23, e_X12_birth_26, e_X12_birth_27, e_X12_birth_28, e_X12_birth_31, e_X12_birth_32, e_X12_birth_33, e_X12_birth_34, e_X12_birth_35, e_X12_birth_38, e_X12_birth_41, e_X12_birth_42, e_X12_birth_44, e_X12_birth_47, e_X12_birth_48, e_X12_birth_49, e_X12_birth_52, e_X12_birth_53, e_X12_birth_54, e_X12_birth_56, e_X12_birth_59, e_X12_birth_60, e_X12_birth_62, e_X12_birth_65, e_X12_birth_68, e_X12_birth_69, e_X12_birth_70, e_X12_birth_71, e_X12_birth_74, c_143, g_143_0, g_143_1, p_143_0, p_143_1, v_refuse, v_no, st_eq, v_isP_yes hW hR1 hp, v_isP_yes hW hR1 hq, v_areParents hW hR1 hp hq, h1, bI, Bool.false_eq_true, Option.bind_some, Option.isSome_some, Option.toList, List.cons_append, List.nil_append, zclr_i, zclr_r, zclr_n, zfit_i, zfit_l, and_self, if_true, if_false] <;> first | rfl | simp
      · by_cases hN : N < 12
        · have nf : ¬ (12 : Int32) ≤ nI N := fun e => by
            have e2 : nI 12 ≤ nI N := e
            rw [nI_leq (by decide) (by omega)] at e2
            omega
          have ne12 : ¬ nI N = 12 := fun e => by
            have e2 : nI N = nI 12 := e
            rw [nI_eq (by omega) (by omega)] at e2
            omega
          have tb : zu (zu (zu (tAdd I 16 N (I 16 0)) (16 + 7) N (if tUnder I 16 N p = -1 then tUnder I 16 N q else tUnder I 16 N p)) (16 + 10) (2 * N) (nI p)) (16 + 10) (2 * N + 1) (nI q) = tBorn 16 N p q I := rfl
          have wB := hW.bornT hN hp hq
          have w1 := wB.settle
          have hT : ∀ a, (∀ i, i < 17 → a ≠ 16 + i) → (tSettle (tBorn 16 N p q I) 16 (N + 1)) a = I a := fun a ha => by rw [settle_out ha, born_out ha]
          have hR1 : RT I 16 ((zu (zu (zu (tSettle (tBorn 16 N p q I) 16 (N + 1)) 3 0 0) 143 1 0) 143 0 0) 148) N S := h.R1 hT
          obtain ⟨c3, e3, r3, f3⟩ := v_births (n := n) (m := m) (g := g) (J := (zu J (16 + 4) N (-1))) hW hR1 hN hp hq (d + 25)
          refine ⟨.int (nI N), zu (tSettle (tBorn 16 N p q I) 16 (N + 1)) 3 0 0, (zu J (16 + 4) N (-1)), st 0 (zr (tSettle (tBorn 16 N p q I) 16 (N + 1)) 148 c3), zu (zu J (16 + 4) N (-1)) 151 (6 + N) 0, N + 1, S, ?_, ?_, ?_⟩
          · rw [m_X11_birth]
            simp only [e_X11_birth_0, e_X11_birth_1, e_X11_birth_2, e_X11_birth_3, e_X11_birth_6, e_X11_birth_9, e_X11_birth_10, e_X11_birth_11, e_X11_birth_14, e_X11_birth_15, e_X11_birth_16, e_X11_birth_19, e_X11_birth_20, e_X11_birth_21, e_X11_birth_24, e_X11_birth_27, e_X11_birth_28, e_X11_birth_30, e_X11_birth_33, e_X11_birth_34, e_X11_birth_35, e_X11_birth_38, e_X11_birth_41, e_X11_birth_44, e_X11_birth_45, e_X11_birth_47, e_X11_birth_50, e_X11_birth_51, e_X11_birth_52, e_X11_birth_55, e_X11_birth_56, e_X11_birth_57, e_X11_birth_60, e_X11_birth_61, e_X11_birth_62, e_X11_birth_65, e_X11_birth_68, e_X11_birth_69, e_X11_birth_70, e_X11_birth_73, c_3, c_4, c_T0 t16, g_3_3, g_3_5, g_3_7, g_3_8, n_refuse, n_deny, n_answer, n_grant, n_are_yes hW hp hq, t_canBear t16 (show p < 12 by omega) (show q < 12 by omega), h1, bI, t_isFull t16, hW.hN, nf, decide_false, Bool.false_eq_true, t_bear t16 hW.hN hN (show p < 12 by omega) (show q < 12 by omega), tb, t_settle t16 wB.hN (show N + 1 ≤ 12 by omega) wB.qWell, Option.bind_some, Option.isSome_some, Option.toList, List.cons_append, List.nil_append, zclr_i, zclr_r, zclr_n, zfit_i, zfit_l, and_self, if_true, if_false] <;> first | rfl | simp
          · rw [m_X12_birth, ← st_zr]
            simp only [e_X12_birth_0, e_X12_birth_1, e_X12_birth_2, e_X12_birth_5, e_X12_birth_6, e_X12_birth_7, e_X12_birth_10, e_X12_birth_11, e_X12_birth_12, e_X12_birth_15, e_X12_birth_18, e_X12_birth_19, e_X12_birth_20, e_X12_birth_23, e_X12_birth_26, e_X12_birth_27, e_X12_birth_28, e_X12_birth_31, e_X12_birth_32, e_X12_birth_33, e_X12_birth_34, e_X12_birth_35, e_X12_birth_38, e_X12_birth_41, e_X12_birth_42, e_X12_birth_44, e_X12_birth_47, e_X12_birth_48, e_X12_birth_49, e_X12_birth_52, e_X12_birth_53, e_X12_birth_54, e_X12_birth_56, e_X12_birth_59, e_X12_birth_60, e_X12_birth_62, e_X12_birth_65, e_X12_birth_68, e_X12_birth_69, e_X12_birth_70, e_X12_birth_71, e_X12_birth_74, c_143, g_143_0, g_143_1, p_143_0, p_143_1, v_refuse, v_no, st_eq, v_isP_yes hW hR1 hp, v_isP_yes hW hR1 hq, v_areParents hW hR1 hp hq, h1, bI, cA_6, cA_12, cA_18, cA_30, cA_42, cA_54, cA_66, cA_78, cA_90, cA_102, cA_114, cA_126, cA_138, cA_210, cA_222, lc_0, lc_1, lc_2, lc_3, lc_4, lc_5, g_143_20, q_148, hR1.n1, hW.hN, ne12, e3, Option.bind_some, Option.isSome_some, Option.toList, List.cons_append, List.nil_append, zclr_i, zclr_r, zclr_n, zfit_i, zfit_l, and_self, if_true, if_false] <;> first | rfl | simp
          · refine Inv.stI (h.town (by omega) w1 r3 hT (fun j hj => ?_) (JW.born h.jw hN h6) (fun a ha => ?_) (fun k hk => ?_))
            · rw [f3 j hj]
              show (tSettle (tBorn 16 N p q I) 16 (N + 1)) 148 j = I 148 j
              rw [hT 148 (fun i _ => by omega)]
            · rw [zu_far _ _ _ (keepJ_ne ha rfl), zu_far _ _ _ (keepJ_ne ha rfl)]
            · rw [zu_row, if_neg (by omega), zu_far _ _ _ (by decide)]
        · have hN12 : N = 12 := by omega
          refine ⟨.int (-1), zu I 3 0 7, J, st 7 I, J, N, S, ?_, ?_, h.stI⟩
          · rw [m_X11_birth]
            simp only [e_X11_birth_0, e_X11_birth_1, e_X11_birth_2, e_X11_birth_3, e_X11_birth_6, e_X11_birth_9, e_X11_birth_10, e_X11_birth_11, e_X11_birth_14, e_X11_birth_15, e_X11_birth_16, e_X11_birth_19, e_X11_birth_20, e_X11_birth_21, e_X11_birth_24, e_X11_birth_27, e_X11_birth_28, e_X11_birth_30, e_X11_birth_33, e_X11_birth_34, e_X11_birth_35, e_X11_birth_38, e_X11_birth_41, e_X11_birth_44, e_X11_birth_45, e_X11_birth_47, e_X11_birth_50, e_X11_birth_51, e_X11_birth_52, e_X11_birth_55, e_X11_birth_56, e_X11_birth_57, e_X11_birth_60, e_X11_birth_61, e_X11_birth_62, e_X11_birth_65, e_X11_birth_68, e_X11_birth_69, e_X11_birth_70, e_X11_birth_73, c_3, c_4, c_T0 t16, g_3_3, g_3_5, g_3_7, g_3_8, n_refuse, n_deny, n_answer, n_grant, n_are_yes hW hp hq, t_canBear t16 (show p < 12 by omega) (show q < 12 by omega), h1, bI, t_isFull t16, hW.hN, hN12, show ((12 : Int32) ≤ nI 12) = True by decide, decide_true, Option.bind_some, Option.isSome_some, Option.toList, List.cons_append, List.nil_append, zclr_i, zclr_r, zclr_n, zfit_i, zfit_l, and_self, if_true, if_false] <;> first | rfl | simp
          · have hR1 : RT I 16 ((zu (zu (zu I 3 0 7) 143 1 0) 143 0 0) 148) N S := h.R
            rw [m_X12_birth]
            simp only [e_X12_birth_0, e_X12_birth_1, e_X12_birth_2, e_X12_birth_5, e_X12_birth_6, e_X12_birth_7, e_X12_birth_10, e_X12_birth_11, e_X12_birth_12, e_X12_birth_15, e_X12_birth_18, e_X12_birth_19, e_X12_birth_20, e_X12_birth_23, e_X12_birth_26, e_X12_birth_27, e_X12_birth_28, e_X12_birth_31, e_X12_birth_32, e_X12_birth_33, e_X12_birth_34, e_X12_birth_35, e_X12_birth_38, e_X12_birth_41, e_X12_birth_42, e_X12_birth_44, e_X12_birth_47, e_X12_birth_48, e_X12_birth_49, e_X12_birth_52, e_X12_birth_53, e_X12_birth_54, e_X12_birth_56, e_X12_birth_59, e_X12_birth_60, e_X12_birth_62, e_X12_birth_65, e_X12_birth_68, e_X12_birth_69, e_X12_birth_70, e_X12_birth_71, e_X12_birth_74, c_143, g_143_0, g_143_1, p_143_0, p_143_1, v_refuse, v_no, st_eq, v_isP_yes hW hR1 hp, v_isP_yes hW hR1 hq, v_areParents hW hR1 hp hq, h1, bI, cA_6, cA_12, cA_18, cA_30, cA_42, cA_54, cA_66, cA_78, cA_90, cA_102, cA_114, cA_126, cA_138, cA_210, cA_222, lc_0, lc_1, lc_2, lc_3, lc_4, lc_5, g_143_20, q_148, hR1.n1, hW.hN, hN12, show (nI 12 = (12 : Int32)) = True by decide, Option.bind_some, Option.isSome_some, Option.toList, List.cons_append, List.nil_append, zclr_i, zclr_r, zclr_n, zfit_i, zfit_l, and_self, if_true, if_false] <;> first | rfl | simp
    · refine ⟨.int (-1), zu I 3 0 2, J, st 2 I, J, N, S, ?_, ?_, h.stI⟩
      · rw [m_X11_birth]
        simp only [e_X11_birth_0, e_X11_birth_1, e_X11_birth_2, e_X11_birth_3, e_X11_birth_6, e_X11_birth_9, e_X11_birth_10, e_X11_birth_11, e_X11_birth_14, e_X11_birth_15, e_X11_birth_16, e_X11_birth_19, e_X11_birth_20, e_X11_birth_21, e_X11_birth_24, e_X11_birth_27, e_X11_birth_28, e_X11_birth_30, e_X11_birth_33, e_X11_birth_34, e_X11_birth_35, e_X11_birth_38, e_X11_birth_41, e_X11_birth_44, e_X11_birth_45, e_X11_birth_47, e_X11_birth_50, e_X11_birth_51, e_X11_birth_52, e_X11_birth_55, e_X11_birth_56, e_X11_birth_57, e_X11_birth_60, e_X11_birth_61, e_X11_birth_62, e_X11_birth_65, e_X11_birth_68, e_X11_birth_69, e_X11_birth_70, e_X11_birth_73, c_3, c_4, c_T0 t16, g_3_3, g_3_5, g_3_7, g_3_8, n_refuse, n_deny, n_answer, n_grant, n_are_no2 hW hp hx, Option.bind_some, Option.isSome_some, Option.toList, List.cons_append, List.nil_append, zclr_i, zclr_r, zclr_n, zfit_i, zfit_l, and_self, if_true, if_false] <;> first | rfl | rfl
      · have hR1 : RT I 16 ((zu (zu (zu I 3 0 2) 143 1 0) 143 0 0) 148) N S := h.R
        rw [m_X12_birth]
        simp only [e_X12_birth_0, e_X12_birth_1, e_X12_birth_2, e_X12_birth_5, e_X12_birth_6, e_X12_birth_7, e_X12_birth_10, e_X12_birth_11, e_X12_birth_12, e_X12_birth_15, e_X12_birth_18, e_X12_birth_19, e_X12_birth_20, e_X12_birth_23, e_X12_birth_26, e_X12_birth_27, e_X12_birth_28, e_X12_birth_31, e_X12_birth_32, e_X12_birth_33, e_X12_birth_34, e_X12_birth_35, e_X12_birth_38, e_X12_birth_41, e_X12_birth_42, e_X12_birth_44, e_X12_birth_47, e_X12_birth_48, e_X12_birth_49, e_X12_birth_52, e_X12_birth_53, e_X12_birth_54, e_X12_birth_56, e_X12_birth_59, e_X12_birth_60, e_X12_birth_62, e_X12_birth_65, e_X12_birth_68, e_X12_birth_69, e_X12_birth_70, e_X12_birth_71, e_X12_birth_74, c_143, g_143_0, g_143_1, p_143_0, p_143_1, v_refuse, v_no, st_eq, v_isP_yes hW hR1 hp, v_isP_no hW hR1 hx, bI, Option.bind_some, Option.isSome_some, Option.toList, List.cons_append, List.nil_append, zclr_i, zclr_r, zclr_n, zfit_i, zfit_l, and_self, if_true, if_false] <;> first | rfl | rfl
  · refine ⟨.int (-1), zu I 3 0 2, J, st 2 I, J, N, S, ?_, ?_, h.stI⟩
    · rw [m_X11_birth]
      simp only [e_X11_birth_0, e_X11_birth_1, e_X11_birth_2, e_X11_birth_3, e_X11_birth_6, e_X11_birth_9, e_X11_birth_10, e_X11_birth_11, e_X11_birth_14, e_X11_birth_15, e_X11_birth_16, e_X11_birth_19, e_X11_birth_20, e_X11_birth_21, e_X11_birth_24, e_X11_birth_27, e_X11_birth_28, e_X11_birth_30, e_X11_birth_33, e_X11_birth_34, e_X11_birth_35, e_X11_birth_38, e_X11_birth_41, e_X11_birth_44, e_X11_birth_45, e_X11_birth_47, e_X11_birth_50, e_X11_birth_51, e_X11_birth_52, e_X11_birth_55, e_X11_birth_56, e_X11_birth_57, e_X11_birth_60, e_X11_birth_61, e_X11_birth_62, e_X11_birth_65, e_X11_birth_68, e_X11_birth_69, e_X11_birth_70, e_X11_birth_73, c_3, c_4, c_T0 t16, g_3_3, g_3_5, g_3_7, g_3_8, n_refuse, n_deny, n_answer, n_grant, n_are_no1 hW hx, Option.bind_some, Option.isSome_some, Option.toList, List.cons_append, List.nil_append, zclr_i, zclr_r, zclr_n, zfit_i, zfit_l, and_self, if_true, if_false] <;> first | rfl | rfl
    · have hR1 : RT I 16 ((zu (zu (zu I 3 0 2) 143 1 0) 143 0 0) 148) N S := h.R
      rw [m_X12_birth]
      simp only [e_X12_birth_0, e_X12_birth_1, e_X12_birth_2, e_X12_birth_5, e_X12_birth_6, e_X12_birth_7, e_X12_birth_10, e_X12_birth_11, e_X12_birth_12, e_X12_birth_15, e_X12_birth_18, e_X12_birth_19, e_X12_birth_20, e_X12_birth_23, e_X12_birth_26, e_X12_birth_27, e_X12_birth_28, e_X12_birth_31, e_X12_birth_32, e_X12_birth_33, e_X12_birth_34, e_X12_birth_35, e_X12_birth_38, e_X12_birth_41, e_X12_birth_42, e_X12_birth_44, e_X12_birth_47, e_X12_birth_48, e_X12_birth_49, e_X12_birth_52, e_X12_birth_53, e_X12_birth_54, e_X12_birth_56, e_X12_birth_59, e_X12_birth_60, e_X12_birth_62, e_X12_birth_65, e_X12_birth_68, e_X12_birth_69, e_X12_birth_70, e_X12_birth_71, e_X12_birth_74, c_143, g_143_0, g_143_1, p_143_0, p_143_1, v_refuse, v_no, st_eq, v_isP_no hW hR1 hx, Option.bind_some, Option.isSome_some, Option.toList, List.cons_append, List.nil_append, zclr_i, zclr_r, zclr_n, zfit_i, zfit_l, and_self, if_true, if_false] <;> first | rfl | rfl
end QI
