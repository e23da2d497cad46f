/-! CALLS: die -/
section QB
variable {n m : Nat} {g : Nat → zC} {I I2 T A : Nat → Nat → Int32} {J J2 : Nat → Nat → Int64} {N S N' S' : Nat} {c' : Nat → Int32}
theorem q_die {x : Int32} (h : Inv I J N S) (d : Nat) : Eqv (d + 30) 172 334 [.int x] n m g I J := by
  have hW := h.W
  have h12 := hW.h12
  have h6 := hW.h6
  rcases p_cases x N with ⟨p, hp, rfl⟩ | hx
  · by_cases h1 : I (16 + 6) p = -1
    · have wB := hW.bury (p := p)
      have w1 := wB.settle
      have hT : ∀ a, (∀ i, i < 17 → a ≠ 16 + i) → tSettle (tBury I 16 (qN I 16) p) 16 N a = I a := fun a ha => by rw [settle_out ha, bury_out ha]
      have hR1 : RT I 16 ((zu (zu (zu (tSettle (tBury I 16 (qN I 16) p) 16 N) 3 0 0) 143 1 0) 143 0 0) 148) N S := h.R1 hT
      obtain ⟨c2, e2, r2, f2⟩ := v_dies (n := n) (m := m) (g := g) (J := J) hW hR1 hp (d + 28)
      obtain ⟨c3, e3, r3, f3⟩ := v_settles (n := n) (m := m) (g := g) (J := J) (I := zr (zu (zu (zu (tSettle (tBury I 16 (qN I 16) p) 16 N) 3 0 0) 143 1 0) 143 0 0) 148 c2) wB (by rw [zr_same]; exact r2) (d + 26)
      rw [zr_zr] at e3
      rw [zr_same] at f3
      have hl := isS_jbc (isS_liv (A := tSettle (tBury I 16 (qN I 16) p) 16 N) (b := 16) h12)
      refine ⟨.int (jbc (sLiv (tSettle (tBury I 16 (qN I 16) p) 16 N) 16 N)), zu (tSettle (tBury I 16 (qN I 16) p) 16 N) 3 0 0, J, st 0 (zr (tSettle (tBury I 16 (qN I 16) p) 16 N) 148 c3), J, N, S, ?_, ?_, h.fin w1 hT r3 (fun j hj => by rw [f3 j hj, f2 j hj])⟩
      · rw [m_X11_die]
        have hb := hW.yWell.2.2 p hp
        simp only [e_X11_die_0, e_X11_die_1, e_X11_die_4, e_X11_die_5, e_X11_die_8, e_X11_die_11, e_X11_die_12, e_X11_die_13, e_X11_die_16, e_X11_die_17, e_X11_die_18, e_X11_die_21, e_X11_die_22, e_X11_die_25, e_X11_die_28, e_X11_die_29, e_X11_die_31, e_X11_die_34, e_X11_die_35, e_X11_die_36, e_X11_die_39, e_X11_die_40, e_X11_die_43, e_X11_die_44, e_X11_die_47, e_X11_die_50, e_X11_die_51, e_X11_die_52, e_X11_die_55, e_X11_die_58, e_X11_die_61, e_X11_die_64, c_3, c_4, c_T0 t16, g_3_3, g_3_5, g_3_7, g_3_8, n_refuse, n_deny, n_answer, n_grant, t_hasP_yes t16 hW.hN h12 hp, t_lives t16 (show p < 12 by omega), h1, decide_true, bI, t_bury t16 (show p < 12 by omega) hW.hQ.1 hW.hQ.2 hb, t_settle t16 wB.hN h12 wB.qWell, t_living t16 w1.hN h12, liv_eq h12, j_bitCount, Option.bind_some, Option.isSome_some, Option.toList, List.cons_append, List.nil_append, zclr_i, zclr_r, zclr_n, zfit_i, zfit_l, and_self, if_true, if_false] <;> first | rfl | simp
      · rw [m_X12_die, ← st_zr]
        have hsz := v_sizeOf (isS_liv (A := tSettle (tBury I 16 (qN I 16) p) 16 N) (b := 16) h12) (d + 28) (mk n m g (zr (zu (zu (zu (tSettle (tBury I 16 (qN I 16) p) 16 N) 3 0 0) 143 1 0) 143 0 0) 148 c3) J)
        have hR3 : RT (tSettle (tBury I 16 (qN I 16) p) 16 N) 16 (zr (zu (zu (zu (tSettle (tBury I 16 (qN I 16) p) 16 N) 3 0 0) 143 1 0) 143 0 0) 148 c3 148) N S := by rw [zr_same]; exact r3
        simp only [e_X12_die_0, e_X12_die_1, e_X12_die_2, e_X12_die_5, e_X12_die_6, e_X12_die_7, e_X12_die_10, e_X12_die_11, e_X12_die_12, e_X12_die_15, e_X12_die_18, e_X12_die_19, e_X12_die_20, e_X12_die_23, e_X12_die_24, e_X12_die_25, e_X12_die_26, e_X12_die_29, e_X12_die_32, e_X12_die_33, e_X12_die_35, e_X12_die_38, e_X12_die_39, e_X12_die_40, e_X12_die_41, e_X12_die_44, e_X12_die_45, e_X12_die_48, e_X12_die_49, e_X12_die_52, e_X12_die_55, c_143, g_143_0, g_143_1, p_143_0, p_143_1, v_refuse, v_no, st_eq, v_isP_yes hW hR1 hp, v_lives hW hR1 hp, h1, decide_true, bI, e2, e3, v_living w1 hR3, hsz, hl, Option.bind_some, Option.isSome_some, Option.toList, List.cons_append, List.nil_append, zclr_i, zclr_r, zclr_n, zfit_i, zfit_l, and_self, if_true, if_false] <;> first | rfl | simp
    · refine ⟨.int (-1), zu I 3 0 9, J, st 9 I, J, N, S, ?_, ?_, h.stI⟩
      · rw [m_X11_die]
        simp only [e_X11_die_0, e_X11_die_1, e_X11_die_4, e_X11_die_5, e_X11_die_8, e_X11_die_11, e_X11_die_12, e_X11_die_13, e_X11_die_16, e_X11_die_17, e_X11_die_18, e_X11_die_21, e_X11_die_22, e_X11_die_25, e_X11_die_28, e_X11_die_29, e_X11_die_31, e_X11_die_34, e_X11_die_35, e_X11_die_36, e_X11_die_39, e_X11_die_40, e_X11_die_43, e_X11_die_44, e_X11_die_47, e_X11_die_50, e_X11_die_51, e_X11_die_52, e_X11_die_55, e_X11_die_58, e_X11_die_61, e_X11_die_64, c_3, c_4, c_T0 t16, g_3_3, g_3_5, g_3_7, g_3_8, n_refuse, n_deny, n_answer, n_grant, t_hasP_yes t16 hW.hN h12 hp, t_lives t16 (show p < 12 by omega), h1, decide_false, bI, Bool.false_eq_true, Option.bind_some, Option.isSome_some, Option.toList, List.cons_append, List.nil_append, zclr_i, zclr_r, zclr_n, zfit_i, zfit_l, and_self, if_true, if_false] <;> first | rfl | rfl
      · have hR1 : RT I 16 ((zu (zu (zu I 3 0 9) 143 1 0) 143 0 0) 148) N S := h.R
        rw [m_X12_die]
        simp only [e_X12_die_0, e_X12_die_1, e_X12_die_2, e_X12_die_5, e_X12_die_6, e_X12_die_7, e_X12_die_10, e_X12_die_11, e_X12_die_12, e_X12_die_15, e_X12_die_18, e_X12_die_19, e_X12_die_20, e_X12_die_23, e_X12_die_24, e_X12_die_25, e_X12_die_26, e_X12_die_29, e_X12_die_32, e_X12_die_33, e_X12_die_35, e_X12_die_38, e_X12_die_39, e_X12_die_40, e_X12_die_41, e_X12_die_44, e_X12_die_45, e_X12_die_48, e_X12_die_49, e_X12_die_52, e_X12_die_55, c_143, g_143_0, g_143_1, p_143_0, p_143_1, v_refuse, v_no, st_eq, v_isP_yes hW hR1 hp, v_lives hW hR1 hp, h1, decide_false, bI, Bool.false_eq_true, Option.bind_some, Option.isSome_some, Option.toList, List.cons_append, List.nil_append, zclr_i, zclr_r, zclr_n, zfit_i, zfit_l, and_self, if_true, if_false] <;> first | rfl | rfl
  · refine ⟨.int (-1), zu I 3 0 2, J, st 2 I, J, N, S, ?_, ?_, h.stI⟩
    · rw [m_X11_die]
      simp only [e_X11_die_0, e_X11_die_1, e_X11_die_4, e_X11_die_5, e_X11_die_8, e_X11_die_11, e_X11_die_12, e_X11_die_13, e_X11_die_16, e_X11_die_17, e_X11_die_18, e_X11_die_21, e_X11_die_22, e_X11_die_25, e_X11_die_28, e_X11_die_29, e_X11_die_31, e_X11_die_34, e_X11_die_35, e_X11_die_36, e_X11_die_39, e_X11_die_40, e_X11_die_43, e_X11_die_44, e_X11_die_47, e_X11_die_50, e_X11_die_51, e_X11_die_52, e_X11_die_55, e_X11_die_58, e_X11_die_61, e_X11_die_64, c_3, c_4, c_T0 t16, g_3_3, g_3_5, g_3_7, g_3_8, n_refuse, n_deny, n_answer, n_grant, t_hasP_no t16 hW.hN h12 hx, Option.bind_some, Option.isSome_some, Option.toList, List.cons_append, List.nil_append, zclr_i, zclr_r, zclr_n, zfit_i, zfit_l, and_self, if_true, if_false] <;> first | rfl | rfl
    · have hR1 : RT I 16 ((zu (zu (zu I 3 0 2) 143 1 0) 143 0 0) 148) N S := h.R
      rw [m_X12_die]
      simp only [e_X12_die_0, e_X12_die_1, e_X12_die_2, e_X12_die_5, e_X12_die_6, e_X12_die_7, e_X12_die_10, e_X12_die_11, e_X12_die_12, e_X12_die_15, e_X12_die_18, e_X12_die_19, e_X12_die_20, e_X12_die_23, e_X12_die_24, e_X12_die_25, e_X12_die_26, e_X12_die_29, e_X12_die_32, e_X12_die_33, e_X12_die_35, e_X12_die_38, e_X12_die_39, e_X12_die_40, e_X12_die_41, e_X12_die_44, e_X12_die_45, e_X12_die_48, e_X12_die_49, e_X12_die_52, e_X12_die_55, c_143, g_143_0, g_143_1, p_143_0, p_143_1, v_refuse, v_no, st_eq, v_isP_no hW hR1 hx, Option.bind_some, Option.isSome_some, Option.toList, List.cons_append, List.nil_append, zclr_i, zclr_r, zclr_n, zfit_i, zfit_l, and_self, if_true, if_false] <;> first | rfl | rfl
end QB
