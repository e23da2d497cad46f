/-! COUPLES, COUPLES OF -/
section MG
variable {n m : Nat} {g : Nat → zC} {I X A : Nat → Nat → Int32} {J : Nat → Nat → Int64} {N S U b : Nat}
theorem keepT_row {a : Nat} (ha : keepT a = true) : a ≠ 67 ∧ a ≠ 68 ∧ a ≠ 3 ∧ a ≠ 143 ∧ a ≠ 153 := ⟨keepT_ne ha rfl, keepT_ne ha rfl, keepT_ne ha rfl, keepT_ne ha rfl, keepT_ne ha rfl⟩
theorem Inv.couples {x : Nat → Int32} (h : Inv I J N S) (hX : ∀ a, a ≠ 67 → a ≠ 68 → X a = I a) : Inv (zr ((zu (zu (zu X 3 0 0) 143 1 0) 143 0 0)) 153 x) J N S := by
  refine h.same ?_ (fun a ha => ?_) (fun k hk => ?_) (fun k hk => ?_) ?_ (fun _ _ => rfl)
  · rw [zr_far _ _ (by decide), zr_far _ _ (by decide)]
    simp [zu_row, zu_far]
  · obtain ⟨h1, h2, h3, h4, h5⟩ := keepT_row ha
    rw [zr_far _ _ h5, zu_far _ _ _ h4, zu_far _ _ _ h4, zu_far _ _ _ h3]
    exact hX a h1 h2
  · rw [zr_far _ _ (by decide), zu_far _ _ _ (by decide), zu_far _ _ _ (by decide), zu_row, if_neg hk, hX 3 (by decide) (by decide)]
  · rw [zr_far _ _ (by decide), zu_row, zu_row, if_neg (by omega), if_neg (by omega), zu_far _ _ _ (by decide), hX 143 (by decide) (by decide)]
  · have := h.pt
    unfold pointOk at *
    rw [zr_far _ _ (by decide), zu_far _ _ _ (by decide), zu_far _ _ _ (by decide), zu_far _ _ _ (by decide), hX _ (by decide) (by decide)]
    exact this
theorem q_couples (h : Inv I J N S) (d : Nat) : Eqv (d + 30) 192 369 [] n m g I J := by
  have hW := h.W
  have h12 := hW.h12
  obtain ⟨h1, h2⟩ := wTable_eq (I := I) (s := -1) t16 h12 (Or.inl rfl)
  have hcl := w_mostCouples (n := n) (m := m) (g := g) (J := J) (s := -1) t16 hW.hN h12 (d + 24)
  rw [h2] at hcl
  have hR1 : RT I 16 (((zu (zu (zu (wTable I 16 N (-1)) 3 0 0) 143 1 0) 143 0 0)) 148) N S := by
    show RT I 16 (wTable I 16 N (-1) 148) N S
    rw [h1 148 (by decide) (by decide)]
    exact h.R
  obtain ⟨x, e1⟩ := v_mostCouples (n := n) (m := m) (g := g) (J := J) (s := -1) (Or.inl rfl) hW hR1 (d + 23)
  refine ⟨.int (nI (tau (cn I 16 N (-1)) (2 ^ N - 1))), zu (wTable I 16 N (-1)) 3 0 0, J, _, J, N, S, ?_, ?_, h.couples (x := x) h1⟩
  · rw [m_X11_couples]
    simp only [e_X11_couples_0, e_X11_couples_1, e_X11_couples_2, e_X11_couples_5, e_X11_couples_6, e_X11_couples_9, e_X11_couples_10, e_X11_couples_13, e_X11_couples_16, c_3, c_66, c_T0 t16, g_3_7, g_3_13, hcl, n_answer, Option.bind_some, Option.isSome_some, Option.toList, List.cons_append, List.nil_append, zclr_i, zclr_r, zclr_n, zfit_i, zfit_l, and_self, if_true, if_false]
  · rw [m_X12_couples]
    simp only [e_X12_couples_0, e_X12_couples_1, e_X12_couples_2, e_X12_couples_5, e_X12_couples_6, e_X12_couples_7, e_X12_couples_10, e_X12_couples_11, e_X12_couples_12, e_X12_couples_15, c_143, g_143_0, g_143_1, p_143_0, p_143_1, e1, Option.bind_some, Option.isSome_some, Option.toList, List.cons_append, List.nil_append, zclr_i, zclr_r, zclr_n, zfit_i, zfit_l, and_self, if_true, if_false]
theorem q_couplesOf {x : Int32} (h : Inv I J N S) (d : Nat) : Eqv (d + 30) 193 370 [.int x] n m g I J := by
  have hW := h.W
  have h12 := hW.h12
  have h6 := hW.h6
  rcases p_cases x S with ⟨k, hk, rfl⟩ | hx
  · have hs : nI k = -1 ∨ ∃ j, j < 6 ∧ nI k = nI j := Or.inr ⟨k, by omega, rfl⟩
    obtain ⟨h1, h2⟩ := wTable_eq (I := I) (s := nI k) t16 h12 hs
    have hcl := w_mostCouples (n := n) (m := m) (g := g) (J := J) (s := nI k) t16 hW.hN h12 (d + 24)
    rw [h2] at hcl
    have hR1 : RT I 16 (((zu (zu (zu (wTable I 16 N (nI k)) 3 0 0) 143 1 0) 143 0 0)) 148) N S := by
      show RT I 16 (wTable I 16 N (nI k) 148) N S
      rw [h1 148 (by decide) (by decide)]
      exact h.R
    obtain ⟨x, e1⟩ := v_mostCouples (n := n) (m := m) (g := g) (J := J) (s := nI k) hs hW hR1 (d + 23)
    refine ⟨.int (nI (tau (cn I 16 N (nI k)) (2 ^ N - 1))), zu (wTable I 16 N (nI k)) 3 0 0, J, _, J, N, S, ?_, ?_, h.couples (x := x) h1⟩
    · rw [m_X11_couplesOf]
      simp only [e_X11_couplesOf_0, e_X11_couplesOf_1, e_X11_couplesOf_4, e_X11_couplesOf_5, e_X11_couplesOf_8, e_X11_couplesOf_11, e_X11_couplesOf_12, e_X11_couplesOf_13, e_X11_couplesOf_16, e_X11_couplesOf_17, e_X11_couplesOf_18, e_X11_couplesOf_19, e_X11_couplesOf_22, e_X11_couplesOf_23, e_X11_couplesOf_26, e_X11_couplesOf_27, e_X11_couplesOf_30, e_X11_couplesOf_33, c_3, c_66, c_T0 t16, g_3_7, g_3_13, t_hasS_yes t16 hW.hS h6 hk, hcl, n_answer, Option.bind_some, Option.isSome_some, Option.toList, List.cons_append, List.nil_append, zclr_i, zclr_r, zclr_n, zfit_i, zfit_l, and_self, if_true, if_false] <;> first | rfl | rfl
    · rw [m_X12_couplesOf]
      simp only [e_X12_couplesOf_0, e_X12_couplesOf_1, e_X12_couplesOf_2, e_X12_couplesOf_5, e_X12_couplesOf_6, e_X12_couplesOf_7, e_X12_couplesOf_10, e_X12_couplesOf_11, e_X12_couplesOf_12, e_X12_couplesOf_15, e_X12_couplesOf_18, e_X12_couplesOf_19, e_X12_couplesOf_20, e_X12_couplesOf_23, e_X12_couplesOf_26, e_X12_couplesOf_27, e_X12_couplesOf_28, e_X12_couplesOf_31, c_143, g_143_0, g_143_1, p_143_0, p_143_1, v_isS_yes hW hR1 hk, e1, Option.bind_some, Option.isSome_some, Option.toList, List.cons_append, List.nil_append, zclr_i, zclr_r, zclr_n, zfit_i, zfit_l, and_self, if_true, if_false] <;> first | rfl | rfl
  · refine ⟨.int (-1), zu I 3 0 2, J, st 2 I, J, N, S, ?_, ?_, h.stI⟩
    · rw [m_X11_couplesOf]
      simp only [e_X11_couplesOf_0, e_X11_couplesOf_1, e_X11_couplesOf_4, e_X11_couplesOf_5, e_X11_couplesOf_8, e_X11_couplesOf_11, e_X11_couplesOf_12, e_X11_couplesOf_13, e_X11_couplesOf_16, e_X11_couplesOf_17, e_X11_couplesOf_18, e_X11_couplesOf_19, e_X11_couplesOf_22, e_X11_couplesOf_23, e_X11_couplesOf_26, e_X11_couplesOf_27, e_X11_couplesOf_30, e_X11_couplesOf_33, c_3, c_T0 t16, g_3_7, n_refuse, t_hasS_no t16 hW.hS h6 hx, Option.bind_some, Option.isSome_some, Option.toList, List.cons_append, List.nil_append, zclr_i, zclr_r, zclr_n, zfit_i, zfit_l, and_self, if_true, if_false] <;> first | rfl | rfl
    · have hR1 : RT I 16 ((zu (zu (zu I 3 0 2) 143 1 0) 143 0 0) 148) N S := h.R
      rw [m_X12_couplesOf]
      simp only [e_X12_couplesOf_0, e_X12_couplesOf_1, e_X12_couplesOf_2, e_X12_couplesOf_5, e_X12_couplesOf_6, e_X12_couplesOf_7, e_X12_couplesOf_10, e_X12_couplesOf_11, e_X12_couplesOf_12, e_X12_couplesOf_15, e_X12_couplesOf_18, e_X12_couplesOf_19, e_X12_couplesOf_20, e_X12_couplesOf_23, e_X12_couplesOf_26, e_X12_couplesOf_27, e_X12_couplesOf_28, e_X12_couplesOf_31, c_143, g_143_0, g_143_1, p_143_0, p_143_1, v_refuse, st_eq, v_isS_no hW hR1 hx, Option.bind_some, Option.isSome_some, Option.toList, List.cons_append, List.nil_append, zclr_i, zclr_r, zclr_n, zfit_i, zfit_l, and_self, if_true, if_false] <;> first | rfl | rfl
end MG
