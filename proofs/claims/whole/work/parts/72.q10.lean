/-! CALLS: year, livingIn, dashesIn -/
section QJ
variable {n m : Nat} {g : Nat → zC} {I I2 T A : Nat → Nat → Int32} {J J2 : Nat → Nat → Int64} {N S N' S' : Nat} {c' : Nat → Int32}
theorem ah_out {a k : Nat} (h : ∀ i, i < 17 → a ≠ 33 + i) : ahead k N I a = I a := by
  unfold ahead
  rw [tYears_out h, tCopy_far h]
theorem keepT_33 {a : Nat} (ha : keepT a = true) : ∀ i, i < 17 → a ≠ 33 + i := by
  intro i hi
  unfold keepT keepI at ha
  simp at ha
  omega
theorem keepU_33 {a : Nat} (ha : keepU a = true) : ∀ i, i < 17 → a ≠ 33 + i := by
  intro i hi
  unfold keepU keepJ at ha
  simp at ha
  omega
theorem cpS_out {J : Nat → Nat → Int64} {a : Nat} (ha : keepU a = true) : cpS 16 33 4 12 (cpS 16 33 1 6 J) a = J a := by
  unfold cpS
  rw [zr_far _ _ (keepU_33 ha 4 (by decide)), zr_far _ _ (keepU_33 ha 1 (by decide))]
/-- looking ahead leaves what is kept -/
theorem Inv.look {w : Int32} {X : Nat → Nat → Int32} {r : Nat → Int32} (h : Inv I J N S) (hX : ∀ a, (∀ i, i < 17 → a ≠ 33 + i) → X a = I a) : Inv (st w (zr X 149 r)) (cpS 16 33 4 12 (cpS 16 33 1 6 J)) N S := by
  have hk : ∀ a, keepT a = true → zr X 149 r a = I a := fun a ha => by rw [zr_far _ _ (keepT_ne ha rfl), hX a (keepT_33 ha)]
  have h3 : zr X 149 r 3 = I 3 := by rw [zr_far _ _ (by decide), hX 3 (fun i _ => by omega)]
  have h143 : zr X 149 r 143 = I 143 := by rw [zr_far _ _ (by decide), hX 143 (fun i _ => by omega)]
  have h1 : Inv (zr X 149 r) (cpS 16 33 4 12 (cpS 16 33 1 6 J)) N S := by
    refine h.same (by rw [h3, h143]; exact h.stq) hk (fun k _ => by rw [h3]) (fun k _ => by rw [h143]) ?_ (fun a ha => cpS_out ha)
    have := h.pt
    unfold pointOk at *
    rw [zr_far _ _ (by decide), hX 71 (fun i _ => by omega)]
    exact this
  exact h1.stI
theorem zr_back {X : Nat → Nat → Int32} {r : Nat → Int32} : zr (zr X 149 r) 148 (X 148) = zr X 149 r := by
  funext a
  unfold zr
  by_cases h : a = 148
  · subst h
    simp
  · simp [h]
theorem st_149b {w : Int32} {r : Nat → Int32} : zu (zr (zu (zu (zu I 3 0 w) 143 1 0) 143 0 0) 149 r) 143 0 w = st w (zr I 149 r) := by
  unfold st
  rw [zr_zu _ _ _ _ _ _ (by decide), zr_zu _ _ _ _ _ _ (by decide), zr_zu _ _ _ _ _ _ (by decide), zu_zu]
theorem st_149 {w : Int32} {r : Nat → Int32} : zr (zu (zu (zu I 3 0 w) 143 1 0) 143 0 w) 149 r = st w (zr I 149 r) := by
  unfold st
  rw [zr_zu _ _ _ _ _ _ (by decide), zr_zu _ _ _ _ _ _ (by decide), zr_zu _ _ _ _ _ _ (by decide)]
theorem q_year {x : Int32} (h : Inv I J N S) (d : Nat) : Eqv (d + 30) 171 333 [.int x] n m g I J := by
  have hW := h.W
  have h12 := hW.h12
  have h6 := hW.h6
  by_cases hin : 1 ≤ x ∧ x ≤ 99
  · obtain ⟨k, hk1, hk9, rfl⟩ := range_nI (lo := 1) (hi := 99) (by decide) (by decide) hin
    have a1 : ¬ nI k < 1 := Int32.not_lt.mpr hin.1
    have a2 : ¬ 99 < nI k := Int32.not_lt.mpr hin.2
    have b2 : nI k ≤ 99 := hin.2
    obtain ⟨y, hy1, hy2, ey⟩ := hW.hY
    have hlt : ((2999 : Int32) < nI (y + k)) = (2999 < y + k) := nI_ltq (a := 2999) (by decide) (by omega)
    have hle : (nI (y + k) ≤ (2999 : Int32)) = (y + k ≤ 2999) := nI_leq (k := 2999) (by omega) (by decide)
    by_cases hk : y + k ≤ 2999
    · have a3 : ¬ (2999 : Int32) < nI (y + k) := by
        rw [hlt]
        omega
      have b3 : nI (y + k) ≤ (2999 : Int32) := by
        rw [hle]
        exact hk
      obtain ⟨w1, wy⟩ := hW.tYears2 ey hy1 k hk
      have hT : ∀ a, (∀ i, i < 17 → a ≠ 16 + i) → (tYears I 16 N k).2 a = I a := fun a ha => tYears_out ha k
      have hR1 : RT I 16 ((zu (zu (zu (tYears I 16 N k).2 3 0 0) 143 1 0) 143 0 0) 148) N S := h.R1 hT
      obtain ⟨c3, e3, r3, f3⟩ := lp_year (n := n) (m := m) (g := g) (J := J) (k := k) (w := sLiv I 16 N) hW (by omega) hR1 (d + 25)
      have hv : (tYears I 16 N k).1 = sLiv I 16 N &&& (sLiv (tYears I 16 N k).2 16 N ^^^ -1) := by
        refine isS_eq (years_spec hW k (by omega)).1 (isS_sub (isS_liv h12) (isS_liv h12)) (fun q _ => ?_)
        by_cases a1 : q < N <;> by_cases a2 : I (16 + 6) q = -1 <;> by_cases a3 : (tYears I 16 N k).2 (16 + 6) q = -1 <;> simp [a1, a2, a3]
      refine ⟨.int (tYears I 16 N k).1, zu (tYears I 16 N k).2 3 0 0, J, st 0 (zr (tYears I 16 N k).2 148 c3), J, N, S, ?_, ?_, h.fin w1 hT r3 f3⟩
      · rw [m_X11_year]
        simp only [e_X11_year_0, e_X11_year_1, e_X11_year_2, e_X11_year_5, e_X11_year_6, e_X11_year_8, e_X11_year_11, e_X11_year_12, e_X11_year_13, e_X11_year_16, e_X11_year_17, e_X11_year_18, e_X11_year_21, e_X11_year_24, e_X11_year_25, e_X11_year_26, e_X11_year_29, e_X11_year_32, e_X11_year_33, e_X11_year_35, e_X11_year_38, e_X11_year_39, e_X11_year_40, e_X11_year_41, e_X11_year_44, e_X11_year_45, e_X11_year_48, e_X11_year_51, c_3, c_4, c_T0 t16, g_3_3, g_3_5, g_3_7, g_3_8, n_refuse, n_deny, n_answer, n_grant, g_T0_0 t16, a1, a2, b2, ey, nI_add, a3, b3, t_passYears t16 h12 hW.yWell (show k < 2 ^ 31 by omega), Option.bind_some, Option.isSome_some, Option.toList, List.cons_append, List.nil_append, zclr_i, zclr_r, zclr_n, zfit_i, zfit_l, and_self, if_true, if_false] <;> first | rfl | simp
      · rw [m_X12_year, ← st_zr]
        have hR3 : RT (tYears I 16 N k).2 16 (zr (zu (zu (zu (tYears I 16 N k).2 3 0 0) 143 1 0) 143 0 0) 148 c3 148) N S := by rw [zr_same]; exact r3
        simp only [e_X12_year_0, e_X12_year_1, e_X12_year_2, e_X12_year_5, e_X12_year_6, e_X12_year_7, e_X12_year_10, e_X12_year_11, e_X12_year_12, e_X12_year_13, e_X12_year_16, e_X12_year_19, e_X12_year_22, e_X12_year_23, e_X12_year_24, e_X12_year_27, e_X12_year_28, e_X12_year_29, e_X12_year_32, e_X12_year_33, e_X12_year_34, e_X12_year_35, e_X12_year_36, e_X12_year_39, e_X12_year_42, e_X12_year_43, e_X12_year_45, e_X12_year_48, e_X12_year_49, e_X12_year_50, e_X12_year_53, e_X12_year_54, e_X12_year_55, e_X12_year_57, e_X12_year_58, e_X12_year_61, e_X12_year_62, e_X12_year_65, e_X12_year_66, e_X12_year_69, e_X12_year_72, e_X12_year_73, e_X12_year_74, e_X12_year_77, e_X12_year_78, e_X12_year_79, e_X12_year_80, c_143, g_143_0, g_143_1, p_143_0, p_143_1, v_refuse, v_no, st_eq, v_isIn (nI k) 1 99 1 99 rfl rfl, hin, decide_true, bI, cA_6, cA_12, cA_18, cA_30, cA_42, cA_54, cA_66, cA_78, cA_90, cA_102, cA_114, cA_126, cA_138, cA_210, cA_222, lc_0, lc_1, lc_2, lc_3, lc_4, lc_5, g_143_20, q_148, hR1.n2, ey, nI_add, a3, b3, v_living hW hR1, Option.bind_some, Option.isSome_some, Option.toList, List.cons_append, List.nil_append, zclr_i, zclr_r, zclr_n, zfit_i, zfit_l, and_self, if_true, if_false]
        refine e3.trans ?_
        rw [e_X12_year_56]
        simp only [e_X12_year_0, e_X12_year_1, e_X12_year_2, e_X12_year_5, e_X12_year_6, e_X12_year_7, e_X12_year_10, e_X12_year_11, e_X12_year_12, e_X12_year_13, e_X12_year_16, e_X12_year_19, e_X12_year_22, e_X12_year_23, e_X12_year_24, e_X12_year_27, e_X12_year_28, e_X12_year_29, e_X12_year_32, e_X12_year_33, e_X12_year_34, e_X12_year_35, e_X12_year_36, e_X12_year_39, e_X12_year_42, e_X12_year_43, e_X12_year_45, e_X12_year_48, e_X12_year_49, e_X12_year_50, e_X12_year_53, e_X12_year_54, e_X12_year_55, e_X12_year_57, e_X12_year_58, e_X12_year_61, e_X12_year_62, e_X12_year_65, e_X12_year_66, e_X12_year_69, e_X12_year_72, e_X12_year_73, e_X12_year_74, e_X12_year_77, e_X12_year_78, e_X12_year_79, e_X12_year_80, c_143, if_pos (nI_le (Nat.le_refl k) (show k < 2 ^ 31 by omega)), v_living w1 hR3, ← hv, Option.bind_some, Option.isSome_some, Option.toList, List.cons_append, List.nil_append, zclr_i, zclr_r, zclr_n, zfit_i, zfit_l, and_self, if_true, if_false]
    · have a3 : (2999 : Int32) < nI (y + k) := by
        rw [hlt]
        omega
      have b3 : ¬ nI (y + k) ≤ (2999 : Int32) := by
        rw [hle]
        exact hk
      refine ⟨.int (-1), zu I 3 0 7, J, st 7 I, J, N, S, ?_, ?_, h.stI⟩
      · rw [m_X11_year]
        simp only [e_X11_year_0, e_X11_year_1, e_X11_year_2, e_X11_year_5, e_X11_year_6, e_X11_year_8, e_X11_year_11, e_X11_year_12, e_X11_year_13, e_X11_year_16, e_X11_year_17, e_X11_year_18, e_X11_year_21, e_X11_year_24, e_X11_year_25, e_X11_year_26, e_X11_year_29, e_X11_year_32, e_X11_year_33, e_X11_year_35, e_X11_year_38, e_X11_year_39, e_X11_year_40, e_X11_year_41, e_X11_year_44, e_X11_year_45, e_X11_year_48, e_X11_year_51, c_3, c_4, c_T0 t16, g_3_3, g_3_5, g_3_7, g_3_8, n_refuse, n_deny, n_answer, n_grant, g_T0_0 t16, a1, a2, b2, ey, nI_add, a3, b3, Option.bind_some, Option.isSome_some, Option.toList, List.cons_append, List.nil_append, zclr_i, zclr_r, zclr_n, zfit_i, zfit_l, and_self, if_true, if_false] <;> first | rfl | simp
      · have hR1 : RT I 16 ((zu (zu (zu I 3 0 7) 143 1 0) 143 0 0) 148) N S := h.R
        rw [m_X12_year]
        simp only [e_X12_year_0, e_X12_year_1, e_X12_year_2, e_X12_year_5, e_X12_year_6, e_X12_year_7, e_X12_year_10, e_X12_year_11, e_X12_year_12, e_X12_year_13, e_X12_year_16, e_X12_year_19, e_X12_year_22, e_X12_year_23, e_X12_year_24, e_X12_year_27, e_X12_year_28, e_X12_year_29, e_X12_year_32, e_X12_year_33, e_X12_year_34, e_X12_year_35, e_X12_year_36, e_X12_year_39, e_X12_year_42, e_X12_year_43, e_X12_year_45, e_X12_year_48, e_X12_year_49, e_X12_year_50, e_X12_year_53, e_X12_year_54, e_X12_year_55, e_X12_year_56, e_X12_year_57, e_X12_year_58, e_X12_year_61, e_X12_year_62, e_X12_year_65, e_X12_year_66, e_X12_year_69, e_X12_year_72, e_X12_year_73, e_X12_year_74, e_X12_year_77, e_X12_year_78, e_X12_year_79, e_X12_year_80, c_143, g_143_0, g_143_1, p_143_0, p_143_1, v_refuse, v_no, st_eq, v_isIn (nI k) 1 99 1 99 rfl rfl, hin, decide_true, bI, cA_6, cA_12, cA_18, cA_30, cA_42, cA_54, cA_66, cA_78, cA_90, cA_102, cA_114, cA_126, cA_138, cA_210, cA_222, lc_0, lc_1, lc_2, lc_3, lc_4, lc_5, g_143_20, q_148, hR1.n2, ey, nI_add, a3, b3, Option.bind_some, Option.isSome_some, Option.toList, List.cons_append, List.nil_append, zclr_i, zclr_r, zclr_n, zfit_i, zfit_l, and_self, if_true, if_false] <;> first | rfl | simp
  · refine ⟨.int (-1), zu I 3 0 5, J, st 5 I, J, N, S, ?_, ?_, h.stI⟩
    · rw [m_X11_year]
      simp only [e_X11_year_0, e_X11_year_1, e_X11_year_2, e_X11_year_5, e_X11_year_6, e_X11_year_8, e_X11_year_11, e_X11_year_12, e_X11_year_13, e_X11_year_16, e_X11_year_17, e_X11_year_18, e_X11_year_21, e_X11_year_24, e_X11_year_25, e_X11_year_26, e_X11_year_29, e_X11_year_32, e_X11_year_33, e_X11_year_35, e_X11_year_38, e_X11_year_39, e_X11_year_40, e_X11_year_41, e_X11_year_44, e_X11_year_45, e_X11_year_48, e_X11_year_51, c_3, c_4, c_T0 t16, g_3_3, g_3_5, g_3_7, g_3_8, n_refuse, n_deny, n_answer, n_grant, bI, Option.bind_some, Option.isSome_some, Option.toList, List.cons_append, List.nil_append, zclr_i, zclr_r, zclr_n, zfit_i, zfit_l, and_self, if_true, if_false] <;> first | rfl | (by_cases q1 : x < 1; simp [q1]; have q2 : 99 < x := Int32.not_le.mp (fun q3 => hin ⟨Int32.not_lt.mp q1, q3⟩); simp [q1, q2, Int32.not_le.mpr q2])
    · have hR1 : RT I 16 ((zu (zu (zu I 3 0 5) 143 1 0) 143 0 0) 148) N S := h.R
      rw [m_X12_year]
      simp only [e_X12_year_0, e_X12_year_1, e_X12_year_2, e_X12_year_5, e_X12_year_6, e_X12_year_7, e_X12_year_10, e_X12_year_11, e_X12_year_12, e_X12_year_13, e_X12_year_16, e_X12_year_19, e_X12_year_22, e_X12_year_23, e_X12_year_24, e_X12_year_27, e_X12_year_28, e_X12_year_29, e_X12_year_32, e_X12_year_33, e_X12_year_34, e_X12_year_35, e_X12_year_36, e_X12_year_39, e_X12_year_42, e_X12_year_43, e_X12_year_45, e_X12_year_48, e_X12_year_49, e_X12_year_50, e_X12_year_53, e_X12_year_54, e_X12_year_55, e_X12_year_56, e_X12_year_57, e_X12_year_58, e_X12_year_61, e_X12_year_62, e_X12_year_65, e_X12_year_66, e_X12_year_69, e_X12_year_72, e_X12_year_73, e_X12_year_74, e_X12_year_77, e_X12_year_78, e_X12_year_79, e_X12_year_80, c_143, g_143_0, g_143_1, p_143_0, p_143_1, v_refuse, v_no, st_eq, v_isIn x 1 99 1 99 rfl rfl, hin, decide_false, bI, Bool.false_eq_true, Option.bind_some, Option.isSome_some, Option.toList, List.cons_append, List.nil_append, zclr_i, zclr_r, zclr_n, zfit_i, zfit_l, and_self, if_true, if_false] <;> first | rfl | (by_cases q1 : x < 1; simp [q1]; have q2 : 99 < x := Int32.not_le.mp (fun q3 => hin ⟨Int32.not_lt.mp q1, q3⟩); simp [q1, q2, Int32.not_le.mpr q2])
theorem q_livingIn {x : Int32} (h : Inv I J N S) (d : Nat) : Eqv (d + 30) 187 363 [.int x] n m g I J := by
  have hW := h.W
  have h12 := hW.h12
  have h6 := hW.h6
  by_cases hin : 0 ≤ x ∧ x ≤ 150
  · obtain ⟨k, hk1, hk9, rfl⟩ := range_nI (lo := 0) (hi := 150) (by decide) (by decide) hin
    have wA : WT (tCopy 16 33 I) 33 N S 2999 := hW.copy ap
    have w1 : WT (ahead k N I) 33 N S (2999 + k) := wA.tYearsU k (by omega)
    have hX : ∀ a, (∀ i, i < 17 → a ≠ 33 + i) → (ahead k N I) a = I a := fun a ha => ah_out ha
    have h148 : (ahead k N I) 148 = I 148 := hX 148 (fun i _ => by omega)
    have hK148 : (zr (zu (zu (zu (ahead k N I) 3 0 0) 143 1 0) 143 0 0) 149 (fun j => if j < 234 then (zu (zu (zu (ahead k N I) 3 0 0) 143 1 0) 143 0 0) 148 j else (zu (zu (zu (ahead k N I) 3 0 0) 143 1 0) 143 0 0) 149 j)) 148 = I 148 := by
      rw [zr_far _ _ (by decide)]
      show (ahead k N I) 148 = I 148
      exact h148
    have hR1 : RT I 16 ((zu (zu (zu (ahead k N I) 3 0 0) 143 1 0) 143 0 0) 148) N S := by
      show RT I 16 ((ahead k N I) 148) N S
      rw [h148]
      exact h.R
    have rA : RT (tCopy 16 33 I) 33 ((zr (zu (zu (zu (ahead k N I) 3 0 0) 143 1 0) 143 0 0) 149 (fun j => if j < 234 then (zu (zu (zu (ahead k N I) 3 0 0) 143 1 0) 143 0 0) 148 j else (zu (zu (zu (ahead k N I) 3 0 0) 143 1 0) 143 0 0) 149 j)) 148) N S := by
      rw [hK148]
      exact h.R.copy hW ap
    obtain ⟨c3, e3, r3, f3⟩ := lp_livingIn (n := n) (m := m) (g := g) (J := cpS 16 33 4 12 (cpS 16 33 1 6 J)) (k := k)  wA (by omega) rA (d + 25)
    have hR3 : RT (ahead k N I) 33 (zr (zr (zu (zu (zu (ahead k N I) 3 0 0) 143 1 0) 143 0 0) 149 (fun j => if j < 234 then (zu (zu (zu (ahead k N I) 3 0 0) 143 1 0) 143 0 0) 148 j else (zu (zu (zu (ahead k N I) 3 0 0) 143 1 0) 143 0 0) 149 j)) 148 c3 148) N S := by rw [zr_same]; exact r3
    have hG := v_gives (n := n) (m := m) (g := g) (J := cpS 16 33 4 12 (cpS 16 33 1 6 J)) (I := zr (zr (zu (zu (zu (ahead k N I) 3 0 0) 143 1 0) 143 0 0) 149 (fun j => if j < 234 then (zu (zu (zu (ahead k N I) 3 0 0) 143 1 0) 143 0 0) 148 j else (zu (zu (zu (ahead k N I) 3 0 0) 143 1 0) 143 0 0) 149 j)) 148 c3) (d + 29)
    have hGr : (fun j => if j < 234 then zr (zr (zu (zu (zu (ahead k N I) 3 0 0) 143 1 0) 143 0 0) 149 (fun j => if j < 234 then (zu (zu (zu (ahead k N I) 3 0 0) 143 1 0) 143 0 0) 148 j else (zu (zu (zu (ahead k N I) 3 0 0) 143 1 0) 143 0 0) 149 j)) 148 c3 149 j else zr (zr (zu (zu (zu (ahead k N I) 3 0 0) 143 1 0) 143 0 0) 149 (fun j => if j < 234 then (zu (zu (zu (ahead k N I) 3 0 0) 143 1 0) 143 0 0) 148 j else (zu (zu (zu (ahead k N I) 3 0 0) 143 1 0) 143 0 0) 149 j)) 148 c3 148 j) = (zu (zu (zu (ahead k N I) 3 0 0) 143 1 0) 143 0 0) 148 := by
      funext j
      rw [zr_same, zr_far _ _ (by decide), zr_same]
      by_cases hj : j < 234
      · simp [hj]
      · rw [if_neg hj, f3 j (by omega), zr_far _ _ (by decide)]
    rw [hGr, zr_zr] at hG
    have hfin : zr (zr (zu (zu (zu (ahead k N I) 3 0 0) 143 1 0) 143 0 0) 149 (fun j => if j < 234 then (zu (zu (zu (ahead k N I) 3 0 0) 143 1 0) 143 0 0) 148 j else (zu (zu (zu (ahead k N I) 3 0 0) 143 1 0) 143 0 0) 149 j)) 148 ((zu (zu (zu (ahead k N I) 3 0 0) 143 1 0) 143 0 0) 148) = (zr (zu (zu (zu (ahead k N I) 3 0 0) 143 1 0) 143 0 0) 149 (fun j => if j < 234 then (zu (zu (zu (ahead k N I) 3 0 0) 143 1 0) 143 0 0) 148 j else (zu (zu (zu (ahead k N I) 3 0 0) 143 1 0) 143 0 0) 149 j)) := zr_back
    rw [hfin] at hG
    refine ⟨.int (sLiv (ahead k N I) 33 N), zu (ahead k N I) 3 0 0, cpS 16 33 4 12 (cpS 16 33 1 6 J), st 0 (zr (ahead k N I) 149 (fun j => if j < 234 then (zu (zu (zu (ahead k N I) 3 0 0) 143 1 0) 143 0 0) 148 j else (zu (zu (zu (ahead k N I) 3 0 0) 143 1 0) 143 0 0) 149 j)), cpS 16 33 4 12 (cpS 16 33 1 6 J), N, S, ?_, ?_, h.look hX⟩
    · rw [m_X11_livingIn]
      simp only [e_X11_livingIn_0, e_X11_livingIn_1, e_X11_livingIn_4, e_X11_livingIn_7, e_X11_livingIn_8, e_X11_livingIn_9, e_X11_livingIn_12, e_X11_livingIn_13, e_X11_livingIn_14, e_X11_livingIn_15, e_X11_livingIn_18, e_X11_livingIn_19, e_X11_livingIn_20, e_X11_livingIn_23, e_X11_livingIn_26, e_X11_livingIn_29, c_3, c_4, c_T0 t16, g_3_3, g_3_5, g_3_7, g_3_8, n_refuse, n_deny, n_answer, n_grant, n_isForecast, hin, decide_true, bI, n_lookAhead h12 hW.yWell (show k < 2 ^ 31 by omega), c_T0 t33, t_living t33 w1.hN h12, liv_eq h12, Option.bind_some, Option.isSome_some, Option.toList, List.cons_append, List.nil_append, zclr_i, zclr_r, zclr_n, zfit_i, zfit_l, and_self, if_true, if_false] <;> first | rfl | simp
    · rw [m_X12_livingIn, ← st_149]
      simp only [e_X12_livingIn_0, e_X12_livingIn_1, e_X12_livingIn_2, e_X12_livingIn_5, e_X12_livingIn_6, e_X12_livingIn_7, e_X12_livingIn_10, e_X12_livingIn_11, e_X12_livingIn_12, e_X12_livingIn_13, e_X12_livingIn_16, e_X12_livingIn_19, e_X12_livingIn_22, e_X12_livingIn_23, e_X12_livingIn_24, e_X12_livingIn_27, e_X12_livingIn_28, e_X12_livingIn_29, e_X12_livingIn_32, e_X12_livingIn_33, e_X12_livingIn_35, e_X12_livingIn_36, e_X12_livingIn_39, e_X12_livingIn_40, e_X12_livingIn_43, e_X12_livingIn_44, e_X12_livingIn_47, e_X12_livingIn_50, e_X12_livingIn_51, e_X12_livingIn_54, e_X12_livingIn_55, e_X12_livingIn_56, e_X12_livingIn_59, e_X12_livingIn_60, c_143, g_143_0, g_143_1, p_143_0, p_143_1, v_refuse, v_no, st_eq, v_isIn (nI k) 0 150 0 150 rfl rfl, hin, decide_true, bI, v_keeps, Option.bind_some, Option.isSome_some, Option.toList, List.cons_append, List.nil_append, zclr_i, zclr_r, zclr_n, zfit_i, zfit_l, and_self, if_true, if_false]
      refine (congrArg (fun o => o) e3).trans ?_
      rw [e_X12_livingIn_34]
      simp only [e_X12_livingIn_0, e_X12_livingIn_1, e_X12_livingIn_2, e_X12_livingIn_5, e_X12_livingIn_6, e_X12_livingIn_7, e_X12_livingIn_10, e_X12_livingIn_11, e_X12_livingIn_12, e_X12_livingIn_13, e_X12_livingIn_16, e_X12_livingIn_19, e_X12_livingIn_22, e_X12_livingIn_23, e_X12_livingIn_24, e_X12_livingIn_27, e_X12_livingIn_28, e_X12_livingIn_29, e_X12_livingIn_32, e_X12_livingIn_33, e_X12_livingIn_35, e_X12_livingIn_36, e_X12_livingIn_39, e_X12_livingIn_40, e_X12_livingIn_43, e_X12_livingIn_44, e_X12_livingIn_47, e_X12_livingIn_50, e_X12_livingIn_51, e_X12_livingIn_54, e_X12_livingIn_55, e_X12_livingIn_56, e_X12_livingIn_59, e_X12_livingIn_60, c_143, g_143_0, g_143_1, p_143_0, p_143_1, v_refuse, v_no, st_eq, if_pos (nI_le (Nat.le_refl k) (show k < 2 ^ 31 by omega)), v_living w1 hR3, hG, Option.bind_some, Option.isSome_some, Option.toList, List.cons_append, List.nil_append, zclr_i, zclr_r, zclr_n, zfit_i, zfit_l, and_self, if_true, if_false] <;> first | rfl | simp
  · refine ⟨.int (-1), zu I 3 0 5, J, st 5 I, J, N, S, ?_, ?_, h.stI⟩
    · rw [m_X11_livingIn]
      simp only [e_X11_livingIn_0, e_X11_livingIn_1, e_X11_livingIn_4, e_X11_livingIn_7, e_X11_livingIn_8, e_X11_livingIn_9, e_X11_livingIn_12, e_X11_livingIn_13, e_X11_livingIn_14, e_X11_livingIn_15, e_X11_livingIn_18, e_X11_livingIn_19, e_X11_livingIn_20, e_X11_livingIn_23, e_X11_livingIn_26, e_X11_livingIn_29, c_3, c_4, c_T0 t16, g_3_3, g_3_5, g_3_7, g_3_8, n_refuse, n_deny, n_answer, n_grant, n_isForecast, hin, decide_false, bI, Bool.false_eq_true, Option.bind_some, Option.isSome_some, Option.toList, List.cons_append, List.nil_append, zclr_i, zclr_r, zclr_n, zfit_i, zfit_l, and_self, if_true, if_false] <;> first | rfl | rfl
    · have hR1 : RT I 16 ((zu (zu (zu I 3 0 5) 143 1 0) 143 0 0) 148) N S := h.R
      rw [m_X12_livingIn]
      simp only [e_X12_livingIn_0, e_X12_livingIn_1, e_X12_livingIn_2, e_X12_livingIn_5, e_X12_livingIn_6, e_X12_livingIn_7, e_X12_livingIn_10, e_X12_livingIn_11, e_X12_livingIn_12, e_X12_livingIn_13, e_X12_livingIn_16, e_X12_livingIn_19, e_X12_livingIn_22, e_X12_livingIn_23, e_X12_livingIn_24, e_X12_livingIn_27, e_X12_livingIn_28, e_X12_livingIn_29, e_X12_livingIn_32, e_X12_livingIn_33, e_X12_livingIn_34, e_X12_livingIn_35, e_X12_livingIn_36, e_X12_livingIn_39, e_X12_livingIn_40, e_X12_livingIn_43, e_X12_livingIn_44, e_X12_livingIn_47, e_X12_livingIn_50, e_X12_livingIn_51, e_X12_livingIn_54, e_X12_livingIn_55, e_X12_livingIn_56, e_X12_livingIn_59, e_X12_livingIn_60, c_143, g_143_0, g_143_1, p_143_0, p_143_1, v_refuse, v_no, st_eq, v_isIn x 0 150 0 150 rfl rfl, hin, decide_false, bI, Bool.false_eq_true, Option.bind_some, Option.isSome_some, Option.toList, List.cons_append, List.nil_append, zclr_i, zclr_r, zclr_n, zfit_i, zfit_l, and_self, if_true, if_false] <;> first | rfl | rfl
theorem q_dashesIn {x : Int32} (h : Inv I J N S) (d : Nat) : Eqv (d + 30) 189 365 [.int x] n m g I J := by
  have hW := h.W
  have h12 := hW.h12
  have h6 := hW.h6
  by_cases hin : 0 ≤ x ∧ x ≤ 150
  · obtain ⟨k, hk1, hk9, rfl⟩ := range_nI (lo := 0) (hi := 150) (by decide) (by decide) hin
    have wA : WT (tCopy 16 33 I) 33 N S 2999 := hW.copy ap
    have w1 : WT (ahead k N I) 33 N S (2999 + k) := wA.tYearsU k (by omega)
    have hX : ∀ a, (∀ i, i < 17 → a ≠ 33 + i) → (ahead k N I) a = I a := fun a ha => ah_out ha
    have h148 : (ahead k N I) 148 = I 148 := hX 148 (fun i _ => by omega)
    have hK148 : (zr (zu (zu (zu (ahead k N I) 3 0 0) 143 1 0) 143 0 0) 149 (fun j => if j < 234 then (zu (zu (zu (ahead k N I) 3 0 0) 143 1 0) 143 0 0) 148 j else (zu (zu (zu (ahead k N I) 3 0 0) 143 1 0) 143 0 0) 149 j)) 148 = I 148 := by
      rw [zr_far _ _ (by decide)]
      show (ahead k N I) 148 = I 148
      exact h148
    have hR1 : RT I 16 ((zu (zu (zu (ahead k N I) 3 0 0) 143 1 0) 143 0 0) 148) N S := by
      show RT I 16 ((ahead k N I) 148) N S
      rw [h148]
      exact h.R
    have rA : RT (tCopy 16 33 I) 33 ((zr (zu (zu (zu (ahead k N I) 3 0 0) 143 1 0) 143 0 0) 149 (fun j => if j < 234 then (zu (zu (zu (ahead k N I) 3 0 0) 143 1 0) 143 0 0) 148 j else (zu (zu (zu (ahead k N I) 3 0 0) 143 1 0) 143 0 0) 149 j)) 148) N S := by
      rw [hK148]
      exact h.R.copy hW ap
    obtain ⟨c3, e3, r3, f3⟩ := lp_dashesIn (n := n) (m := m) (g := g) (J := cpS 16 33 4 12 (cpS 16 33 1 6 J)) (k := k)  wA (by omega) rA (d + 25)
    have hR3 : RT (ahead k N I) 33 (zr (zr (zu (zu (zu (ahead k N I) 3 0 0) 143 1 0) 143 0 0) 149 (fun j => if j < 234 then (zu (zu (zu (ahead k N I) 3 0 0) 143 1 0) 143 0 0) 148 j else (zu (zu (zu (ahead k N I) 3 0 0) 143 1 0) 143 0 0) 149 j)) 148 c3 148) N S := by rw [zr_same]; exact r3
    have hG := v_gives (n := n) (m := m) (g := g) (J := cpS 16 33 4 12 (cpS 16 33 1 6 J)) (I := zr (zr (zu (zu (zu (ahead k N I) 3 0 0) 143 1 0) 143 0 0) 149 (fun j => if j < 234 then (zu (zu (zu (ahead k N I) 3 0 0) 143 1 0) 143 0 0) 148 j else (zu (zu (zu (ahead k N I) 3 0 0) 143 1 0) 143 0 0) 149 j)) 148 c3) (d + 29)
    have hGr : (fun j => if j < 234 then zr (zr (zu (zu (zu (ahead k N I) 3 0 0) 143 1 0) 143 0 0) 149 (fun j => if j < 234 then (zu (zu (zu (ahead k N I) 3 0 0) 143 1 0) 143 0 0) 148 j else (zu (zu (zu (ahead k N I) 3 0 0) 143 1 0) 143 0 0) 149 j)) 148 c3 149 j else zr (zr (zu (zu (zu (ahead k N I) 3 0 0) 143 1 0) 143 0 0) 149 (fun j => if j < 234 then (zu (zu (zu (ahead k N I) 3 0 0) 143 1 0) 143 0 0) 148 j else (zu (zu (zu (ahead k N I) 3 0 0) 143 1 0) 143 0 0) 149 j)) 148 c3 148 j) = (zu (zu (zu (ahead k N I) 3 0 0) 143 1 0) 143 0 0) 148 := by
      funext j
      rw [zr_same, zr_far _ _ (by decide), zr_same]
      by_cases hj : j < 234
      · simp [hj]
      · rw [if_neg hj, f3 j (by omega), zr_far _ _ (by decide)]
    rw [hGr, zr_zr] at hG
    have hfin : zr (zr (zu (zu (zu (ahead k N I) 3 0 0) 143 1 0) 143 0 0) 149 (fun j => if j < 234 then (zu (zu (zu (ahead k N I) 3 0 0) 143 1 0) 143 0 0) 148 j else (zu (zu (zu (ahead k N I) 3 0 0) 143 1 0) 143 0 0) 149 j)) 148 ((zu (zu (zu (ahead k N I) 3 0 0) 143 1 0) 143 0 0) 148) = (zr (zu (zu (zu (ahead k N I) 3 0 0) 143 1 0) 143 0 0) 149 (fun j => if j < 234 then (zu (zu (zu (ahead k N I) 3 0 0) 143 1 0) 143 0 0) 148 j else (zu (zu (zu (ahead k N I) 3 0 0) 143 1 0) 143 0 0) 149 j)) := zr_back
    rw [hfin] at hG
    have sb : sSet (fun p => decide (ahead k N I (33 + 7) p = -1 ∧ ahead k N I (33 + 6) p = -1)) N = sBear (ahead k N I) 33 (-1) N := rfl
    have hl := isS_jbc (isS_bear (A := ahead k N I) (b := 33) (s := -1) h12)
    have hsz := fun H => v_sizeOf (isS_bear (A := ahead k N I) (b := 33) (s := -1) h12) (d + 28) H
    refine ⟨.int (jbc (sBear (ahead k N I) 33 (-1) N)), zu (ahead k N I) 3 0 0, cpS 16 33 4 12 (cpS 16 33 1 6 J), st 0 (zr (ahead k N I) 149 (fun j => if j < 234 then (zu (zu (zu (ahead k N I) 3 0 0) 143 1 0) 143 0 0) 148 j else (zu (zu (zu (ahead k N I) 3 0 0) 143 1 0) 143 0 0) 149 j)), cpS 16 33 4 12 (cpS 16 33 1 6 J), N, S, ?_, ?_, h.look hX⟩
    · rw [m_X11_dashesIn]
      simp only [e_X11_dashesIn_0, e_X11_dashesIn_1, e_X11_dashesIn_4, e_X11_dashesIn_7, e_X11_dashesIn_8, e_X11_dashesIn_9, e_X11_dashesIn_12, e_X11_dashesIn_13, e_X11_dashesIn_14, e_X11_dashesIn_15, e_X11_dashesIn_18, e_X11_dashesIn_19, e_X11_dashesIn_20, e_X11_dashesIn_23, e_X11_dashesIn_26, e_X11_dashesIn_29, e_X11_dashesIn_32, c_3, c_4, c_T0 t16, g_3_3, g_3_5, g_3_7, g_3_8, n_refuse, n_deny, n_answer, n_grant, n_isForecast, hin, decide_true, bI, n_lookAhead h12 hW.yWell (show k < 2 ^ 31 by omega), c_T0 t33, t_dashes t33 w1.hN h12, sb, j_bitCount, Option.bind_some, Option.isSome_some, Option.toList, List.cons_append, List.nil_append, zclr_i, zclr_r, zclr_n, zfit_i, zfit_l, and_self, if_true, if_false] <;> first | rfl | simp
    · rw [m_X12_dashesIn, ← st_149]
      simp only [e_X12_dashesIn_0, e_X12_dashesIn_1, e_X12_dashesIn_2, e_X12_dashesIn_5, e_X12_dashesIn_6, e_X12_dashesIn_7, e_X12_dashesIn_10, e_X12_dashesIn_11, e_X12_dashesIn_12, e_X12_dashesIn_13, e_X12_dashesIn_16, e_X12_dashesIn_19, e_X12_dashesIn_22, e_X12_dashesIn_23, e_X12_dashesIn_24, e_X12_dashesIn_27, e_X12_dashesIn_28, e_X12_dashesIn_29, e_X12_dashesIn_32, e_X12_dashesIn_33, e_X12_dashesIn_35, e_X12_dashesIn_36, e_X12_dashesIn_39, e_X12_dashesIn_40, e_X12_dashesIn_43, e_X12_dashesIn_44, e_X12_dashesIn_47, e_X12_dashesIn_50, e_X12_dashesIn_51, e_X12_dashesIn_54, e_X12_dashesIn_57, e_X12_dashesIn_58, e_X12_dashesIn_59, e_X12_dashesIn_62, e_X12_dashesIn_63, c_143, g_143_0, g_143_1, p_143_0, p_143_1, v_refuse, v_no, st_eq, v_isIn (nI k) 0 150 0 150 rfl rfl, hin, decide_true, bI, v_keeps, Option.bind_some, Option.isSome_some, Option.toList, List.cons_append, List.nil_append, zclr_i, zclr_r, zclr_n, zfit_i, zfit_l, and_self, if_true, if_false]
      refine (congrArg (fun o => o) e3).trans ?_
      rw [e_X12_dashesIn_34]
      simp only [e_X12_dashesIn_0, e_X12_dashesIn_1, e_X12_dashesIn_2, e_X12_dashesIn_5, e_X12_dashesIn_6, e_X12_dashesIn_7, e_X12_dashesIn_10, e_X12_dashesIn_11, e_X12_dashesIn_12, e_X12_dashesIn_13, e_X12_dashesIn_16, e_X12_dashesIn_19, e_X12_dashesIn_22, e_X12_dashesIn_23, e_X12_dashesIn_24, e_X12_dashesIn_27, e_X12_dashesIn_28, e_X12_dashesIn_29, e_X12_dashesIn_32, e_X12_dashesIn_33, e_X12_dashesIn_35, e_X12_dashesIn_36, e_X12_dashesIn_39, e_X12_dashesIn_40, e_X12_dashesIn_43, e_X12_dashesIn_44, e_X12_dashesIn_47, e_X12_dashesIn_50, e_X12_dashesIn_51, e_X12_dashesIn_54, e_X12_dashesIn_57, e_X12_dashesIn_58, e_X12_dashesIn_59, e_X12_dashesIn_62, e_X12_dashesIn_63, c_143, g_143_0, g_143_1, p_143_0, p_143_1, v_refuse, v_no, st_eq, if_pos (nI_le (Nat.le_refl k) (show k < 2 ^ 31 by omega)), v_dashes w1 hR3, hsz, hl, hG, Option.bind_some, Option.isSome_some, Option.toList, List.cons_append, List.nil_append, zclr_i, zclr_r, zclr_n, zfit_i, zfit_l, and_self, if_true, if_false] <;> first | rfl | simp
  · refine ⟨.int (-1), zu I 3 0 5, J, st 5 I, J, N, S, ?_, ?_, h.stI⟩
    · rw [m_X11_dashesIn]
      simp only [e_X11_dashesIn_0, e_X11_dashesIn_1, e_X11_dashesIn_4, e_X11_dashesIn_7, e_X11_dashesIn_8, e_X11_dashesIn_9, e_X11_dashesIn_12, e_X11_dashesIn_13, e_X11_dashesIn_14, e_X11_dashesIn_15, e_X11_dashesIn_18, e_X11_dashesIn_19, e_X11_dashesIn_20, e_X11_dashesIn_23, e_X11_dashesIn_26, e_X11_dashesIn_29, e_X11_dashesIn_32, c_3, c_4, c_T0 t16, g_3_3, g_3_5, g_3_7, g_3_8, n_refuse, n_deny, n_answer, n_grant, n_isForecast, hin, decide_false, bI, Bool.false_eq_true, Option.bind_some, Option.isSome_some, Option.toList, List.cons_append, List.nil_append, zclr_i, zclr_r, zclr_n, zfit_i, zfit_l, and_self, if_true, if_false] <;> first | rfl | rfl
    · have hR1 : RT I 16 ((zu (zu (zu I 3 0 5) 143 1 0) 143 0 0) 148) N S := h.R
      rw [m_X12_dashesIn]
      simp only [e_X12_dashesIn_0, e_X12_dashesIn_1, e_X12_dashesIn_2, e_X12_dashesIn_5, e_X12_dashesIn_6, e_X12_dashesIn_7, e_X12_dashesIn_10, e_X12_dashesIn_11, e_X12_dashesIn_12, e_X12_dashesIn_13, e_X12_dashesIn_16, e_X12_dashesIn_19, e_X12_dashesIn_22, e_X12_dashesIn_23, e_X12_dashesIn_24, e_X12_dashesIn_27, e_X12_dashesIn_28, e_X12_dashesIn_29, e_X12_dashesIn_32, e_X12_dashesIn_33, e_X12_dashesIn_34, e_X12_dashesIn_35, e_X12_dashesIn_36, e_X12_dashesIn_39, e_X12_dashesIn_40, e_X12_dashesIn_43, e_X12_dashesIn_44, e_X12_dashesIn_47, e_X12_dashesIn_50, e_X12_dashesIn_51, e_X12_dashesIn_54, e_X12_dashesIn_57, e_X12_dashesIn_58, e_X12_dashesIn_59, e_X12_dashesIn_62, e_X12_dashesIn_63, c_143, g_143_0, g_143_1, p_143_0, p_143_1, v_refuse, v_no, st_eq, v_isIn x 0 150 0 150 rfl rfl, hin, decide_false, bI, Bool.false_eq_true, Option.bind_some, Option.isSome_some, Option.toList, List.cons_append, List.nil_append, zclr_i, zclr_r, zclr_n, zfit_i, zfit_l, and_self, if_true, if_false] <;> first | rfl | rfl
end QJ
