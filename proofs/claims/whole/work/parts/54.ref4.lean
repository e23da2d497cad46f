/-! THE REFERENCE: births, weddings, sales, swaps -/
section RI
variable {n m : Nat} {g : Nat → zC} {I A A' : Nat → Nat → Int32} {J : Nat → Nat → Int64} {b N S U : Nat}
def cBorn (c : Nat → Int32) (N : Nat) (y u v : Int32) : Nat → Int32 := fu (fu (fu (fu (fu (fu (fu (fu (fu (fu (fu (fu (fu c 1 (nI (N + 1))) (30 + N) (-1)) (78 + N) (-1)) (90 + N) (-1)) (102 + N) (-1)) (18 + N) y) (42 + N) 0) (54 + N) 0) (66 + N) 0) (114 + N) 0) (126 + N) 0) (90 + N) u) (102 + N) v
theorem RT.bornC {c : Nat → Int32} {y x u v : Int32} (h : RT A b c N S) (hW : WT A b N S U) (hN : N < 12) : RT (tNewA A b N y x u v) b (fu (cBorn c N y u v) (30 + N) x) (N + 1) S := by
  refine h.born1 hW hN ?_ ?_ ?_ ?_ ?_ ?_ ?_ ?_ ?_ ?_ ?_ ?_
  · rw [fu_ne _ _ (by omega)]
    unfold cBorn
    rw [fu_ne _ _ (by omega), fu_ne _ _ (by omega), fu_ne _ _ (by omega), fu_ne _ _ (by omega), fu_ne _ _ (by omega), fu_ne _ _ (by omega), fu_ne _ _ (by omega), fu_ne _ _ (by omega), fu_ne _ _ (by omega), fu_ne _ _ (by omega), fu_ne _ _ (by omega), fu_ne _ _ (by omega), fu_eq]
  · intro j _ h1 h18 h30 h42 h54 h66 h78 h90 h102 h114 h126
    unfold cBorn
    rw [fu_ne _ _ h30, fu_ne _ _ h102, fu_ne _ _ h90, fu_ne _ _ h126, fu_ne _ _ h114, fu_ne _ _ h66, fu_ne _ _ h54, fu_ne _ _ h42, fu_ne _ _ h18, fu_ne _ _ h102, fu_ne _ _ h90, fu_ne _ _ h78, fu_ne _ _ h30, fu_ne _ _ h1]
  · simp [cBorn, fu]
  · simp [cBorn, fu]
  · simp [cBorn, fu]
  · simp [cBorn, fu]
  · simp [cBorn, fu]
  · simp [cBorn, fu]
  · simp [cBorn, fu]
  · simp [cBorn, fu]
  · simp [cBorn, fu]
  · simp [cBorn, fu]
theorem cBorn_far {c : Nat → Int32} {y u v : Int32} {j : Nat} (hN : N < 12) (hj : 234 ≤ j) : cBorn c N y u v j = c j := by
  unfold cBorn
  rw [fu_ne _ _ (by omega), fu_ne _ _ (by omega), fu_ne _ _ (by omega), fu_ne _ _ (by omega), fu_ne _ _ (by omega), fu_ne _ _ (by omega), fu_ne _ _ (by omega), fu_ne _ _ (by omega), fu_ne _ _ (by omega), fu_ne _ _ (by omega), fu_ne _ _ (by omega), fu_ne _ _ (by omega), fu_ne _ _ (by omega)]
theorem cBorn_30 {c : Nat → Int32} {y u v : Int32} (hN : N < 12) : fu (cBorn c N y u v) (30 + N) (-1) = cBorn c N y u v := by
  funext j
  by_cases h : j = 30 + N
  · subst h
    rw [fu_eq]
    simp [cBorn, fu]
  · rw [fu_ne _ _ h]
theorem v_bares {B p : Nat} (h : B + 102 + p < 2530) (d : Nat) : zcall d 291 [.ref 143, .int (nI B), .int (nI p)] (mk n m g I J) = some (none, mk n m g (zr I 148 (fu (fu (fu (fu (I 148) (B + 30 + p) (-1)) (B + 78 + p) (-1)) (B + 90 + p) (-1)) (B + 102 + p) (-1))) J) := by
  rw [m_X12_bares]
  have a30 : nI B + 30 = nI (B + 30) := nI_add B 30
  have a78 : nI B + 78 = nI (B + 78) := nI_add B 78
  have a90 : nI B + 90 = nI (B + 90) := nI_add B 90
  have a102 : nI B + 102 = nI (B + 102) := nI_add B 102
  simp only [e_X12_bares_0, e_X12_bares_1, e_X12_bares_4, e_X12_bares_5, e_X12_bares_7, e_X12_bares_8, e_X12_bares_9, e_X12_bares_10, e_X12_bares_11, e_X12_bares_12, e_X12_bares_13, e_X12_bares_16, e_X12_bares_17, e_X12_bares_19, e_X12_bares_20, e_X12_bares_21, e_X12_bares_22, e_X12_bares_23, e_X12_bares_24, e_X12_bares_25, e_X12_bares_28, e_X12_bares_29, e_X12_bares_31, e_X12_bares_32, e_X12_bares_33, e_X12_bares_34, e_X12_bares_35, e_X12_bares_36, e_X12_bares_37, e_X12_bares_40, e_X12_bares_41, e_X12_bares_43, e_X12_bares_44, e_X12_bares_45, e_X12_bares_46, e_X12_bares_47, e_X12_bares_48, g_143_20, q_148, a30, a78, a90, a102, nI_add, nI_neg (show B + 30 + p < 2 ^ 31 by omega), nI_clamp (show B + 30 + p < 2 ^ 31 by omega), k_148 (show B + 30 + p < 2530 by omega), l_148 (show B + 30 + p < 2530 by omega), nI_neg (show B + 78 + p < 2 ^ 31 by omega), nI_clamp (show B + 78 + p < 2 ^ 31 by omega), k_148 (show B + 78 + p < 2530 by omega), l_148 (show B + 78 + p < 2530 by omega), nI_neg (show B + 90 + p < 2 ^ 31 by omega), nI_clamp (show B + 90 + p < 2 ^ 31 by omega), k_148 (show B + 90 + p < 2530 by omega), l_148 (show B + 90 + p < 2530 by omega), nI_neg (show B + 102 + p < 2 ^ 31 by omega), nI_clamp (show B + 102 + p < 2 ^ 31 by omega), k_148 (show B + 102 + p < 2530 by omega), l_148 (show B + 102 + p < 2530 by omega), Option.bind_some, Option.isSome_some, Option.toList, List.cons_append, List.nil_append, zclr_i, zclr_r, zclr_n, zfit_i, zfit_l, and_self, if_true, if_false]
  simp only [zu_148, zr_same, zr_zr]
theorem WT.bears_ok {p : Nat} (hW : WT A b N S U) (hp : p < N) : tUnder A b N p = -1 ∨ ∃ s, s < S ∧ tUnder A b N p = nI s := by
  unfold tUnder
  split
  · exact hW.bears p hp
  · exact Or.inl rfl
theorem WT.bornT {p q : Nat} (hW : WT A b N S U) (hN : N < 12) (hp : p < N) (hq : q < N) : WT (tBorn b N p q A) b (N + 1) S U := by
  refine hW.born1 hN hW.hY ?_ (Or.inr ⟨p, by omega, rfl⟩) (Or.inr ⟨q, by omega, rfl⟩)
  split
  · exact hW.bears_ok hq
  · exact hW.bears_ok hp
theorem v_births {p q : Nat} (hW : WT A b N S U) (hR : RT A b (I 148) N S) (hN : N < 12) (hp : p < N) (hq : q < N) (d : Nat) : ∃ c', zcall (d + 4) 337 [.ref 143, .int (nI p), .int (nI q)] (mk n m g I J) = some (some (.int (nI N)), mk n m g (zr I 148 c') (zu J 151 (6 + N) 0)) ∧ RT (tSettle (tBorn b N p q A) b (N + 1)) b c' (N + 1) S ∧ ∀ j, 234 ≤ j → c' j = I 148 j := by
  have r1 : RT (tNewA A b N (A b 0) (-1) (nI p) (nI q)) b (cBorn (I 148) N (A b 0) (nI p) (nI q)) (N + 1) S := by
    have := hR.bornC (y := A b 0) (x := -1) (u := nI p) (v := nI q) hW hN
    rw [cBorn_30 hN] at this
    exact this
  have w1 : WT (tNewA A b N (A b 0) (-1) (nI p) (nI q)) b (N + 1) S U := hW.born1 hN hW.hY (Or.inl rfl) (Or.inr ⟨p, by omega, rfl⟩) (Or.inr ⟨q, by omega, rfl⟩)
  have hb0 := v_bares (n := n) (m := m) (g := g) (J := zu J 151 (6 + N) 0) (I := zr I 148 (fu (I 148) 1 (nI (N + 1)))) (B := 0) (p := N) (by omega) (d + 3)
  rw [zr_zr, zr_same] at hb0
  have hb1 : zcall (d + 3) 291 [.ref 143, .int 0, .int (nI N)] (mk n m g (zr I 148 (fu (I 148) 1 (nI (N + 1)))) (zu J 151 (6 + N) 0)) = some (none, mk n m g (zr I 148 (fu (fu (fu (fu (fu (I 148) 1 (nI (N + 1))) (30 + N) (-1)) (78 + N) (-1)) (90 + N) (-1)) (102 + N) (-1))) (zu J 151 (6 + N) 0)) := by
    simp only [Nat.zero_add] at hb0
    exact hb0
  have hst : zcall (d + 4) 337 [.ref 143, .int (nI p), .int (nI q)] (mk n m g I J) = zexec (d + 4) 337 118 [some (.ref 143), some (.int (nI p)), some (.int (nI q)), some (.int (nI N)), none] [] (mk n m g (zr I 148 (cBorn (I 148) N (A b 0) (nI p) (nI q))) (zu J 151 (6 + N) 0)) := by
    rw [m_X12_births]
    simp only [e_X12_births_0, e_X12_births_1, e_X12_births_4, e_X12_births_5, e_X12_births_6, e_X12_births_7, e_X12_births_8, e_X12_births_11, e_X12_births_12, e_X12_births_13, e_X12_births_14, e_X12_births_15, e_X12_births_16, e_X12_births_17, e_X12_births_18, e_X12_births_21, e_X12_births_23, e_X12_births_24, e_X12_births_25, e_X12_births_26, e_X12_births_27, e_X12_births_28, e_X12_births_29, e_X12_births_30, cA_6, cA_12, cA_18, cA_30, cA_42, cA_54, cA_66, cA_78, cA_90, cA_102, cA_114, cA_126, cA_138, cA_210, cA_222, lc_0, lc_1, lc_2, lc_3, lc_4, lc_5, g_143_20, q_148, nI_neg (show 1 < 2 ^ 31 by omega), nI_clamp (show 1 < 2 ^ 31 by omega), k_148 (show 1 < 2530 by omega), l_148 (show 1 < 2530 by omega), g_143_23, ltc_1, clc_1, hW.c1 hR, nI_1, nI_neg (show 6 + N < 2 ^ 31 by omega), nI_clamp (show 6 + N < 2 ^ 31 by omega), k_151 (show 6 + N < 90 by omega), q_151, c_143, Option.bind_some, Option.isSome_some, Option.toList, List.cons_append, List.nil_append, zclr_i, zclr_r, zclr_n, zfit_i, zfit_l, and_self, if_true, if_false]
    rw [zu_fu, hb1]
    have hy : zr I 148 (fu (fu (fu (fu (fu (I 148) 1 (nI (N + 1))) (30 + N) (-1)) (78 + N) (-1)) (90 + N) (-1)) (102 + N) (-1)) 148 2 = A b 0 := by
      rw [zr_same, fu_ne _ _ (by omega), fu_ne _ _ (by omega), fu_ne _ _ (by omega), fu_ne _ _ (by omega), fu_ne _ _ (by omega), hR.n2]
    simp only [e_X12_births_33, e_X12_births_34, e_X12_births_37, e_X12_births_39, e_X12_births_40, e_X12_births_41, e_X12_births_42, e_X12_births_45, e_X12_births_46, e_X12_births_47, e_X12_births_48, e_X12_births_49, e_X12_births_52, e_X12_births_54, e_X12_births_55, e_X12_births_56, e_X12_births_57, e_X12_births_58, e_X12_births_59, e_X12_births_62, e_X12_births_64, e_X12_births_65, e_X12_births_66, e_X12_births_67, e_X12_births_68, e_X12_births_69, e_X12_births_72, e_X12_births_74, e_X12_births_75, e_X12_births_76, e_X12_births_77, e_X12_births_78, e_X12_births_79, e_X12_births_82, e_X12_births_84, e_X12_births_85, e_X12_births_86, e_X12_births_87, e_X12_births_88, e_X12_births_89, e_X12_births_92, e_X12_births_94, e_X12_births_95, e_X12_births_96, e_X12_births_97, e_X12_births_98, e_X12_births_99, e_X12_births_102, e_X12_births_104, e_X12_births_105, e_X12_births_106, e_X12_births_107, e_X12_births_108, e_X12_births_109, e_X12_births_112, e_X12_births_114, e_X12_births_115, e_X12_births_116, e_X12_births_117, cA_6, cA_12, cA_18, cA_30, cA_42, cA_54, cA_66, cA_78, cA_90, cA_102, cA_114, cA_126, cA_138, cA_210, cA_222, lc_0, lc_1, lc_2, lc_3, lc_4, lc_5, g_143_20, q_148, nI_neg (show 18 + N < 2 ^ 31 by omega), nI_clamp (show 18 + N < 2 ^ 31 by omega), k_148 (show 18 + N < 2530 by omega), l_148 (show 18 + N < 2530 by omega), nI_neg (show 42 + N < 2 ^ 31 by omega), nI_clamp (show 42 + N < 2 ^ 31 by omega), k_148 (show 42 + N < 2530 by omega), l_148 (show 42 + N < 2530 by omega), nI_neg (show 54 + N < 2 ^ 31 by omega), nI_clamp (show 54 + N < 2 ^ 31 by omega), k_148 (show 54 + N < 2530 by omega), l_148 (show 54 + N < 2530 by omega), nI_neg (show 66 + N < 2 ^ 31 by omega), nI_clamp (show 66 + N < 2 ^ 31 by omega), k_148 (show 66 + N < 2530 by omega), l_148 (show 66 + N < 2530 by omega), nI_neg (show 114 + N < 2 ^ 31 by omega), nI_clamp (show 114 + N < 2 ^ 31 by omega), k_148 (show 114 + N < 2530 by omega), l_148 (show 114 + N < 2530 by omega), nI_neg (show 126 + N < 2 ^ 31 by omega), nI_clamp (show 126 + N < 2 ^ 31 by omega), k_148 (show 126 + N < 2530 by omega), l_148 (show 126 + N < 2530 by omega), nI_neg (show 90 + N < 2 ^ 31 by omega), nI_clamp (show 90 + N < 2 ^ 31 by omega), k_148 (show 90 + N < 2530 by omega), l_148 (show 90 + N < 2530 by omega), nI_neg (show 102 + N < 2 ^ 31 by omega), nI_clamp (show 102 + N < 2 ^ 31 by omega), k_148 (show 102 + N < 2530 by omega), l_148 (show 102 + N < 2530 by omega), hy, zu_zr, Option.bind_some, Option.isSome_some, Option.toList, List.cons_append, List.nil_append, zclr_i, zclr_r, zclr_n, zfit_i, zfit_l, and_self, if_true, if_false]
    rfl
  have hRm : RT (tNewA A b N (A b 0) (-1) (nI p) (nI q)) b (zr I 148 (cBorn (I 148) N (A b 0) (nI p) (nI q)) 148) (N + 1) S := by rw [zr_same]; exact r1
  have e7 : ∀ j, j < N → cBorn (I 148) N (A b 0) (nI p) (nI q) (30 + j) = A (b + 7) j := fun j hj => by
    rw [r1.bears j (by omega), tNew_7, fu_ne _ _ (by omega)]
  have hfr : ∀ s : Int32, s ≠ -1 → (tFr (tNewA A b N (A b 0) (-1) (nI p) (nI q)) b s (N + 1) = 0) = ¬ 0 < tFree A b s N := by
    intro s hs
    unfold tFr
    rw [tNew_free hs]
    by_cases h1 : 0 < tFree A b s N
    · rw [if_pos h1]
      apply propext
      constructor
      · intro e
        rw [e] at h1
        exact absurd h1 (by decide)
      · intro e
        exact absurd h1 e
    · rw [if_neg h1]
      simp [h1]
  have hlt : ∀ j, j < N → (A (b + 7) j < 0) = (A (b + 7) j = -1) := fun j hj => by
    rw [← Int32.not_le, hW.bears0 hj]; simp
  have w2 := hW.bornT hN hp hq
  have r2 : RT (tBorn b N p q A) b (fu (cBorn (I 148) N (A b 0) (nI p) (nI q)) (30 + N) (if tUnder A b N p = -1 then tUnder A b N q else tUnder A b N p)) (N + 1) S := hR.bornC hW hN
  obtain ⟨c3, e3, r3, f3⟩ := v_settles (n := n) (m := m) (g := g) (J := zu J 151 (6 + N) 0) (I := zr I 148 (fu (cBorn (I 148) N (A b 0) (nI p) (nI q)) (30 + N) (if tUnder A b N p = -1 then tUnder A b N q else tUnder A b N p))) w2 (by rw [zr_same]; exact r2) d
  rw [zr_zr] at e3
  rw [zr_same] at f3
  refine ⟨c3, ?_, r3, fun j hj => by rw [f3 j hj, fu_ne _ _ (by omega), cBorn_far hN hj]⟩
  rw [hst]
  simp only [e_X12_births_118, e_X12_births_119, e_X12_births_122, e_X12_births_124, e_X12_births_125, e_X12_births_126, e_X12_births_127, e_X12_births_129, e_X12_births_131, e_X12_births_134, e_X12_births_135, e_X12_births_137, e_X12_births_140, e_X12_births_143, e_X12_births_144, e_X12_births_147, e_X12_births_149, e_X12_births_150, e_X12_births_151, e_X12_births_152, e_X12_births_154, e_X12_births_155, e_X12_births_158, e_X12_births_160, e_X12_births_161, e_X12_births_162, e_X12_births_164, e_X12_births_167, e_X12_births_168, e_X12_births_170, e_X12_births_173, e_X12_births_176, e_X12_births_177, e_X12_births_180, e_X12_births_182, e_X12_births_183, e_X12_births_184, e_X12_births_187, e_X12_births_188, cA_6, cA_12, cA_18, cA_30, cA_42, cA_54, cA_66, cA_78, cA_90, cA_102, cA_114, cA_126, cA_138, cA_210, cA_222, lc_0, lc_1, lc_2, lc_3, lc_4, lc_5, g_143_20, q_148, nI_neg (show 30 + p < 2 ^ 31 by omega), nI_clamp (show 30 + p < 2 ^ 31 by omega), k_148 (show 30 + p < 2530 by omega), l_148 (show 30 + p < 2530 by omega), nI_neg (show 30 + q < 2 ^ 31 by omega), nI_clamp (show 30 + q < 2 ^ 31 by omega), k_148 (show 30 + q < 2530 by omega), l_148 (show 30 + q < 2530 by omega), nI_neg (show 30 + N < 2 ^ 31 by omega), nI_clamp (show 30 + N < 2 ^ 31 by omega), k_148 (show 30 + N < 2530 by omega), l_148 (show 30 + N < 2530 by omega), c_143, zr_same, e7 p hp, e7 q hq, v_freeOf w1 hRm, zu_zr, Option.bind_some, Option.isSome_some, Option.toList, List.cons_append, List.nil_append, zclr_i, zclr_r, zclr_n, zfit_i, zfit_l, and_self, if_true, if_false]
  by_cases h1 : A (b + 7) p = -1
  · have u1 : tUnder A b N p = -1 := by simp [tUnder, h1]
    rw [u1, if_pos rfl] at e3
    by_cases h2 : A (b + 7) q = -1
    · have u2 : tUnder A b N q = -1 := by simp [tUnder, h2]
      rw [u2] at e3
      simp only [h1, h2, show ((-1 : Int32) < 0) = True by decide, if_true]
      simp only [e3, e_X12_births_154, e_X12_births_155, e_X12_births_158, e_X12_births_160, e_X12_births_161, e_X12_births_162, e_X12_births_164, e_X12_births_167, e_X12_births_168, e_X12_births_170, e_X12_births_173, e_X12_births_176, e_X12_births_177, e_X12_births_180, e_X12_births_182, e_X12_births_183, e_X12_births_184, e_X12_births_187, e_X12_births_188, cA_6, cA_12, cA_18, cA_30, cA_42, cA_54, cA_66, cA_78, cA_90, cA_102, cA_114, cA_126, cA_138, cA_210, cA_222, lc_0, lc_1, lc_2, lc_3, lc_4, lc_5, g_143_20, q_148, nI_neg (show 30 + N < 2 ^ 31 by omega), nI_clamp (show 30 + N < 2 ^ 31 by omega), k_148 (show 30 + N < 2530 by omega), l_148 (show 30 + N < 2530 by omega), c_143, zu_zr, Option.bind_some, Option.isSome_some, Option.toList, List.cons_append, List.nil_append, zclr_i, zclr_r, zclr_n, zfit_i, zfit_l, and_self, if_true, if_false]
    · by_cases h3 : 0 < tFree A b (A (b + 7) q) N
      · have u2 : tUnder A b N q = A (b + 7) q := by simp [tUnder, h2, h3]
        rw [u2] at e3
        simp only [h1, hlt q hq, h2, hfr _ h2, h3, not_true, ne_eq, not_false_eq_true, show ((-1 : Int32) < 0) = True by decide, if_true, if_false]
        simp only [e3, e_X12_births_154, e_X12_births_155, e_X12_births_158, e_X12_births_160, e_X12_births_161, e_X12_births_162, e_X12_births_164, e_X12_births_167, e_X12_births_168, e_X12_births_170, e_X12_births_173, e_X12_births_176, e_X12_births_177, e_X12_births_180, e_X12_births_182, e_X12_births_183, e_X12_births_184, e_X12_births_187, e_X12_births_188, cA_6, cA_12, cA_18, cA_30, cA_42, cA_54, cA_66, cA_78, cA_90, cA_102, cA_114, cA_126, cA_138, cA_210, cA_222, lc_0, lc_1, lc_2, lc_3, lc_4, lc_5, g_143_20, q_148, nI_neg (show 30 + N < 2 ^ 31 by omega), nI_clamp (show 30 + N < 2 ^ 31 by omega), k_148 (show 30 + N < 2530 by omega), l_148 (show 30 + N < 2530 by omega), c_143, zu_zr, Option.bind_some, Option.isSome_some, Option.toList, List.cons_append, List.nil_append, zclr_i, zclr_r, zclr_n, zfit_i, zfit_l, and_self, if_true, if_false]
      · have u2 : tUnder A b N q = -1 := by simp [tUnder, h3]
        rw [u2] at e3
        simp only [h1, hlt q hq, h2, hfr _ h2, h3, not_true, ne_eq, not_false_eq_true, show ((-1 : Int32) < 0) = True by decide, if_true, if_false]
        simp only [e3, e_X12_births_154, e_X12_births_155, e_X12_births_158, e_X12_births_160, e_X12_births_161, e_X12_births_162, e_X12_births_164, e_X12_births_167, e_X12_births_168, e_X12_births_170, e_X12_births_173, e_X12_births_176, e_X12_births_177, e_X12_births_180, e_X12_births_182, e_X12_births_183, e_X12_births_184, e_X12_births_187, e_X12_births_188, cA_6, cA_12, cA_18, cA_30, cA_42, cA_54, cA_66, cA_78, cA_90, cA_102, cA_114, cA_126, cA_138, cA_210, cA_222, lc_0, lc_1, lc_2, lc_3, lc_4, lc_5, g_143_20, q_148, nI_neg (show 30 + N < 2 ^ 31 by omega), nI_clamp (show 30 + N < 2 ^ 31 by omega), k_148 (show 30 + N < 2530 by omega), l_148 (show 30 + N < 2530 by omega), c_143, zu_zr, Option.bind_some, Option.isSome_some, Option.toList, List.cons_append, List.nil_append, zclr_i, zclr_r, zclr_n, zfit_i, zfit_l, and_self, if_true, if_false]
  · by_cases h4 : 0 < tFree A b (A (b + 7) p) N
    · have u1 : tUnder A b N p = A (b + 7) p := by simp [tUnder, h1, h4]
      rw [u1, if_neg h1] at e3
      simp only [hlt p hp, h1, hfr _ h1, h4, not_true, ne_eq, not_false_eq_true, if_true, if_false]
      simp only [e3, e_X12_births_154, e_X12_births_155, e_X12_births_158, e_X12_births_160, e_X12_births_161, e_X12_births_162, e_X12_births_164, e_X12_births_167, e_X12_births_168, e_X12_births_170, e_X12_births_173, e_X12_births_176, e_X12_births_177, e_X12_births_180, e_X12_births_182, e_X12_births_183, e_X12_births_184, e_X12_births_187, e_X12_births_188, cA_6, cA_12, cA_18, cA_30, cA_42, cA_54, cA_66, cA_78, cA_90, cA_102, cA_114, cA_126, cA_138, cA_210, cA_222, lc_0, lc_1, lc_2, lc_3, lc_4, lc_5, g_143_20, q_148, nI_neg (show 30 + N < 2 ^ 31 by omega), nI_clamp (show 30 + N < 2 ^ 31 by omega), k_148 (show 30 + N < 2530 by omega), l_148 (show 30 + N < 2530 by omega), c_143, zu_zr, Option.bind_some, Option.isSome_some, Option.toList, List.cons_append, List.nil_append, zclr_i, zclr_r, zclr_n, zfit_i, zfit_l, and_self, if_true, if_false]
    · have u1 : tUnder A b N p = -1 := by simp [tUnder, h4]
      rw [u1, if_pos rfl] at e3
      by_cases h2 : A (b + 7) q = -1
      · have u2 : tUnder A b N q = -1 := by simp [tUnder, h2]
        rw [u2] at e3
        simp only [hlt p hp, h1, hfr _ h1, h4, h2, not_true, ne_eq, not_false_eq_true, show ((-1 : Int32) < 0) = True by decide, if_true, if_false]
        simp only [e3, e_X12_births_154, e_X12_births_155, e_X12_births_158, e_X12_births_160, e_X12_births_161, e_X12_births_162, e_X12_births_164, e_X12_births_167, e_X12_births_168, e_X12_births_170, e_X12_births_173, e_X12_births_176, e_X12_births_177, e_X12_births_180, e_X12_births_182, e_X12_births_183, e_X12_births_184, e_X12_births_187, e_X12_births_188, cA_6, cA_12, cA_18, cA_30, cA_42, cA_54, cA_66, cA_78, cA_90, cA_102, cA_114, cA_126, cA_138, cA_210, cA_222, lc_0, lc_1, lc_2, lc_3, lc_4, lc_5, g_143_20, q_148, nI_neg (show 30 + N < 2 ^ 31 by omega), nI_clamp (show 30 + N < 2 ^ 31 by omega), k_148 (show 30 + N < 2530 by omega), l_148 (show 30 + N < 2530 by omega), c_143, zu_zr, Option.bind_some, Option.isSome_some, Option.toList, List.cons_append, List.nil_append, zclr_i, zclr_r, zclr_n, zfit_i, zfit_l, and_self, if_true, if_false]
      · by_cases h3 : 0 < tFree A b (A (b + 7) q) N
        · have u2 : tUnder A b N q = A (b + 7) q := by simp [tUnder, h2, h3]
          rw [u2] at e3
          simp only [hlt p hp, h1, hfr _ h1, h4, hlt q hq, h2, hfr _ h2, h3, not_true, ne_eq, not_false_eq_true, if_true, if_false]
          simp only [e3, e_X12_births_154, e_X12_births_155, e_X12_births_158, e_X12_births_160, e_X12_births_161, e_X12_births_162, e_X12_births_164, e_X12_births_167, e_X12_births_168, e_X12_births_170, e_X12_births_173, e_X12_births_176, e_X12_births_177, e_X12_births_180, e_X12_births_182, e_X12_births_183, e_X12_births_184, e_X12_births_187, e_X12_births_188, cA_6, cA_12, cA_18, cA_30, cA_42, cA_54, cA_66, cA_78, cA_90, cA_102, cA_114, cA_126, cA_138, cA_210, cA_222, lc_0, lc_1, lc_2, lc_3, lc_4, lc_5, g_143_20, q_148, nI_neg (show 30 + N < 2 ^ 31 by omega), nI_clamp (show 30 + N < 2 ^ 31 by omega), k_148 (show 30 + N < 2530 by omega), l_148 (show 30 + N < 2530 by omega), c_143, zu_zr, Option.bind_some, Option.isSome_some, Option.toList, List.cons_append, List.nil_append, zclr_i, zclr_r, zclr_n, zfit_i, zfit_l, and_self, if_true, if_false]
        · have u2 : tUnder A b N q = -1 := by simp [tUnder, h3]
          rw [u2] at e3
          simp only [hlt p hp, h1, hfr _ h1, h4, hlt q hq, h2, hfr _ h2, h3, not_true, ne_eq, not_false_eq_true, if_true, if_false]
          simp only [e3, e_X12_births_154, e_X12_births_155, e_X12_births_158, e_X12_births_160, e_X12_births_161, e_X12_births_162, e_X12_births_164, e_X12_births_167, e_X12_births_168, e_X12_births_170, e_X12_births_173, e_X12_births_176, e_X12_births_177, e_X12_births_180, e_X12_births_182, e_X12_births_183, e_X12_births_184, e_X12_births_187, e_X12_births_188, cA_6, cA_12, cA_18, cA_30, cA_42, cA_54, cA_66, cA_78, cA_90, cA_102, cA_114, cA_126, cA_138, cA_210, cA_222, lc_0, lc_1, lc_2, lc_3, lc_4, lc_5, g_143_20, q_148, nI_neg (show 30 + N < 2 ^ 31 by omega), nI_clamp (show 30 + N < 2 ^ 31 by omega), k_148 (show 30 + N < 2530 by omega), l_148 (show 30 + N < 2530 by omega), c_143, zu_zr, Option.bind_some, Option.isSome_some, Option.toList, List.cons_append, List.nil_append, zclr_i, zclr_r, zclr_n, zfit_i, zfit_l, and_self, if_true, if_false]
end RI
