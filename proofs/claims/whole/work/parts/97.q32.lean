/-! CALLS: turn -/
section RH2
variable {n m : Nat} {g : Nat → zC} {I X A : Nat → Nat → Int32} {J : Nat → Nat → Int64} {N S U b : Nat}
theorem tYears_s2 {k : Nat} : (tYears A b N (k + 1)).2 = tYear (tYears A b N k).2 b N := by rw [tYears_succ]
def tnC (A : Nat → Nat → Int32) (N p s : Nat) (t : Nat) : Bool := decide ((tYears A 33 N t).2 (33 + 6) p = -1 ∧ (tYears A 33 N t).2 (33 + 7) p = nI s)
theorem ct_loop {p s pl : Nat} (hW : WT A 33 N S U) (hU : U + 150 ≤ 9999) (hp : p < N) (d : Nat) : ∀ f j, j + f = 150 → zexec (d + 4) 185 68 [some (.ref 3), some (.int (nI p)), some (.int (nI pl)), some (.int (nI s)), some (.int (nI (j + 1)))] [] (mk n m g (tYears A 33 N j).2 J) = match zfind (tnC A N p s) some none (j + 1) f with | some i => some (some (.int (nI i)), mk n m g (zu (tYears A 33 N i).2 3 0 0) J) | none => some (some (.int (-1)), mk n m g (zu (tYears A 33 N 150).2 3 0 8) J) := by
  have h12 := hW.h12
  intro f
  induction f with
  | zero =>
    intro j hj
    have : j = 150 := by omega
    subst this
    rw [e_X11_turn_68]
    simp only [e_X11_turn_70, e_X11_turn_73, e_X11_turn_76, e_X11_turn_77, e_X11_turn_80, e_X11_turn_83, e_X11_turn_84, e_X11_turn_85, e_X11_turn_88, e_X11_turn_89, e_X11_turn_90, e_X11_turn_93, e_X11_turn_96, e_X11_turn_97, e_X11_turn_99, e_X11_turn_102, e_X11_turn_103, e_X11_turn_106, e_X11_turn_109, e_X11_turn_110, e_X11_turn_112, e_X11_turn_115, c_3, if_pos (show (150 : Int32) < nI (150 + 1) by decide), n_refuse, Option.bind_some, Option.isSome_some, Option.toList, List.cons_append, List.nil_append, zclr_i, zclr_r, zclr_n, zfit_i, zfit_l, and_self, if_true, if_false]
    rfl
  | succ f ih =>
    intro j hj
    have w := hW.tYearsU j (by omega)
    have hlt : ¬ (150 : Int32) < nI (j + 1) := by
      have : ¬ nI 150 < nI (j + 1) := by rw [nI_ltq (by decide) (by omega)]; omega
      exact this
    have tl := t_livesAs (n := n) (m := m) (g := g) (I := (tYears A 33 N (j + 1)).2) (J := J) (s := nI s) t33 (show p < 12 by omega) (d + 2)
    rw [zfind, e_X11_turn_68]
    simp only [e_X11_turn_70, e_X11_turn_73, e_X11_turn_76, e_X11_turn_77, e_X11_turn_80, e_X11_turn_83, e_X11_turn_84, e_X11_turn_85, e_X11_turn_88, e_X11_turn_89, e_X11_turn_90, e_X11_turn_93, e_X11_turn_96, e_X11_turn_97, e_X11_turn_99, e_X11_turn_102, e_X11_turn_103, e_X11_turn_106, c_3, c_T0 t33, g_3_8, if_neg hlt, t_passYear t33 h12 w.yWell, ← tYears_s2, tl, n_answer, nI_1, Option.bind_some, Option.isSome_some, Option.toList, List.cons_append, List.nil_append, zclr_i, zclr_r, zclr_n, zfit_i, zfit_l, and_self, if_true, if_false]
    unfold tnC
    by_cases hc : (tYears A 33 N (j + 1)).2 (33 + 6) p = -1 ∧ (tYears A 33 N (j + 1)).2 (33 + 7) p = nI s
    · simp [hc, bI]
    · simp only [hc, decide_false, bI, Bool.false_eq_true, if_false, if_true]
      exact ih (j + 1) (by omega)
theorem vt_loop {p s pl : Nat} (hW : WT A 33 N S U) (hU : U + 150 ≤ 9999) (hp : p < N) (d : Nat) : ∀ f j (c : Nat → Int32), j + f = 150 → RT (tYears A 33 N j).2 33 c N S → ∃ c' t', zexec (d + 5) 361 62 [some (.ref 143), some (.int (nI p)), some (.int (nI pl)), some (.int (nI s)), some (.int (-1)), some (.int (nI (j + 1)))] [] (mk n m g (zr X 148 c) J) = zexec (d + 5) 361 111 [some (.ref 143), some (.int (nI p)), some (.int (nI pl)), some (.int (nI s)), some (.int (oI (zfind (tnC A N p s) some none (j + 1) f))), some (.int t')] [] (mk n m g (zr X 148 c') J) ∧ ∀ i, 234 ≤ i → c' i = c i := by
  have h12 := hW.h12
  intro f
  induction f with
  | zero =>
    intro j c hj hR
    have : j = 150 := by omega
    subst this
    refine ⟨c, nI (150 + 1), ?_, fun _ _ => rfl⟩
    rw [e_X12_turn_62]
    simp only [e_X12_turn_64, e_X12_turn_67, e_X12_turn_70, e_X12_turn_72, if_pos (show (150 : Int32) < nI (150 + 1) by decide), Option.bind_some, Option.isSome_some, Option.toList, List.cons_append, List.nil_append, zclr_i, zclr_r, zclr_n, zfit_i, zfit_l, and_self, if_true, if_false]
    rfl
  | succ f ih =>
    intro j c hj hR
    have w := hW.tYearsU j (by omega)
    have w1 := hW.tYearsU (j + 1) (by omega)
    have hlt : ¬ (150 : Int32) < nI (j + 1) := by
      have : ¬ nI 150 < nI (j + 1) := by rw [nI_ltq (by decide) (by omega)]; omega
      exact this
    obtain ⟨c1, f1, e1, _, r1, fr1⟩ := v_goesYear (n := n) (m := m) (g := g) (J := J) (I := zr X 148 c) w (by omega) (by rw [zr_same]; exact hR) d
    rw [zr_zr] at e1
    rw [zr_same] at fr1
    rw [← tYears_s2] at r1
    have hR1 : RT (tYears A 33 N (j + 1)).2 33 (zr X 148 c1 148) N S := by rw [zr_same]; exact r1
    have hstep : zexec (d + 5) 361 62 [some (.ref 143), some (.int (nI p)), some (.int (nI pl)), some (.int (nI s)), some (.int (-1)), some (.int (nI (j + 1)))] [] (mk n m g (zr X 148 c) J) = zexec (d + 5) 361 62 [some (.ref 143), some (.int (nI p)), some (.int (nI pl)), some (.int (nI s)), some (.int (if tnC A N p s (j + 1) = true then nI (j + 1) else -1)), some (.int (nI (j + 1 + 1)))] [] (mk n m g (zr X 148 c1) J) := by
      rw [e_X12_turn_62]
      simp only [e_X12_turn_64, e_X12_turn_67, e_X12_turn_70, e_X12_turn_72, e_X12_turn_75, e_X12_turn_76, e_X12_turn_79, e_X12_turn_80, e_X12_turn_81, e_X12_turn_82, e_X12_turn_85, e_X12_turn_88, e_X12_turn_89, e_X12_turn_92, e_X12_turn_94, e_X12_turn_95, e_X12_turn_96, e_X12_turn_97, e_X12_turn_98, e_X12_turn_101, e_X12_turn_103, e_X12_turn_105, e_X12_turn_108, cA_6, cA_12, cA_18, cA_30, cA_42, cA_54, cA_66, cA_78, cA_90, cA_102, cA_114, cA_126, cA_138, cA_210, cA_222, lc_0, lc_1, lc_2, lc_3, lc_4, lc_5, g_143_20, q_148, nI_neg (show 30 + p < 2 ^ 31 by omega), nI_clamp (show 30 + p < 2 ^ 31 by omega), k_148 (show 30 + p < 2530 by omega), l_148 (show 30 + p < 2530 by omega), c_143, if_neg hlt, if_neg (show ¬ (0 : Int32) ≤ -1 by decide), e1, v_lives w1 hR1 hp, hR1.bears p hp, nI_1, Option.bind_some, Option.isSome_some, Option.toList, List.cons_append, List.nil_append, zclr_i, zclr_r, zclr_n, zfit_i, zfit_l, and_self, if_true, if_false]
      unfold tnC
      by_cases h1 : (tYears A 33 N (j + 1)).2 (33 + 6) p = -1 <;> by_cases h2 : (tYears A 33 N (j + 1)).2 (33 + 7) p = nI s <;> simp [h1, h2, bI]
    rw [zfind]
    cases hc : tnC A N p s (j + 1)
    · obtain ⟨c', t', e2, f2⟩ := ih (j + 1) c1 (by omega) r1
      simp only [hc, Bool.false_eq_true, if_false] at hstep
      refine ⟨c', t', hstep.trans ?_, fun i hi => by rw [f2 i hi, fr1 i hi]⟩
      simp only [Bool.false_eq_true, if_false]
      exact e2
    · simp only [hc, if_true] at hstep
      refine ⟨c1, nI (j + 1 + 1), hstep.trans ?_, fr1⟩
      simp only [if_true]
      rw [e_X12_turn_62]
      by_cases h9 : (150 : Int32) < nI (j + 1 + 1)
      · simp only [e_X12_turn_64, e_X12_turn_67, e_X12_turn_70, e_X12_turn_72, if_pos h9, Option.bind_some, Option.isSome_some, Option.toList, List.cons_append, List.nil_append, zclr_i, zclr_r, zclr_n, zfit_i, zfit_l, and_self, if_true, if_false]
        rfl
      · simp only [e_X12_turn_64, e_X12_turn_67, e_X12_turn_70, e_X12_turn_72, if_neg h9, if_pos (Int32.not_lt.mp (nI_pos (show j + 1 < 2 ^ 31 by omega))), Option.bind_some, Option.isSome_some, Option.toList, List.cons_append, List.nil_append, zclr_i, zclr_r, zclr_n, zfit_i, zfit_l, and_self, if_true, if_false]
        rfl
end RH2
