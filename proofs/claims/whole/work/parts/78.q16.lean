/-! CALLS: match, content, parents, buyers -/
section QP
variable {n m : Nat} {g : Nat → zC} {I A : Nat → Nat → Int32} {J : Nat → Nat → Int64} {N S U b : Nat}
def mStep (A : Nat → Nat → Int32) (b p N q : Nat) (a : Option Nat) : Option Nat := if tMarry A b p q 1 N = true then (match a with | none => some q | some r => if A (b + 2) (A (b + 7) r).toNatClampNeg < A (b + 2) (A (b + 7) q).toNatClampNeg then some q else some r) else a
theorem best_eq {p : Nat} (hW : WT A b N S U) : (zfor (wBest A b p N) 0 N (-1, -1)).1 = oI (zfor (mStep A b p N) 0 N none) ∧ ∀ r, zfor (mStep A b p N) 0 N none = some r → r < N := by
  have h6 := hW.h6
  have h := zfor_rel (f := wBest A b p N) (f' := mStep A b p N) (N := N) (Q := fun _ x y => (x = (-1, -1) ∧ y = none) ∨ ∃ r s, r < N ∧ s < S ∧ A (b + 7) r = nI s ∧ x = (nI r, A (b + 2) s) ∧ y = some r) ?_ N 0 (-1, -1) none (by omega) (Or.inl ⟨rfl, rfl⟩)
  · rcases h with ⟨h1, h2⟩ | ⟨r, s, hr, hs, e, h1, h2⟩
    · rw [h1, h2]
      exact ⟨rfl, fun r h => by simp at h⟩
    · rw [h1, h2]
      exact ⟨rfl, fun q h => by simp at h; omega⟩
  · intro q x y hq hQ
    unfold wBest mStep
    by_cases h1 : tMarry A b p q 1 N = true
    · have h2 := tMarry_1 h1
      obtain ⟨t, ht, et⟩ : ∃ t, t < S ∧ A (b + 7) q = nI t := by
        rcases hW.bears q hq with e | e
        · exact absurd e h2
        · exact e
      obtain ⟨k, hk, ek⟩ := hW.worth t ht
      rcases hQ with ⟨rfl, rfl⟩ | ⟨r, s, hr, hs, e, rfl, rfl⟩
      · have h3 : (-1 : Int32) < A (b + 2) t := by
          rw [ek, Int32.lt_iff_toInt_lt, nI_toInt (by omega)]
          show (-1 : Int) < _
          omega
        refine Or.inr ⟨q, t, hq, ht, et, ?_, ?_⟩
        · simp [h1, et, nI_clamp (show t < 2 ^ 31 by omega), h3]
        · simp [h1]
      · dsimp only
        rw [e, et, nI_clamp (by omega), nI_clamp (by omega)]
        by_cases h3 : A (b + 2) s < A (b + 2) t
        · exact Or.inr ⟨q, t, hq, ht, et, by simp [h1, h3], by simp [h1, h3]⟩
        · exact Or.inr ⟨r, s, hr, hs, e, by simp [h3], by simp [h1, h3]⟩
    · simp only [h1, false_and, if_false]
      exact hQ
theorem ls_match {p : Nat} (hW : WT A b N S U) (hR : RT A b (I 148) N S) (hp : p < N) (d : Nat) : zexec (d + 6) 371 28 [some (.ref 143), some (.int (nI p)), some (.int (oI none)), some (.int (nI 0))] [] (mk n m g I J) = zexec (d + 6) 371 28 [some (.ref 143), some (.int (nI p)), some (.int (oI (zfor (mStep A b p N) 0 N none))), some (.int (nI N))] [] (mk n m g I J) := by
  have h12 := hW.h12
  have h6 := hW.h6
  have hc := zloopI (fun q (a : Option Nat) => zexec (d + 6) 371 28 [some (.ref 143), some (.int (nI p)), some (.int (oI a)), some (.int (nI q))] [] (mk n m g I J)) (mStep A b p N) (fun _ a => ∀ r, a = some r → r < N ∧ A (b + 7) r ≠ -1) N ?_ N 0 none (by omega) (fun r e => by simp at e)
  · exact hc.1
  · intro q a hq ha
    refine ⟨?_, ?_⟩
    · rw [e_X12_match_28]
      cases a with
      | none =>
        simp only [e_X12_match_0, e_X12_match_1, e_X12_match_2, e_X12_match_5, e_X12_match_6, e_X12_match_7, e_X12_match_10, e_X12_match_11, e_X12_match_12, e_X12_match_15, e_X12_match_18, e_X12_match_19, e_X12_match_20, e_X12_match_23, e_X12_match_24, e_X12_match_25, e_X12_match_26, e_X12_match_27, e_X12_match_29, e_X12_match_30, e_X12_match_33, e_X12_match_34, e_X12_match_35, e_X12_match_38, e_X12_match_39, e_X12_match_40, e_X12_match_41, e_X12_match_42, e_X12_match_45, e_X12_match_48, e_X12_match_49, e_X12_match_52, e_X12_match_53, e_X12_match_56, e_X12_match_58, e_X12_match_59, e_X12_match_62, e_X12_match_64, e_X12_match_65, e_X12_match_66, e_X12_match_67, e_X12_match_68, e_X12_match_69, e_X12_match_70, e_X12_match_73, e_X12_match_75, e_X12_match_76, e_X12_match_79, e_X12_match_81, e_X12_match_82, e_X12_match_83, e_X12_match_84, e_X12_match_85, e_X12_match_86, e_X12_match_89, e_X12_match_90, e_X12_match_91, e_X12_match_94, e_X12_match_97, e_X12_match_98, e_X12_match_101, e_X12_match_102, e_X12_match_104, e_X12_match_107, e_X12_match_110, e_X12_match_111, cA_6, cA_12, cA_18, cA_30, cA_42, cA_54, cA_66, cA_78, cA_90, cA_102, cA_114, cA_126, cA_138, cA_210, cA_222, lc_0, lc_1, lc_2, lc_3, lc_4, lc_5, g_143_20, q_148, c_143, hW.c1 hR, if_neg (nI_ge hq (by omega : N < 2 ^ 31)), v_canBeWed hW hR hp hq, oI, nI_1, show ((-1 : Int32) < 0) = True by decide, Option.bind_some, Option.isSome_some, Option.toList, List.cons_append, List.nil_append, zclr_i, zclr_r, zclr_n, zfit_i, zfit_l, and_self, if_true, if_false]
        unfold mStep
        cases h1 : tMarry A b p q 1 N <;> simp [bI]
      | some r =>
        obtain ⟨hr, hrb⟩ := ha r rfl
        cases h1 : tMarry A b p q 1 N
        · simp only [e_X12_match_0, e_X12_match_1, e_X12_match_2, e_X12_match_5, e_X12_match_6, e_X12_match_7, e_X12_match_10, e_X12_match_11, e_X12_match_12, e_X12_match_15, e_X12_match_18, e_X12_match_19, e_X12_match_20, e_X12_match_23, e_X12_match_24, e_X12_match_25, e_X12_match_26, e_X12_match_27, e_X12_match_29, e_X12_match_30, e_X12_match_33, e_X12_match_34, e_X12_match_35, e_X12_match_38, e_X12_match_39, e_X12_match_40, e_X12_match_41, e_X12_match_42, e_X12_match_45, e_X12_match_48, e_X12_match_49, e_X12_match_52, e_X12_match_53, e_X12_match_56, e_X12_match_58, e_X12_match_59, e_X12_match_62, e_X12_match_64, e_X12_match_65, e_X12_match_66, e_X12_match_67, e_X12_match_68, e_X12_match_69, e_X12_match_70, e_X12_match_73, e_X12_match_75, e_X12_match_76, e_X12_match_79, e_X12_match_81, e_X12_match_82, e_X12_match_83, e_X12_match_84, e_X12_match_85, e_X12_match_86, e_X12_match_89, e_X12_match_90, e_X12_match_91, e_X12_match_94, e_X12_match_97, e_X12_match_98, e_X12_match_101, e_X12_match_102, e_X12_match_104, e_X12_match_107, e_X12_match_110, e_X12_match_111, cA_6, cA_12, cA_18, cA_30, cA_42, cA_54, cA_66, cA_78, cA_90, cA_102, cA_114, cA_126, cA_138, cA_210, cA_222, lc_0, lc_1, lc_2, lc_3, lc_4, lc_5, g_143_20, q_148, c_143, hW.c1 hR, if_neg (nI_ge hq (by omega : N < 2 ^ 31)), v_canBeWed hW hR hp hq, h1, bI, Bool.false_eq_true, nI_1, Option.bind_some, Option.isSome_some, Option.toList, List.cons_append, List.nil_append, zclr_i, zclr_r, zclr_n, zfit_i, zfit_l, and_self, if_true, if_false]
          simp [mStep, h1]
        · have h2 := tMarry_1 h1
          obtain ⟨t, ht, et⟩ : ∃ t, t < S ∧ A (b + 7) q = nI t := by
            rcases hW.bears q hq with e | e
            · exact absurd e h2
            · exact e
          obtain ⟨s, hs, es⟩ : ∃ s, s < S ∧ A (b + 7) r = nI s := by
            rcases hW.bears r hr with e | e
            · exact absurd e hrb
            · exact e
          simp only [e_X12_match_0, e_X12_match_1, e_X12_match_2, e_X12_match_5, e_X12_match_6, e_X12_match_7, e_X12_match_10, e_X12_match_11, e_X12_match_12, e_X12_match_15, e_X12_match_18, e_X12_match_19, e_X12_match_20, e_X12_match_23, e_X12_match_24, e_X12_match_25, e_X12_match_26, e_X12_match_27, e_X12_match_29, e_X12_match_30, e_X12_match_33, e_X12_match_34, e_X12_match_35, e_X12_match_38, e_X12_match_39, e_X12_match_40, e_X12_match_41, e_X12_match_42, e_X12_match_45, e_X12_match_48, e_X12_match_49, e_X12_match_52, e_X12_match_53, e_X12_match_56, e_X12_match_58, e_X12_match_59, e_X12_match_62, e_X12_match_64, e_X12_match_65, e_X12_match_66, e_X12_match_67, e_X12_match_68, e_X12_match_69, e_X12_match_70, e_X12_match_73, e_X12_match_75, e_X12_match_76, e_X12_match_79, e_X12_match_81, e_X12_match_82, e_X12_match_83, e_X12_match_84, e_X12_match_85, e_X12_match_86, e_X12_match_89, e_X12_match_90, e_X12_match_91, e_X12_match_94, e_X12_match_97, e_X12_match_98, e_X12_match_101, e_X12_match_102, e_X12_match_104, e_X12_match_107, e_X12_match_110, e_X12_match_111, cA_6, cA_12, cA_18, cA_30, cA_42, cA_54, cA_66, cA_78, cA_90, cA_102, cA_114, cA_126, cA_138, cA_210, cA_222, lc_0, lc_1, lc_2, lc_3, lc_4, lc_5, g_143_20, q_148, nI_neg (show 30 + q < 2 ^ 31 by omega), nI_clamp (show 30 + q < 2 ^ 31 by omega), k_148 (show 30 + q < 2530 by omega), l_148 (show 30 + q < 2530 by omega), nI_neg (show 30 + r < 2 ^ 31 by omega), nI_clamp (show 30 + r < 2 ^ 31 by omega), k_148 (show 30 + r < 2530 by omega), l_148 (show 30 + r < 2530 by omega), nI_neg (show 6 + t < 2 ^ 31 by omega), nI_clamp (show 6 + t < 2 ^ 31 by omega), k_148 (show 6 + t < 2530 by omega), l_148 (show 6 + t < 2530 by omega), nI_neg (show 6 + s < 2 ^ 31 by omega), nI_clamp (show 6 + s < 2 ^ 31 by omega), k_148 (show 6 + s < 2530 by omega), l_148 (show 6 + s < 2530 by omega), c_143, hW.c1 hR, if_neg (nI_ge hq (by omega : N < 2 ^ 31)), v_canBeWed hW hR hp hq, h1, bI, oI, if_neg (nI_pos (show r < 2 ^ 31 by omega)), hR.bears q hq, hR.bears r hr, et, es, hR.worth t ht, hR.worth s hs, nI_1, Option.bind_some, Option.isSome_some, Option.toList, List.cons_append, List.nil_append, zclr_i, zclr_r, zclr_n, zfit_i, zfit_l, and_self, if_true, if_false]
          unfold mStep
          dsimp only
          rw [et, es, nI_clamp (by omega), nI_clamp (by omega)]
          by_cases h3 : A (b + 2) s < A (b + 2) t
          · simp [h1, h3, Int32.not_le.mpr h3]
          · simp [h1, h3, Int32.not_lt.mp h3]
    · intro r hr
      unfold mStep at hr
      cases h1 : tMarry A b p q 1 N
      · rw [h1] at hr
        simp only [Bool.false_eq_true, if_false] at hr
        exact ha r hr
      · have h2 := tMarry_1 h1
        rw [h1] at hr
        simp only [if_true] at hr
        cases a with
        | none =>
          simp at hr
          subst hr
          exact ⟨hq, h2⟩
        | some r0 =>
          dsimp only at hr
          split at hr
          · simp at hr
            subst hr
            exact ⟨hq, h2⟩
          · simp at hr
            subst hr
            exact ha r0 rfl
theorem q_match {x : Int32} (h : Inv I J N S) (d : Nat) : Eqv (d + 30) 194 371 [.int x] n m g I J := by
  have hW := h.W
  have h12 := hW.h12
  have h6 := hW.h6
  rcases p_cases x N with ⟨p, hp, rfl⟩ | hx
  · obtain ⟨e1, e2⟩ := best_eq (p := p) hW
    have hcl := w_bestFor (n := n) (m := m) (g := g) (J := J) t16 hW.hN h12 (show p < 12 by omega) hW.bear6 (d + 25)
    rw [e1] at hcl
    have hv : ∀ w : Int32, RT I 16 ((zu (zu (zu I 3 0 w) 143 1 0) 143 0 0) 148) N S := fun w => h.R
    have hl : ∀ w : Int32, _ := fun w => ls_match (n := n) (m := m) (g := g) (J := J) hW (hv w) hp (d + 24)
    cases hz : zfor (mStep I 16 p N) 0 N none with
    | none =>
      rw [hz] at hcl hl
      refine ⟨.int (-1), zu I 3 0 8, J, st 8 I, J, N, S, ?_, ?_, h.stI⟩
      · rw [m_X11_match]
        simp only [e_X11_match_0, e_X11_match_1, e_X11_match_4, e_X11_match_5, e_X11_match_8, e_X11_match_11, e_X11_match_12, e_X11_match_13, e_X11_match_16, e_X11_match_17, e_X11_match_18, e_X11_match_19, e_X11_match_22, e_X11_match_23, e_X11_match_26, e_X11_match_29, c_3, c_T0 t16, g_3_7, t_hasP_yes t16 hW.hN h12 hp, hcl, n_answerIfAny, oI, Option.bind_some, Option.isSome_some, Option.toList, List.cons_append, List.nil_append, zclr_i, zclr_r, zclr_n, zfit_i, zfit_l, and_self, if_true, if_false]
        rfl
      · rw [m_X12_match]
        have hR1 := hv 8
        simp only [e_X12_match_0, e_X12_match_1, e_X12_match_2, e_X12_match_5, e_X12_match_6, e_X12_match_7, e_X12_match_10, e_X12_match_11, e_X12_match_12, e_X12_match_15, e_X12_match_18, e_X12_match_19, e_X12_match_20, e_X12_match_23, e_X12_match_24, e_X12_match_25, e_X12_match_26, e_X12_match_27, e_X12_match_29, e_X12_match_30, e_X12_match_33, e_X12_match_34, e_X12_match_35, e_X12_match_38, e_X12_match_39, e_X12_match_40, e_X12_match_41, e_X12_match_42, e_X12_match_45, e_X12_match_48, e_X12_match_49, e_X12_match_52, e_X12_match_53, e_X12_match_56, e_X12_match_58, e_X12_match_59, e_X12_match_62, e_X12_match_64, e_X12_match_65, e_X12_match_66, e_X12_match_67, e_X12_match_68, e_X12_match_69, e_X12_match_70, e_X12_match_73, e_X12_match_75, e_X12_match_76, e_X12_match_79, e_X12_match_81, e_X12_match_82, e_X12_match_83, e_X12_match_84, e_X12_match_85, e_X12_match_86, e_X12_match_89, e_X12_match_90, e_X12_match_91, e_X12_match_94, e_X12_match_97, e_X12_match_98, e_X12_match_101, e_X12_match_102, e_X12_match_104, e_X12_match_107, e_X12_match_110, e_X12_match_111, c_143, g_143_0, g_143_1, p_143_0, p_143_1, v_isP_yes hW hR1 hp, Option.bind_some, Option.isSome_some, Option.toList, List.cons_append, List.nil_append, zclr_i, zclr_r, zclr_n, zfit_i, zfit_l, and_self, if_true, if_false]
        refine (hl 8).trans ?_
        rw [e_X12_match_28]
        simp only [e_X12_match_0, e_X12_match_1, e_X12_match_2, e_X12_match_5, e_X12_match_6, e_X12_match_7, e_X12_match_10, e_X12_match_11, e_X12_match_12, e_X12_match_15, e_X12_match_18, e_X12_match_19, e_X12_match_20, e_X12_match_23, e_X12_match_24, e_X12_match_25, e_X12_match_26, e_X12_match_27, e_X12_match_29, e_X12_match_30, e_X12_match_33, e_X12_match_34, e_X12_match_35, e_X12_match_38, e_X12_match_39, e_X12_match_40, e_X12_match_41, e_X12_match_42, e_X12_match_45, e_X12_match_48, e_X12_match_49, e_X12_match_52, e_X12_match_53, e_X12_match_56, e_X12_match_58, e_X12_match_59, e_X12_match_62, e_X12_match_64, e_X12_match_65, e_X12_match_66, e_X12_match_67, e_X12_match_68, e_X12_match_69, e_X12_match_70, e_X12_match_73, e_X12_match_75, e_X12_match_76, e_X12_match_79, e_X12_match_81, e_X12_match_82, e_X12_match_83, e_X12_match_84, e_X12_match_85, e_X12_match_86, e_X12_match_89, e_X12_match_90, e_X12_match_91, e_X12_match_94, e_X12_match_97, e_X12_match_98, e_X12_match_101, e_X12_match_102, e_X12_match_104, e_X12_match_107, e_X12_match_110, e_X12_match_111, cA_6, cA_12, cA_18, cA_30, cA_42, cA_54, cA_66, cA_78, cA_90, cA_102, cA_114, cA_126, cA_138, cA_210, cA_222, lc_0, lc_1, lc_2, lc_3, lc_4, lc_5, g_143_20, q_148, c_143, hW.c1 hR1, if_pos (nI_le (Nat.le_refl N) (by omega : N < 2 ^ 31)), v_refuse, oI, st_eq, Option.bind_some, Option.isSome_some, Option.toList, List.cons_append, List.nil_append, zclr_i, zclr_r, zclr_n, zfit_i, zfit_l, and_self, if_true, if_false]
        rfl
    | some r =>
      have hr := e2 r hz
      rw [hz] at hcl hl
      refine ⟨.int (nI r), zu I 3 0 0, J, st 0 I, J, N, S, ?_, ?_, h.stI⟩
      · rw [m_X11_match]
        simp only [e_X11_match_0, e_X11_match_1, e_X11_match_4, e_X11_match_5, e_X11_match_8, e_X11_match_11, e_X11_match_12, e_X11_match_13, e_X11_match_16, e_X11_match_17, e_X11_match_18, e_X11_match_19, e_X11_match_22, e_X11_match_23, e_X11_match_26, e_X11_match_29, c_3, c_T0 t16, g_3_7, t_hasP_yes t16 hW.hN h12 hp, hcl, n_answerIfAny, oI, if_neg (nI_m1 (show r < 2 ^ 31 by omega)), Option.bind_some, Option.isSome_some, Option.toList, List.cons_append, List.nil_append, zclr_i, zclr_r, zclr_n, zfit_i, zfit_l, and_self, if_true, if_false]
        rfl
      · rw [m_X12_match]
        have hR1 := hv 0
        simp only [e_X12_match_0, e_X12_match_1, e_X12_match_2, e_X12_match_5, e_X12_match_6, e_X12_match_7, e_X12_match_10, e_X12_match_11, e_X12_match_12, e_X12_match_15, e_X12_match_18, e_X12_match_19, e_X12_match_20, e_X12_match_23, e_X12_match_24, e_X12_match_25, e_X12_match_26, e_X12_match_27, e_X12_match_29, e_X12_match_30, e_X12_match_33, e_X12_match_34, e_X12_match_35, e_X12_match_38, e_X12_match_39, e_X12_match_40, e_X12_match_41, e_X12_match_42, e_X12_match_45, e_X12_match_48, e_X12_match_49, e_X12_match_52, e_X12_match_53, e_X12_match_56, e_X12_match_58, e_X12_match_59, e_X12_match_62, e_X12_match_64, e_X12_match_65, e_X12_match_66, e_X12_match_67, e_X12_match_68, e_X12_match_69, e_X12_match_70, e_X12_match_73, e_X12_match_75, e_X12_match_76, e_X12_match_79, e_X12_match_81, e_X12_match_82, e_X12_match_83, e_X12_match_84, e_X12_match_85, e_X12_match_86, e_X12_match_89, e_X12_match_90, e_X12_match_91, e_X12_match_94, e_X12_match_97, e_X12_match_98, e_X12_match_101, e_X12_match_102, e_X12_match_104, e_X12_match_107, e_X12_match_110, e_X12_match_111, c_143, g_143_0, g_143_1, p_143_0, p_143_1, v_isP_yes hW hR1 hp, Option.bind_some, Option.isSome_some, Option.toList, List.cons_append, List.nil_append, zclr_i, zclr_r, zclr_n, zfit_i, zfit_l, and_self, if_true, if_false]
        refine (hl 0).trans ?_
        rw [e_X12_match_28]
        simp only [e_X12_match_0, e_X12_match_1, e_X12_match_2, e_X12_match_5, e_X12_match_6, e_X12_match_7, e_X12_match_10, e_X12_match_11, e_X12_match_12, e_X12_match_15, e_X12_match_18, e_X12_match_19, e_X12_match_20, e_X12_match_23, e_X12_match_24, e_X12_match_25, e_X12_match_26, e_X12_match_27, e_X12_match_29, e_X12_match_30, e_X12_match_33, e_X12_match_34, e_X12_match_35, e_X12_match_38, e_X12_match_39, e_X12_match_40, e_X12_match_41, e_X12_match_42, e_X12_match_45, e_X12_match_48, e_X12_match_49, e_X12_match_52, e_X12_match_53, e_X12_match_56, e_X12_match_58, e_X12_match_59, e_X12_match_62, e_X12_match_64, e_X12_match_65, e_X12_match_66, e_X12_match_67, e_X12_match_68, e_X12_match_69, e_X12_match_70, e_X12_match_73, e_X12_match_75, e_X12_match_76, e_X12_match_79, e_X12_match_81, e_X12_match_82, e_X12_match_83, e_X12_match_84, e_X12_match_85, e_X12_match_86, e_X12_match_89, e_X12_match_90, e_X12_match_91, e_X12_match_94, e_X12_match_97, e_X12_match_98, e_X12_match_101, e_X12_match_102, e_X12_match_104, e_X12_match_107, e_X12_match_110, e_X12_match_111, cA_6, cA_12, cA_18, cA_30, cA_42, cA_54, cA_66, cA_78, cA_90, cA_102, cA_114, cA_126, cA_138, cA_210, cA_222, lc_0, lc_1, lc_2, lc_3, lc_4, lc_5, g_143_20, q_148, c_143, hW.c1 hR1, if_pos (nI_le (Nat.le_refl N) (by omega : N < 2 ^ 31)), oI, if_pos (Int32.not_lt.mp (nI_pos (show r < 2 ^ 31 by omega))), Option.bind_some, Option.isSome_some, Option.toList, List.cons_append, List.nil_append, zclr_i, zclr_r, zclr_n, zfit_i, zfit_l, and_self, if_true, if_false]
        rfl
  · refine ⟨.int (-1), zu I 3 0 2, J, st 2 I, J, N, S, ?_, ?_, h.stI⟩
    · rw [m_X11_match]
      simp only [e_X11_match_0, e_X11_match_1, e_X11_match_4, e_X11_match_5, e_X11_match_8, e_X11_match_11, e_X11_match_12, e_X11_match_13, e_X11_match_16, e_X11_match_17, e_X11_match_18, e_X11_match_19, e_X11_match_22, e_X11_match_23, e_X11_match_26, e_X11_match_29, c_3, c_T0 t16, g_3_7, t_hasP_no t16 hW.hN h12 hx, n_refuse, Option.bind_some, Option.isSome_some, Option.toList, List.cons_append, List.nil_append, zclr_i, zclr_r, zclr_n, zfit_i, zfit_l, and_self, if_true, if_false]
    · have hR1 : RT I 16 ((zu (zu (zu I 3 0 2) 143 1 0) 143 0 0) 148) N S := h.R
      rw [m_X12_match]
      simp only [e_X12_match_0, e_X12_match_1, e_X12_match_2, e_X12_match_5, e_X12_match_6, e_X12_match_7, e_X12_match_10, e_X12_match_11, e_X12_match_12, e_X12_match_15, e_X12_match_18, e_X12_match_19, e_X12_match_20, e_X12_match_23, e_X12_match_24, e_X12_match_25, e_X12_match_26, e_X12_match_27, e_X12_match_28, e_X12_match_29, e_X12_match_30, e_X12_match_33, e_X12_match_34, e_X12_match_35, e_X12_match_38, e_X12_match_39, e_X12_match_40, e_X12_match_41, e_X12_match_42, e_X12_match_45, e_X12_match_48, e_X12_match_49, e_X12_match_52, e_X12_match_53, e_X12_match_56, e_X12_match_58, e_X12_match_59, e_X12_match_62, e_X12_match_64, e_X12_match_65, e_X12_match_66, e_X12_match_67, e_X12_match_68, e_X12_match_69, e_X12_match_70, e_X12_match_73, e_X12_match_75, e_X12_match_76, e_X12_match_79, e_X12_match_81, e_X12_match_82, e_X12_match_83, e_X12_match_84, e_X12_match_85, e_X12_match_86, e_X12_match_89, e_X12_match_90, e_X12_match_91, e_X12_match_94, e_X12_match_97, e_X12_match_98, e_X12_match_101, e_X12_match_102, e_X12_match_104, e_X12_match_107, e_X12_match_110, e_X12_match_111, c_143, g_143_0, g_143_1, p_143_0, p_143_1, v_isP_no hW hR1 hx, v_refuse, st_eq, Option.bind_some, Option.isSome_some, Option.toList, List.cons_append, List.nil_append, zclr_i, zclr_r, zclr_n, zfit_i, zfit_l, and_self, if_true, if_false]
def cHappy (A : Nat → Nat → Int32) (b p : Nat) : Bool := decide (A (b + 6) p = -1 ∧ A (b + 7) p ≠ -1) && decide (A (b + 12) p = 0 ∨ A (b + 13) (p * 6) = A (b + 7) p)
theorem q_content (h : Inv I J N S) (d : Nat) : Eqv (d + 30) 199 380 [] n m g I J := by
  have hW := h.W
  have h12 := hW.h12
  have hR1 : RT I 16 ((zu (zu (zu I 3 0 0) 143 1 0) 143 0 0) 148) N S := h.R
  refine ⟨.int (nI (cnt (cHappy I 16) N)), zu I 3 0 0, J, st 0 I, J, N, S, ?_, ?_, h.stI⟩
  · rw [m_X11_content]
    simp only [e_X11_content_0, e_X11_content_1, e_X11_content_2, e_X11_content_3, e_X11_content_5, e_X11_content_6, e_X11_content_9, e_X11_content_12, e_X11_content_15, e_X11_content_16, e_X11_content_19, e_X11_content_22, e_X11_content_23, e_X11_content_24, e_X11_content_27, e_X11_content_28, e_X11_content_31, e_X11_content_32, e_X11_content_33, e_X11_content_36, e_X11_content_37, e_X11_content_40, e_X11_content_43, e_X11_content_44, e_X11_content_45, e_X11_content_48, e_X11_content_49, e_X11_content_52, e_X11_content_53, e_X11_content_54, e_X11_content_55, e_X11_content_58, e_X11_content_59, e_X11_content_62, e_X11_content_65, e_X11_content_66, e_X11_content_69, e_X11_content_72, e_X11_content_75, e_X11_content_78, e_X11_content_79, e_X11_content_80, e_X11_content_83, Option.bind_some, Option.isSome_some, Option.toList, List.cons_append, List.nil_append, zclr_i, zclr_r, zclr_n, zfit_i, zfit_l, and_self, if_true, if_false]
    have hl := zloop (fun p (a : Nat × Option Value) => zexec (d + 30) 199 4 [some (.ref 3), some (.int (nI a.1)), some (.int (nI p)), a.2] [] (mk n m g I J)) (fun p a => (if cHappy I 16 p = true then a.1 + 1 else a.1, some (.int (bI (decide (I (16 + 12) p = 0 ∨ I (16 + 13) (p * 6) = I (16 + 7) p)))))) N ?_ N 0 (0, none) (by omega)
    · refine hl.trans ?_
      have hfst : ∀ k p (a : Nat × Option Value), (zfor (fun p (a : Nat × Option Value) => (if cHappy I 16 p = true then a.1 + 1 else a.1, some (.int (bI (decide (I (16 + 12) p = 0 ∨ I (16 + 13) (p * 6) = I (16 + 7) p)))))) p k a).1 = zfor (fun p a => if cHappy I 16 p = true then a + 1 else a) p k a.1 := by
        intro k
        induction k with
        | zero => intro p a; rfl
        | succ k ih => intro p a; rw [zfor, zfor, ih]
      rw [e_X11_content_4]
      simp only [e_X11_content_0, e_X11_content_1, e_X11_content_2, e_X11_content_3, e_X11_content_5, e_X11_content_6, e_X11_content_9, e_X11_content_12, e_X11_content_15, e_X11_content_16, e_X11_content_19, e_X11_content_22, e_X11_content_23, e_X11_content_24, e_X11_content_27, e_X11_content_28, e_X11_content_31, e_X11_content_32, e_X11_content_33, e_X11_content_36, e_X11_content_37, e_X11_content_40, e_X11_content_43, e_X11_content_44, e_X11_content_45, e_X11_content_48, e_X11_content_49, e_X11_content_52, e_X11_content_53, e_X11_content_54, e_X11_content_55, e_X11_content_58, e_X11_content_59, e_X11_content_62, e_X11_content_65, e_X11_content_66, e_X11_content_69, e_X11_content_72, e_X11_content_75, e_X11_content_78, e_X11_content_79, e_X11_content_80, e_X11_content_83, c_3, g_3_7, g_T0_4 t16, hW.hN, if_pos (nI_le (Nat.le_refl N) (by omega : N < 2 ^ 31)), n_answer, hfst, Option.bind_some, Option.isSome_some, Option.toList, List.cons_append, List.nil_append, zclr_i, zclr_r, zclr_n, zfit_i, zfit_l, and_self, if_true, if_false]
      rfl
    · intro p a hp
      obtain ⟨K, hK, eK⟩ := hW.likes p hp
      have tl := t_likedAt (n := n) (m := m) (g := g) (I := I) (J := J) t16 (p := p) (k := 0) (by omega) (d + 29)
      have tl2 : zcall (d + 29) 100 [.ref 16, .int (nI p), .int 0] (mk n m g I J) = some (some (.int (I (16 + 13) (p * 6))), mk n m g I J) := tl
      rw [e_X11_content_4]
      simp only [e_X11_content_0, e_X11_content_1, e_X11_content_2, e_X11_content_3, e_X11_content_5, e_X11_content_6, e_X11_content_9, e_X11_content_12, e_X11_content_15, e_X11_content_16, e_X11_content_19, e_X11_content_22, e_X11_content_23, e_X11_content_24, e_X11_content_27, e_X11_content_28, e_X11_content_31, e_X11_content_32, e_X11_content_33, e_X11_content_36, e_X11_content_37, e_X11_content_40, e_X11_content_43, e_X11_content_44, e_X11_content_45, e_X11_content_48, e_X11_content_49, e_X11_content_52, e_X11_content_53, e_X11_content_54, e_X11_content_55, e_X11_content_58, e_X11_content_59, e_X11_content_62, e_X11_content_65, e_X11_content_66, e_X11_content_69, e_X11_content_72, e_X11_content_75, e_X11_content_78, e_X11_content_79, e_X11_content_80, e_X11_content_83, c_3, c_T0 t16, g_3_7, g_T0_4 t16, g_T0_12 t16, g_T0_17 t16, l_T12 t16 (show p < 12 by omega), l_T7 t16 (show p < 12 by omega), tl2, hW.hN, if_neg (nI_ge hp (by omega : N < 2 ^ 31)), t_takesPart t16 (show p < 12 by omega), nI_1, Option.bind_some, Option.isSome_some, Option.toList, List.cons_append, List.nil_append, zclr_i, zclr_r, zclr_n, zfit_i, zfit_l, and_self, if_true, if_false]
      unfold cHappy
      by_cases h1 : I (16 + 12) p = 0 <;> by_cases h2 : I (16 + 13) (p * 6) = I (16 + 7) p <;> by_cases h3 : I (16 + 6) p = -1 ∧ I (16 + 7) p ≠ -1 <;> simp [h1, h2, h3, bI]
  · rw [m_X12_content]
    simp only [e_X12_content_0, e_X12_content_1, e_X12_content_2, e_X12_content_5, e_X12_content_6, e_X12_content_7, e_X12_content_10, e_X12_content_11, e_X12_content_12, e_X12_content_13, e_X12_content_15, e_X12_content_16, e_X12_content_19, e_X12_content_20, e_X12_content_21, e_X12_content_24, e_X12_content_25, e_X12_content_26, e_X12_content_27, e_X12_content_30, e_X12_content_33, e_X12_content_34, e_X12_content_37, e_X12_content_39, e_X12_content_40, e_X12_content_41, e_X12_content_42, e_X12_content_45, e_X12_content_46, e_X12_content_49, e_X12_content_51, e_X12_content_52, e_X12_content_53, e_X12_content_54, e_X12_content_57, e_X12_content_58, e_X12_content_61, e_X12_content_64, e_X12_content_66, e_X12_content_67, e_X12_content_68, e_X12_content_69, e_X12_content_70, e_X12_content_71, e_X12_content_74, e_X12_content_76, e_X12_content_77, e_X12_content_78, e_X12_content_79, e_X12_content_82, e_X12_content_83, e_X12_content_86, e_X12_content_87, e_X12_content_88, e_X12_content_89, e_X12_content_92, e_X12_content_95, e_X12_content_96, g_143_0, g_143_1, p_143_0, p_143_1, Option.bind_some, Option.isSome_some, Option.toList, List.cons_append, List.nil_append, zclr_i, zclr_r, zclr_n, zfit_i, zfit_l, and_self, if_true, if_false]
    refine (zloop (fun p (a : Nat) => zexec (d + 30) 380 14 [some (.ref 143), some (.int (nI a)), some (.int (nI p))] [] (mk n m g (zu (zu (zu I 3 0 0) 143 1 0) 143 0 0) J)) (fun p a => if cHappy I 16 p = true then a + 1 else a) N ?_ N 0 0 (by omega)).trans ?_
    · intro p a hp
      have h0 := hW.bears0 hp
      have h0' : (I (16 + 7) p < 0) = (I (16 + 7) p = -1) := by rw [← Int32.not_le, h0]; simp
      have e6 : (138 : Int32) + 6 * nI p = nI (138 + 6 * p) := by
        rw [show (6 : Int32) * nI p = nI (6 * p) from by rw [show (6 : Int32) = nI 6 from rfl, pk_mul], cA_138]
      obtain ⟨K, hK, eK⟩ := hW.likes p hp
      rw [e_X12_content_14]
      simp only [e_X12_content_0, e_X12_content_1, e_X12_content_2, e_X12_content_5, e_X12_content_6, e_X12_content_7, e_X12_content_10, e_X12_content_11, e_X12_content_12, e_X12_content_13, e_X12_content_15, e_X12_content_16, e_X12_content_19, e_X12_content_20, e_X12_content_21, e_X12_content_24, e_X12_content_25, e_X12_content_26, e_X12_content_27, e_X12_content_30, e_X12_content_33, e_X12_content_34, e_X12_content_37, e_X12_content_39, e_X12_content_40, e_X12_content_41, e_X12_content_42, e_X12_content_45, e_X12_content_46, e_X12_content_49, e_X12_content_51, e_X12_content_52, e_X12_content_53, e_X12_content_54, e_X12_content_57, e_X12_content_58, e_X12_content_61, e_X12_content_64, e_X12_content_66, e_X12_content_67, e_X12_content_68, e_X12_content_69, e_X12_content_70, e_X12_content_71, e_X12_content_74, e_X12_content_76, e_X12_content_77, e_X12_content_78, e_X12_content_79, e_X12_content_82, e_X12_content_83, e_X12_content_86, e_X12_content_87, e_X12_content_88, e_X12_content_89, e_X12_content_92, e_X12_content_95, e_X12_content_96, cA_6, cA_12, cA_18, cA_30, cA_42, cA_54, cA_66, cA_78, cA_90, cA_102, cA_114, cA_126, cA_138, cA_210, cA_222, lc_0, lc_1, lc_2, lc_3, lc_4, lc_5, g_143_20, q_148, nI_neg (show 30 + p < 2 ^ 31 by omega), nI_clamp (show 30 + p < 2 ^ 31 by omega), k_148 (show 30 + p < 2530 by omega), l_148 (show 30 + p < 2530 by omega), nI_neg (show 126 + p < 2 ^ 31 by omega), nI_clamp (show 126 + p < 2 ^ 31 by omega), k_148 (show 126 + p < 2530 by omega), l_148 (show 126 + p < 2530 by omega), nI_neg (show 138 + 6 * p < 2 ^ 31 by omega), nI_clamp (show 138 + 6 * p < 2 ^ 31 by omega), k_148 (show 138 + 6 * p < 2530 by omega), l_148 (show 138 + 6 * p < 2530 by omega), c_143, hW.c1 hR1, if_neg (nI_ge hp (by omega : N < 2 ^ 31)), v_lives hW hR1 hp, hR1.bears p hp, hR1.likes p hp, e6, nI_1, Option.bind_some, Option.isSome_some, Option.toList, List.cons_append, List.nil_append, zclr_i, zclr_r, zclr_n, zfit_i, zfit_l, and_self, if_true, if_false]
      unfold cHappy
      by_cases h1 : I (16 + 12) p = 0
      · by_cases h2 : I (16 + 6) p = -1 <;> by_cases h3 : I (16 + 7) p = -1 <;> simp [h0', h1, h2, h3, bI, nI_1]
      · have hk : 0 < pK I 16 p := by
          unfold pK
          rw [eK] at h1 ⊢
          rw [nI_clamp (by omega)]
          rcases Nat.eq_zero_or_pos K with e | e
          · subst e
            exact absurd rfl h1
          · exact e
        rw [show (zu (zu (zu I 3 0 0) 143 1 0) 143 0 0) 148 (138 + 6 * p) = I (16 + 13) (p * 6) from hR1.like p 0 hp hk]
        by_cases h2 : I (16 + 6) p = -1 <;> by_cases h3 : I (16 + 7) p = -1 <;> by_cases h4 : I (16 + 13) (p * 6) = I (16 + 7) p <;> simp [h0', h1, h2, h3, h4, bI, nI_1]
    · rw [e_X12_content_14]
      simp only [e_X12_content_0, e_X12_content_1, e_X12_content_2, e_X12_content_5, e_X12_content_6, e_X12_content_7, e_X12_content_10, e_X12_content_11, e_X12_content_12, e_X12_content_13, e_X12_content_15, e_X12_content_16, e_X12_content_19, e_X12_content_20, e_X12_content_21, e_X12_content_24, e_X12_content_25, e_X12_content_26, e_X12_content_27, e_X12_content_30, e_X12_content_33, e_X12_content_34, e_X12_content_37, e_X12_content_39, e_X12_content_40, e_X12_content_41, e_X12_content_42, e_X12_content_45, e_X12_content_46, e_X12_content_49, e_X12_content_51, e_X12_content_52, e_X12_content_53, e_X12_content_54, e_X12_content_57, e_X12_content_58, e_X12_content_61, e_X12_content_64, e_X12_content_66, e_X12_content_67, e_X12_content_68, e_X12_content_69, e_X12_content_70, e_X12_content_71, e_X12_content_74, e_X12_content_76, e_X12_content_77, e_X12_content_78, e_X12_content_79, e_X12_content_82, e_X12_content_83, e_X12_content_86, e_X12_content_87, e_X12_content_88, e_X12_content_89, e_X12_content_92, e_X12_content_95, e_X12_content_96, cA_6, cA_12, cA_18, cA_30, cA_42, cA_54, cA_66, cA_78, cA_90, cA_102, cA_114, cA_126, cA_138, cA_210, cA_222, lc_0, lc_1, lc_2, lc_3, lc_4, lc_5, g_143_20, q_148, hW.c1 hR1, if_pos (nI_le (Nat.le_refl N) (by omega : N < 2 ^ 31)), Option.bind_some, Option.isSome_some, Option.toList, List.cons_append, List.nil_append, zclr_i, zclr_r, zclr_n, zfit_i, zfit_l, and_self, if_true, if_false]
      rfl
end QP
