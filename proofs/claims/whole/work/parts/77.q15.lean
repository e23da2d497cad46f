/-! CALLS: match, richest, content -/
section QO
variable {n m : Nat} {g : Nat → zC} {I A : Nat → Nat → Int32} {J : Nat → Nat → Int64} {N S U b : Nat}
theorem zfor_rel {α β : Type} {f : Nat → α → α} {f' : Nat → β → β} {Q : Nat → α → β → Prop} {N : Nat} (hs : ∀ p x y, p < N → Q p x y → Q (p + 1) (f p x) (f' p y)) : ∀ k p x y, p + k = N → Q p x y → Q N (zfor f p k x) (zfor f' p k y)
  | 0, p, x, y, h, hq => by
    have : p = N := by omega
    subst this
    exact hq
  | k + 1, p, x, y, h, hq => zfor_rel hs k (p + 1) _ _ (by omega) (hs p x y (by omega) hq)
def rStep (A : Nat → Nat → Int32) (b p : Nat) (a : Option Nat) : Option Nat := if A (b + 6) p = -1 then (match a with | none => some p | some r => if tRich A b r < tRich A b p then some p else some r) else a
theorem rStep_lt {p : Nat} {a : Option Nat} (hp : p < N) (ha : ∀ r, a = some r → r < N) : ∀ r, rStep A b p a = some r → r < N := by
  intro r h
  unfold rStep at h
  cases a with
  | none =>
    split at h
    · simp at h; omega
    · simp at h
  | some q =>
    have hq := ha q rfl
    split at h
    · dsimp only at h
      split at h
      · simp at h; omega
      · simp at h; omega
    · simp at h; omega
theorem q_richest (h : Inv I J N S) (d : Nat) : Eqv (d + 30) 207 390 [] n m g I J := by
  have hW := h.W
  have h12 := hW.h12
  have h6 := hW.h6
  have hb : ∀ r, r < N → I (16 + 7) r = -1 ∨ ∃ s, s < 6 ∧ I (16 + 7) r = nI s := hW.bear6
  have tr : ∀ r, r < N → ∀ d, zcall d 96 [.ref 16, .int (nI r)] (mk n m g I J) = some (some (.int (tRich I 16 r)), mk n m g I J) := fun r hr d => t_riches t16 (by omega) (hb r hr) d
  have hc := zloopI (fun p (a : Option Nat) => zexec (d + 30) 207 4 [some (.ref 3), some (.int (oI a)), some (.int (nI p))] [] (mk n m g I J)) (rStep I 16) (fun _ a => ∀ r, a = some r → r < N) N ?_ N 0 none (by omega) (fun r e => by simp at e)
  · have hv : ∀ w : Int32, RT I 16 ((zu (zu (zu I 3 0 w) 143 1 0) 143 0 0) 148) N S := fun w => h.R
    have hr : ∀ w : Int32, zexec (d + 30) 390 14 [some (.ref 143), some (.int (oI none)), some (.int (nI 0))] [] (mk n m g (zu (zu (zu I 3 0 w) 143 1 0) 143 0 0) J) = zexec (d + 30) 390 14 [some (.ref 143), some (.int (oI (zfor (rStep I 16) 0 N none))), some (.int (nI N))] [] (mk n m g (zu (zu (zu I 3 0 w) 143 1 0) 143 0 0) J) := by
      intro w
      have hR1 := hv w
      have hc := zloopI (fun p (a : Option Nat) => zexec (d + 30) 390 14 [some (.ref 143), some (.int (oI a)), some (.int (nI p))] [] (mk n m g (zu (zu (zu I 3 0 w) 143 1 0) 143 0 0) J)) (rStep I 16) (fun _ a => ∀ r, a = some r → r < N) N ?_ N 0 none (by omega) (fun r e => by simp at e)
      · exact hc.1
      · intro p a hp ha
        refine ⟨?_, rStep_lt hp ha⟩
        rw [e_X12_richest_14]
        cases a with
        | none =>
          simp only [e_X12_richest_0, e_X12_richest_1, e_X12_richest_2, e_X12_richest_5, e_X12_richest_6, e_X12_richest_7, e_X12_richest_10, e_X12_richest_11, e_X12_richest_12, e_X12_richest_13, e_X12_richest_15, e_X12_richest_16, e_X12_richest_19, e_X12_richest_20, e_X12_richest_21, e_X12_richest_24, e_X12_richest_25, e_X12_richest_26, e_X12_richest_29, e_X12_richest_32, e_X12_richest_33, e_X12_richest_36, e_X12_richest_37, e_X12_richest_38, e_X12_richest_41, e_X12_richest_42, e_X12_richest_43, e_X12_richest_46, e_X12_richest_49, e_X12_richest_50, e_X12_richest_51, e_X12_richest_54, e_X12_richest_57, e_X12_richest_58, e_X12_richest_61, e_X12_richest_62, e_X12_richest_64, e_X12_richest_67, e_X12_richest_70, e_X12_richest_71, cA_6, cA_12, cA_18, cA_30, cA_42, cA_54, cA_66, cA_78, cA_90, cA_102, cA_114, cA_126, cA_138, cA_210, cA_222, lc_0, lc_1, lc_2, lc_3, lc_4, lc_5, g_143_20, q_148, c_143, hW.c1 hR1, if_neg (nI_ge hp (by omega : N < 2 ^ 31)), v_lives hW hR1 hp, oI, nI_1, show ((-1 : Int32) < 0) = True by decide, Option.bind_some, Option.isSome_some, Option.toList, List.cons_append, List.nil_append, zclr_i, zclr_r, zclr_n, zfit_i, zfit_l, and_self, if_true, if_false]
          unfold rStep
          by_cases h1 : I (16 + 6) p = -1 <;> simp [h1, bI]
        | some r =>
          have hr := ha r rfl
          simp only [e_X12_richest_0, e_X12_richest_1, e_X12_richest_2, e_X12_richest_5, e_X12_richest_6, e_X12_richest_7, e_X12_richest_10, e_X12_richest_11, e_X12_richest_12, e_X12_richest_13, e_X12_richest_15, e_X12_richest_16, e_X12_richest_19, e_X12_richest_20, e_X12_richest_21, e_X12_richest_24, e_X12_richest_25, e_X12_richest_26, e_X12_richest_29, e_X12_richest_32, e_X12_richest_33, e_X12_richest_36, e_X12_richest_37, e_X12_richest_38, e_X12_richest_41, e_X12_richest_42, e_X12_richest_43, e_X12_richest_46, e_X12_richest_49, e_X12_richest_50, e_X12_richest_51, e_X12_richest_54, e_X12_richest_57, e_X12_richest_58, e_X12_richest_61, e_X12_richest_62, e_X12_richest_64, e_X12_richest_67, e_X12_richest_70, e_X12_richest_71, cA_6, cA_12, cA_18, cA_30, cA_42, cA_54, cA_66, cA_78, cA_90, cA_102, cA_114, cA_126, cA_138, cA_210, cA_222, lc_0, lc_1, lc_2, lc_3, lc_4, lc_5, g_143_20, q_148, c_143, hW.c1 hR1, if_neg (nI_ge hp (by omega : N < 2 ^ 31)), v_lives hW hR1 hp, oI, nI_1, if_neg (nI_pos (show r < 2 ^ 31 by omega)), v_wealthOf hW hR1 hp, v_wealthOf hW hR1 hr, Option.bind_some, Option.isSome_some, Option.toList, List.cons_append, List.nil_append, zclr_i, zclr_r, zclr_n, zfit_i, zfit_l, and_self, if_true, if_false]
          unfold rStep
          by_cases h1 : I (16 + 6) p = -1
          · by_cases h2 : tRich I 16 r < tRich I 16 p
            · simp [h1, h2, Int32.not_le.mpr h2, bI]
            · simp [h1, h2, Int32.not_lt.mp h2, bI]
          · simp [h1, bI]
    have hcl : zcall (d + 30) 207 [.ref 3] (mk n m g I J) = zexec (d + 30) 207 4 [some (.ref 3), some (.int (oI (zfor (rStep I 16) 0 N none))), some (.int (nI N))] [] (mk n m g I J) := by
      rw [m_X11_richest]
      simp only [e_X11_richest_0, e_X11_richest_1, e_X11_richest_2, e_X11_richest_3, e_X11_richest_5, e_X11_richest_6, e_X11_richest_9, e_X11_richest_12, e_X11_richest_15, e_X11_richest_16, e_X11_richest_19, e_X11_richest_20, e_X11_richest_23, e_X11_richest_26, e_X11_richest_27, e_X11_richest_28, e_X11_richest_31, e_X11_richest_32, e_X11_richest_35, e_X11_richest_36, e_X11_richest_39, e_X11_richest_40, e_X11_richest_43, e_X11_richest_44, e_X11_richest_47, e_X11_richest_50, e_X11_richest_51, e_X11_richest_52, e_X11_richest_55, e_X11_richest_58, e_X11_richest_59, e_X11_richest_60, e_X11_richest_63, Option.bind_some, Option.isSome_some, Option.toList, List.cons_append, List.nil_append, zclr_i, zclr_r, zclr_n, zfit_i, zfit_l, and_self, if_true, if_false]
      exact hc.1
    have hlt := hc.2
    cases hz : zfor (rStep I 16) 0 N none with
    | none =>
      refine ⟨.int (-1), zu I 3 0 8, J, st 8 I, J, N, S, ?_, ?_, h.stI⟩
      · refine hcl.trans ?_
        rw [hz, e_X11_richest_4]
        simp only [e_X11_richest_0, e_X11_richest_1, e_X11_richest_2, e_X11_richest_3, e_X11_richest_5, e_X11_richest_6, e_X11_richest_9, e_X11_richest_12, e_X11_richest_15, e_X11_richest_16, e_X11_richest_19, e_X11_richest_20, e_X11_richest_23, e_X11_richest_26, e_X11_richest_27, e_X11_richest_28, e_X11_richest_31, e_X11_richest_32, e_X11_richest_35, e_X11_richest_36, e_X11_richest_39, e_X11_richest_40, e_X11_richest_43, e_X11_richest_44, e_X11_richest_47, e_X11_richest_50, e_X11_richest_51, e_X11_richest_52, e_X11_richest_55, e_X11_richest_58, e_X11_richest_59, e_X11_richest_60, e_X11_richest_63, c_3, g_3_7, g_T0_4 t16, hW.hN, if_pos (nI_le (Nat.le_refl N) (by omega : N < 2 ^ 31)), n_answerIfAny, oI, Option.bind_some, Option.isSome_some, Option.toList, List.cons_append, List.nil_append, zclr_i, zclr_r, zclr_n, zfit_i, zfit_l, and_self, if_true, if_false]
      · rw [m_X12_richest]
        simp only [e_X12_richest_0, e_X12_richest_1, e_X12_richest_2, e_X12_richest_5, e_X12_richest_6, e_X12_richest_7, e_X12_richest_10, e_X12_richest_11, e_X12_richest_12, e_X12_richest_13, e_X12_richest_15, e_X12_richest_16, e_X12_richest_19, e_X12_richest_20, e_X12_richest_21, e_X12_richest_24, e_X12_richest_25, e_X12_richest_26, e_X12_richest_29, e_X12_richest_32, e_X12_richest_33, e_X12_richest_36, e_X12_richest_37, e_X12_richest_38, e_X12_richest_41, e_X12_richest_42, e_X12_richest_43, e_X12_richest_46, e_X12_richest_49, e_X12_richest_50, e_X12_richest_51, e_X12_richest_54, e_X12_richest_57, e_X12_richest_58, e_X12_richest_61, e_X12_richest_62, e_X12_richest_64, e_X12_richest_67, e_X12_richest_70, e_X12_richest_71, g_143_0, g_143_1, p_143_0, p_143_1, Option.bind_some, Option.isSome_some, Option.toList, List.cons_append, List.nil_append, zclr_i, zclr_r, zclr_n, zfit_i, zfit_l, and_self, if_true, if_false]
        refine (hr 8).trans ?_
        rw [hz, e_X12_richest_14]
        simp only [e_X12_richest_0, e_X12_richest_1, e_X12_richest_2, e_X12_richest_5, e_X12_richest_6, e_X12_richest_7, e_X12_richest_10, e_X12_richest_11, e_X12_richest_12, e_X12_richest_13, e_X12_richest_15, e_X12_richest_16, e_X12_richest_19, e_X12_richest_20, e_X12_richest_21, e_X12_richest_24, e_X12_richest_25, e_X12_richest_26, e_X12_richest_29, e_X12_richest_32, e_X12_richest_33, e_X12_richest_36, e_X12_richest_37, e_X12_richest_38, e_X12_richest_41, e_X12_richest_42, e_X12_richest_43, e_X12_richest_46, e_X12_richest_49, e_X12_richest_50, e_X12_richest_51, e_X12_richest_54, e_X12_richest_57, e_X12_richest_58, e_X12_richest_61, e_X12_richest_62, e_X12_richest_64, e_X12_richest_67, e_X12_richest_70, e_X12_richest_71, cA_6, cA_12, cA_18, cA_30, cA_42, cA_54, cA_66, cA_78, cA_90, cA_102, cA_114, cA_126, cA_138, cA_210, cA_222, lc_0, lc_1, lc_2, lc_3, lc_4, lc_5, g_143_20, q_148, c_143, hW.c1 (hv 8), if_pos (nI_le (Nat.le_refl N) (by omega : N < 2 ^ 31)), v_refuse, oI, st_eq, Option.bind_some, Option.isSome_some, Option.toList, List.cons_append, List.nil_append, zclr_i, zclr_r, zclr_n, zfit_i, zfit_l, and_self, if_true, if_false]
        rfl
    | some r =>
      have hrN := hlt r hz
      refine ⟨.int (nI r), zu I 3 0 0, J, st 0 I, J, N, S, ?_, ?_, h.stI⟩
      · refine hcl.trans ?_
        rw [hz, e_X11_richest_4]
        simp only [e_X11_richest_0, e_X11_richest_1, e_X11_richest_2, e_X11_richest_3, e_X11_richest_5, e_X11_richest_6, e_X11_richest_9, e_X11_richest_12, e_X11_richest_15, e_X11_richest_16, e_X11_richest_19, e_X11_richest_20, e_X11_richest_23, e_X11_richest_26, e_X11_richest_27, e_X11_richest_28, e_X11_richest_31, e_X11_richest_32, e_X11_richest_35, e_X11_richest_36, e_X11_richest_39, e_X11_richest_40, e_X11_richest_43, e_X11_richest_44, e_X11_richest_47, e_X11_richest_50, e_X11_richest_51, e_X11_richest_52, e_X11_richest_55, e_X11_richest_58, e_X11_richest_59, e_X11_richest_60, e_X11_richest_63, c_3, g_3_7, g_T0_4 t16, hW.hN, if_pos (nI_le (Nat.le_refl N) (by omega : N < 2 ^ 31)), n_answerIfAny, oI, if_neg (nI_m1 (show r < 2 ^ 31 by omega)), Option.bind_some, Option.isSome_some, Option.toList, List.cons_append, List.nil_append, zclr_i, zclr_r, zclr_n, zfit_i, zfit_l, and_self, if_true, if_false]
      · rw [m_X12_richest]
        simp only [e_X12_richest_0, e_X12_richest_1, e_X12_richest_2, e_X12_richest_5, e_X12_richest_6, e_X12_richest_7, e_X12_richest_10, e_X12_richest_11, e_X12_richest_12, e_X12_richest_13, e_X12_richest_15, e_X12_richest_16, e_X12_richest_19, e_X12_richest_20, e_X12_richest_21, e_X12_richest_24, e_X12_richest_25, e_X12_richest_26, e_X12_richest_29, e_X12_richest_32, e_X12_richest_33, e_X12_richest_36, e_X12_richest_37, e_X12_richest_38, e_X12_richest_41, e_X12_richest_42, e_X12_richest_43, e_X12_richest_46, e_X12_richest_49, e_X12_richest_50, e_X12_richest_51, e_X12_richest_54, e_X12_richest_57, e_X12_richest_58, e_X12_richest_61, e_X12_richest_62, e_X12_richest_64, e_X12_richest_67, e_X12_richest_70, e_X12_richest_71, g_143_0, g_143_1, p_143_0, p_143_1, Option.bind_some, Option.isSome_some, Option.toList, List.cons_append, List.nil_append, zclr_i, zclr_r, zclr_n, zfit_i, zfit_l, and_self, if_true, if_false]
        refine (hr 0).trans ?_
        rw [hz, e_X12_richest_14]
        simp only [e_X12_richest_0, e_X12_richest_1, e_X12_richest_2, e_X12_richest_5, e_X12_richest_6, e_X12_richest_7, e_X12_richest_10, e_X12_richest_11, e_X12_richest_12, e_X12_richest_13, e_X12_richest_15, e_X12_richest_16, e_X12_richest_19, e_X12_richest_20, e_X12_richest_21, e_X12_richest_24, e_X12_richest_25, e_X12_richest_26, e_X12_richest_29, e_X12_richest_32, e_X12_richest_33, e_X12_richest_36, e_X12_richest_37, e_X12_richest_38, e_X12_richest_41, e_X12_richest_42, e_X12_richest_43, e_X12_richest_46, e_X12_richest_49, e_X12_richest_50, e_X12_richest_51, e_X12_richest_54, e_X12_richest_57, e_X12_richest_58, e_X12_richest_61, e_X12_richest_62, e_X12_richest_64, e_X12_richest_67, e_X12_richest_70, e_X12_richest_71, cA_6, cA_12, cA_18, cA_30, cA_42, cA_54, cA_66, cA_78, cA_90, cA_102, cA_114, cA_126, cA_138, cA_210, cA_222, lc_0, lc_1, lc_2, lc_3, lc_4, lc_5, g_143_20, q_148, c_143, hW.c1 (hv 0), if_pos (nI_le (Nat.le_refl N) (by omega : N < 2 ^ 31)), oI, if_pos (Int32.not_lt.mp (nI_pos (show r < 2 ^ 31 by omega))), Option.bind_some, Option.isSome_some, Option.toList, List.cons_append, List.nil_append, zclr_i, zclr_r, zclr_n, zfit_i, zfit_l, and_self, if_true, if_false]
        rfl
  · intro p a hp ha
    refine ⟨?_, rStep_lt hp ha⟩
    rw [e_X11_richest_4]
    cases a with
    | none =>
      simp only [e_X11_richest_0, e_X11_richest_1, e_X11_richest_2, e_X11_richest_3, e_X11_richest_5, e_X11_richest_6, e_X11_richest_9, e_X11_richest_12, e_X11_richest_15, e_X11_richest_16, e_X11_richest_19, e_X11_richest_20, e_X11_richest_23, e_X11_richest_26, e_X11_richest_27, e_X11_richest_28, e_X11_richest_31, e_X11_richest_32, e_X11_richest_35, e_X11_richest_36, e_X11_richest_39, e_X11_richest_40, e_X11_richest_43, e_X11_richest_44, e_X11_richest_47, e_X11_richest_50, e_X11_richest_51, e_X11_richest_52, e_X11_richest_55, e_X11_richest_58, e_X11_richest_59, e_X11_richest_60, e_X11_richest_63, c_3, c_T0 t16, g_3_7, g_T0_4 t16, hW.hN, if_neg (nI_ge hp (by omega : N < 2 ^ 31)), t_lives t16 (show p < 12 by omega), oI, nI_1, Option.bind_some, Option.isSome_some, Option.toList, List.cons_append, List.nil_append, zclr_i, zclr_r, zclr_n, zfit_i, zfit_l, and_self, if_true, if_false]
      unfold rStep
      by_cases h1 : I (16 + 6) p = -1 <;> simp [h1, bI]
    | some r =>
      have hr := ha r rfl
      simp only [e_X11_richest_0, e_X11_richest_1, e_X11_richest_2, e_X11_richest_3, e_X11_richest_5, e_X11_richest_6, e_X11_richest_9, e_X11_richest_12, e_X11_richest_15, e_X11_richest_16, e_X11_richest_19, e_X11_richest_20, e_X11_richest_23, e_X11_richest_26, e_X11_richest_27, e_X11_richest_28, e_X11_richest_31, e_X11_richest_32, e_X11_richest_35, e_X11_richest_36, e_X11_richest_39, e_X11_richest_40, e_X11_richest_43, e_X11_richest_44, e_X11_richest_47, e_X11_richest_50, e_X11_richest_51, e_X11_richest_52, e_X11_richest_55, e_X11_richest_58, e_X11_richest_59, e_X11_richest_60, e_X11_richest_63, c_3, c_T0 t16, g_3_7, g_T0_4 t16, hW.hN, if_neg (nI_ge hp (by omega : N < 2 ^ 31)), t_lives t16 (show p < 12 by omega), oI, nI_1, if_neg (nI_m1 (show r < 2 ^ 31 by omega)), tr p hp, tr r hr, Option.bind_some, Option.isSome_some, Option.toList, List.cons_append, List.nil_append, zclr_i, zclr_r, zclr_n, zfit_i, zfit_l, and_self, if_true, if_false]
      unfold rStep
      by_cases h1 : I (16 + 6) p = -1
      · by_cases h2 : tRich I 16 r < tRich I 16 p
        · simp [h1, h2, Int32.not_le.mpr h2, bI]
        · simp [h1, h2, Int32.not_lt.mp h2, bI]
      · simp [h1, bI]
end QO
