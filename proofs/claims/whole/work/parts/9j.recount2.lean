/-! RECOUNT: the reference, and both -/
section RD
variable {n m : Nat} {g : Nat → zC} {I X A : Nat → Nat → Int32} {J : Nat → Nat → Int64} {N S U b : Nat}
/-- what the reference's counts are -/
def csOk (I : Nat → Nat → Int32) (N S : Nat) (bs cs : Nat → Int32) : Prop := ∀ s, s < S → cs s = nI (cc I N bs (nI s))
theorem v_anew {M p : Nat} {bs : Nat → Int32} (hW : WT I 16 N S U) (hR : RT I 16 (X 148) N S) (hc : csOk I N S bs (X 156)) (hM : M < 10) (hp : p < N) (d : Nat) : zcall d 392 [.ref 143, .int (nI p), .int (nI M)] (mk n m g X J) = some (some (.int (fw I N M bs p)), mk n m g X J) := by
  have h12 := hW.h12
  have h6 := hW.h6
  obtain ⟨K, hK, eK⟩ := hW.likes p hp
  have ek : pK I 16 p = K := by
    unfold pK
    rw [eK, nI_clamp (by omega)]
  have hge : ∀ s, (nI M ≤ nI (cc I N bs s)) = ¬ cc I N bs s < M := fun s => by
    have := cc_le (I := I) (N := N) (bs := bs) (s := s)
    apply propext
    constructor
    · intro h h2
      exact nI_ge h2 (by omega) h
    · intro h
      exact nI_le (by omega) (by omega)
  have hl : ∀ f k, k + f = K → zexec d 392 29 [some (.ref 143), some (.int (nI p)), some (.int (nI M)), some (.int (I (16 + 7) p)), some (.int (nI k))] [] (mk n m g X J) = some (some (.int (fwL I N M bs p k f)), mk n m g X J) := by
    intro f
    induction f with
    | zero =>
      intro k hk
      rw [e_X12_anew_29]
      simp only [e_X12_anew_31, e_X12_anew_32, e_X12_anew_35, e_X12_anew_37, e_X12_anew_38, e_X12_anew_39, e_X12_anew_40, e_X12_anew_91, e_X12_anew_92, cA_6, cA_12, cA_18, cA_30, cA_42, cA_54, cA_66, cA_78, cA_90, cA_102, cA_114, cA_126, cA_138, cA_210, cA_222, lc_0, lc_1, lc_2, lc_3, lc_4, lc_5, g_143_20, q_148, nI_neg (show 126 + p < 2 ^ 31 by omega), nI_clamp (show 126 + p < 2 ^ 31 by omega), k_148 (show 126 + p < 2530 by omega), l_148 (show 126 + p < 2530 by omega), hR.likes p hp, eK, if_pos (nI_le (show K ≤ k by omega) (by omega : k < 2 ^ 31)), Option.bind_some, Option.isSome_some, Option.toList, List.cons_append, List.nil_append, zclr_i, zclr_r, zclr_n, zfit_i, zfit_l, and_self, if_true, if_false]
      rfl
    | succ f ih =>
      intro k hk
      have e6 : (138 : Int32) + 6 * nI p + nI k = nI (138 + (6 * p + k)) := by
        rw [show (6 : Int32) * nI p = nI (6 * p) from by rw [show (6 : Int32) = nI 6 from rfl, pk_mul], cA_138, nI_add, Nat.add_assoc]
      obtain ⟨s, hs, es⟩ := hW.like p k hp (by omega)
      rw [e_X12_anew_29, fwL]
      simp only [e_X12_anew_31, e_X12_anew_32, e_X12_anew_35, e_X12_anew_37, e_X12_anew_38, e_X12_anew_39, e_X12_anew_40, e_X12_anew_43, e_X12_anew_44, e_X12_anew_47, e_X12_anew_48, e_X12_anew_51, e_X12_anew_54, e_X12_anew_56, e_X12_anew_57, e_X12_anew_58, e_X12_anew_59, e_X12_anew_61, e_X12_anew_62, e_X12_anew_63, e_X12_anew_64, e_X12_anew_65, e_X12_anew_68, e_X12_anew_69, e_X12_anew_72, e_X12_anew_75, e_X12_anew_77, e_X12_anew_78, e_X12_anew_79, e_X12_anew_80, e_X12_anew_82, e_X12_anew_83, e_X12_anew_84, e_X12_anew_85, e_X12_anew_88, cA_6, cA_12, cA_18, cA_30, cA_42, cA_54, cA_66, cA_78, cA_90, cA_102, cA_114, cA_126, cA_138, cA_210, cA_222, lc_0, lc_1, lc_2, lc_3, lc_4, lc_5, g_143_20, q_148, nI_neg (show 126 + p < 2 ^ 31 by omega), nI_clamp (show 126 + p < 2 ^ 31 by omega), k_148 (show 126 + p < 2530 by omega), l_148 (show 126 + p < 2530 by omega), nI_neg (show 138 + (6 * p + k) < 2 ^ 31 by omega), nI_clamp (show 138 + (6 * p + k) < 2 ^ 31 by omega), k_148 (show 138 + (6 * p + k) < 2530 by omega), l_148 (show 138 + (6 * p + k) < 2530 by omega), g_143_32, hR.likes p hp, eK, if_neg (nI_ge (show k < K by omega) (by omega : K < 2 ^ 31)), e6, hR.like p k hp (by omega), es, l_156 (show s < 6 by omega), hc s hs, hge, nI_1, ih (k + 1) (by omega), Option.bind_some, Option.isSome_some, Option.toList, List.cons_append, List.nil_append, zclr_i, zclr_r, zclr_n, zfit_i, zfit_l, and_self, if_true, if_false]
      by_cases e : cc I N bs (nI s) < M <;> simp [e]
  have hl0 : zexec d 392 29 [some (.ref 143), some (.int (nI p)), some (.int (nI M)), some (.int (I (16 + 7) p)), some (.int 0)] [] (mk n m g X J) = some (some (.int (fwL I N M bs p 0 K)), mk n m g X J) := hl K 0 (by omega)
  rw [m_X12_anew]
  unfold fw
  rw [ek]
  rcases hW.bears p hp with e1 | ⟨s, hs, e1⟩
  · rw [e1] at hl0 ⊢
    simp only [e_X12_anew_0, e_X12_anew_1, e_X12_anew_4, e_X12_anew_6, e_X12_anew_7, e_X12_anew_8, e_X12_anew_9, e_X12_anew_10, e_X12_anew_11, e_X12_anew_14, e_X12_anew_15, e_X12_anew_18, e_X12_anew_19, e_X12_anew_20, e_X12_anew_21, e_X12_anew_24, e_X12_anew_25, e_X12_anew_26, e_X12_anew_27, cA_6, cA_12, cA_18, cA_30, cA_42, cA_54, cA_66, cA_78, cA_90, cA_102, cA_114, cA_126, cA_138, cA_210, cA_222, lc_0, lc_1, lc_2, lc_3, lc_4, lc_5, g_143_20, q_148, nI_neg (show 30 + p < 2 ^ 31 by omega), nI_clamp (show 30 + p < 2 ^ 31 by omega), k_148 (show 30 + p < 2530 by omega), l_148 (show 30 + p < 2530 by omega), hR.bears p hp, e1, show ((-1 : Int32) < 0) = True by decide, hl0, Option.bind_some, Option.isSome_some, Option.toList, List.cons_append, List.nil_append, zclr_i, zclr_r, zclr_n, zfit_i, zfit_l, and_self, if_true, if_false]
    simp
  · rw [e1] at hl0 ⊢
    simp only [e_X12_anew_0, e_X12_anew_1, e_X12_anew_4, e_X12_anew_6, e_X12_anew_7, e_X12_anew_8, e_X12_anew_9, e_X12_anew_10, e_X12_anew_11, e_X12_anew_14, e_X12_anew_15, e_X12_anew_18, e_X12_anew_19, e_X12_anew_20, e_X12_anew_21, e_X12_anew_24, e_X12_anew_25, e_X12_anew_26, e_X12_anew_27, cA_6, cA_12, cA_18, cA_30, cA_42, cA_54, cA_66, cA_78, cA_90, cA_102, cA_114, cA_126, cA_138, cA_210, cA_222, lc_0, lc_1, lc_2, lc_3, lc_4, lc_5, g_143_20, q_148, nI_neg (show 30 + p < 2 ^ 31 by omega), nI_clamp (show 30 + p < 2 ^ 31 by omega), k_148 (show 30 + p < 2530 by omega), l_148 (show 30 + p < 2530 by omega), g_143_32, hR.bears p hp, e1, nI_neg (show s < 2 ^ 31 by omega), l_156 (show s < 6 by omega), hc s hs, hge, hl0, Option.bind_some, Option.isSome_some, Option.toList, List.cons_append, List.nil_append, zclr_i, zclr_r, zclr_n, zfit_i, zfit_l, and_self, if_true, if_false]
    have : ¬ nI s = -1 := nI_m1 (by omega)
    by_cases e : cc I N bs (nI s) < M <;> simp [e, this]
theorem fwL_case {M p : Nat} {bs : Nat → Int32} (hW : WT I 16 N S U) (hp : p < N) : ∀ f k, k + f = pK I 16 p → fwL I N M bs p k f = -1 ∨ ∃ s, s < S ∧ fwL I N M bs p k f = nI s
  | 0, _, _ => .inl rfl
  | f + 1, k, hk => by
    rw [fwL]
    split
    · exact .inr (hW.like p k hp (by omega))
    · exact fwL_case hW hp f (k + 1) (by omega)
theorem fw_case {M p : Nat} {bs : Nat → Int32} (hW : WT I 16 N S U) (hp : p < N) : fw I N M bs p = -1 ∨ ∃ s, s < S ∧ fw I N M bs p = nI s := by
  unfold fw
  split
  · exact hW.bears p hp
  · exact fwL_case hW hp _ _ (by omega)
/-- how many went without -/
def dsh (I : Nat → Nat → Int32) (N r : Nat) (bs : Nat → Int32) : Nat := cnt (fun p => decide (p < N) && decide (I (16 + 6) p = -1) && !r.testBit p && decide (bs p = -1)) 12
theorem dsh_le {r : Nat} {bs : Nat → Int32} : dsh I N r bs ≤ 12 := by
  have := cnt_le (fun p => decide (p < N) && decide (I (16 + 6) p = -1) && !r.testBit p && decide (bs p = -1)) 12 0 0
  rw [Nat.zero_add] at this
  exact this
theorem tEld_n {r p : Nat} (hr : r < 4096) (hp : p < 12) : tEld A b (nI r) p none = if r.testBit p = true then some p else none := by
  unfold tEld
  rw [bit_isS (isS_nI hr) hp]
  cases r.testBit p <;> simp
theorem tEld_s {r p q : Nat} (hr : r < 4096) (hp : p < 12) : tEld A b (nI r) p (some q) = if r.testBit p = true then (if A (b + 5) p < A (b + 5) q then some p else some q) else some q := by
  unfold tEld
  rw [bit_isS (isS_nI hr) hp]
  cases r.testBit p <;> simp
/-- the reference's search for the eldest -/
theorem vr_eld {r : Nat} {x1 x2 : Int32} {y : Option Int32} (hW : WT I 16 N S U) (hR : RT I 16 (X 148) N S) (hr : r < 4096) (d : Nat) : zexec (d + 1) 393 66 [some (.ref 143), some (.int x1), some (.int x2), some (.int (nI r)), some (.int (-1)), some (.int (nI 0))] [] (mk n m g X J) = zexec (d + 1) 393 124 [some (.ref 143), some (.int x1), some (.int x2), some (.int (nI r)), some (.int (oI (zfor (tEld I 16 (nI r)) 0 N none))), some (.int (nI N))] [] (mk n m g X J) := by
  have h12 := hW.h12
  have h := zloopI (fun p (a : Option Nat) => zexec (d + 1) 393 66 [some (.ref 143), some (.int x1), some (.int x2), some (.int (nI r)), some (.int (oI a)), some (.int (nI p))] [] (mk n m g X J)) (tEld I 16 (nI r)) (fun _ a => ∀ q, a = some q → q < N) N ?_ N 0 none (by omega) (by intro q hq; cases hq)
  · sorry
    /-
    rw [e_X12_recount_66]
    simp only [e_X12_recount_68, e_X12_recount_69, e_X12_recount_72, e_X12_recount_73, e_X12_recount_74, cA_6, cA_12, cA_18, cA_30, cA_42, cA_54, cA_66, cA_78, cA_90, cA_102, cA_114, cA_126, cA_138, cA_210, cA_222, lc_0, lc_1, lc_2, lc_3, lc_4, lc_5, g_143_20, q_148, hW.c1 hR, if_pos (nI_le (Nat.le_refl N) (by omega : N < 2 ^ 31)), Option.bind_some, Option.isSome_some, Option.toList, List.cons_append, List.nil_append, zclr_i, zclr_r, zclr_n, zfit_i, zfit_l, and_self, if_true, if_false]
    -/
  · intro p a hp ha
    refine ⟨?_, fun q hq => ?_⟩
    · rw [e_X12_recount_66]
      cases a with
      | none =>
        rw [tEld_n hr (show p < 12 by omega)]
        simp only [e_X12_recount_68, e_X12_recount_69, e_X12_recount_72, e_X12_recount_73, e_X12_recount_74, e_X12_recount_77, e_X12_recount_78, e_X12_recount_80, e_X12_recount_83, e_X12_recount_86, e_X12_recount_88, e_X12_recount_91, e_X12_recount_92, e_X12_recount_95, e_X12_recount_97, e_X12_recount_99, e_X12_recount_100, e_X12_recount_101, e_X12_recount_102, e_X12_recount_105, e_X12_recount_107, e_X12_recount_109, e_X12_recount_110, e_X12_recount_111, e_X12_recount_114, e_X12_recount_116, e_X12_recount_118, e_X12_recount_121, cA_6, cA_12, cA_18, cA_30, cA_42, cA_54, cA_66, cA_78, cA_90, cA_102, cA_114, cA_126, cA_138, cA_210, cA_222, lc_0, lc_1, lc_2, lc_3, lc_4, lc_5, g_143_20, q_148, nI_neg (show 18 + p < 2 ^ 31 by omega), nI_clamp (show 18 + p < 2 ^ 31 by omega), k_148 (show 18 + p < 2530 by omega), l_148 (show 18 + p < 2530 by omega), hW.c1 hR, if_neg (nI_ge hp (by omega : N < 2 ^ 31)), v_hasS (isS_nI hr) (show p < 12 by omega), oI, show ((-1 : Int32) < 0) = True by decide, nI_1, Option.bind_some, Option.isSome_some, Option.toList, List.cons_append, List.nil_append, zclr_i, zclr_r, zclr_n, zfit_i, zfit_l, and_self, if_true, if_false]
        cases r.testBit p <;> simp [bI]
      | some q =>
        have hq := ha q rfl
        rw [tEld_s hr (show p < 12 by omega)]
        simp only [e_X12_recount_68, e_X12_recount_69, e_X12_recount_72, e_X12_recount_73, e_X12_recount_74, e_X12_recount_77, e_X12_recount_78, e_X12_recount_80, e_X12_recount_83, e_X12_recount_86, e_X12_recount_88, e_X12_recount_91, e_X12_recount_92, e_X12_recount_95, e_X12_recount_97, e_X12_recount_99, e_X12_recount_100, e_X12_recount_101, e_X12_recount_102, e_X12_recount_105, e_X12_recount_107, e_X12_recount_109, e_X12_recount_110, e_X12_recount_111, e_X12_recount_114, e_X12_recount_116, e_X12_recount_118, e_X12_recount_121, cA_6, cA_12, cA_18, cA_30, cA_42, cA_54, cA_66, cA_78, cA_90, cA_102, cA_114, cA_126, cA_138, cA_210, cA_222, lc_0, lc_1, lc_2, lc_3, lc_4, lc_5, g_143_20, q_148, nI_neg (show 18 + p < 2 ^ 31 by omega), nI_clamp (show 18 + p < 2 ^ 31 by omega), k_148 (show 18 + p < 2530 by omega), l_148 (show 18 + p < 2530 by omega), nI_neg (show 18 + q < 2 ^ 31 by omega), nI_clamp (show 18 + q < 2 ^ 31 by omega), k_148 (show 18 + q < 2530 by omega), l_148 (show 18 + q < 2530 by omega), hW.c1 hR, if_neg (nI_ge hp (by omega : N < 2 ^ 31)), v_hasS (isS_nI hr) (show p < 12 by omega), oI, nI_neg (show q < 2 ^ 31 by omega), hR.born p hp, hR.born q hq, nI_1, Option.bind_some, Option.isSome_some, Option.toList, List.cons_append, List.nil_append, zclr_i, zclr_r, zclr_n, zfit_i, zfit_l, and_self, if_true, if_false]
        cases r.testBit p
        · simp [bI]
        · by_cases e : I (16 + 5) p < I (16 + 5) q
          · simp [bI, e, Int32.not_le.mpr e]
          · simp [bI, e, Int32.not_lt.mp e]
    · rcases tEld_lt hq with h1 | h1
      · omega
      · exact ha q h1
end RD
