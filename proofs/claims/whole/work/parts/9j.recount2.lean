/-! RECOUNT: the reference, and both -/
section RD
variable {n m : Nat} {g : Nat → zC} {I X A : Nat → Nat → Int32} {J : Nat → Nat → Int64} {N S U b : Nat}
/-- what the reference's counts are -/
def csOk (I : Nat → Nat → Int32) (N S : Nat) (bs cs : Nat → Int32) : Prop := ∀ s, s < S → cs s = nI (cc I N bs (nI s))
theorem v_anew {M p : Nat} {bs : Nat → Int32} (hW : WT I 16 N S U) (hR : RT I 16 (X 148) N S) (hc : csOk I N S bs (X 156)) (hM : M < 10) (hp : p < N) (d : Nat) : zcall d 392 [.ref 143, .int (nI p), .int (nI M)] (mk n m g X J) = some (some (.int (fw I N M bs p)), mk n m g X J) := by
  have h12 := hW.h12
  have h6 := hW.h6
  obtain ⟨K, hK, eK⟩ := hW.likes p hp
  have ek : pK I 16 p = K := by
    unfold pK
    rw [eK, nI_clamp (by omega)]
  have hge : ∀ s, (nI M ≤ nI (cc I N bs s)) = ¬ cc I N bs s < M := fun s => by
    have := cc_le (I := I) (N := N) (bs := bs) (s := s)
    apply propext
    constructor
    · intro h h2
      exact nI_ge h2 (by omega) h
    · intro h
      exact nI_le (by omega) (by omega)
  have hl : ∀ f k, k + f = K → zexec d 392 29 [some (.ref 143), some (.int (nI p)), some (.int (nI M)), some (.int (I (16 + 7) p)), some (.int (nI k))] [] (mk n m g X J) = some (some (.int (fwL I N M bs p k f)), mk n m g X J) := by
    intro f
    induction f with
    | zero =>
      intro k hk
      rw [e_X12_anew_29]
      simp only [e_X12_anew_31, e_X12_anew_32, e_X12_anew_35, e_X12_anew_37, e_X12_anew_38, e_X12_anew_39, e_X12_anew_40, e_X12_anew_91, e_X12_anew_92, cA_6, cA_12, cA_18, cA_30, cA_42, cA_54, cA_66, cA_78, cA_90, cA_102, cA_114, cA_126, cA_138, cA_210, cA_222, lc_0, lc_1, lc_2, lc_3, lc_4, lc_5, g_143_20, q_148, nI_neg (show 126 + p < 2 ^ 31 by omega), nI_clamp (show 126 + p < 2 ^ 31 by omega), k_148 (show 126 + p < 2530 by omega), l_148 (show 126 + p < 2530 by omega), hR.likes p hp, eK, if_pos (nI_le (show K ≤ k by omega) (by omega : k < 2 ^ 31)), Option.bind_some, Option.isSome_some, Option.toList, List.cons_append, List.nil_append, zclr_i, zclr_r, zclr_n, zfit_i, zfit_l, and_self, if_true, if_false]
      rfl
    | succ f ih =>
      intro k hk
      have e6 : (138 : Int32) + 6 * nI p + nI k = nI (138 + (6 * p + k)) := by
        rw [show (6 : Int32) * nI p = nI (6 * p) from by rw [show (6 : Int32) = nI 6 from rfl, pk_mul], cA_138, nI_add, Nat.add_assoc]
      obtain ⟨s, hs, es⟩ := hW.like p k hp (by omega)
      rw [e_X12_anew_29, fwL]
      simp only [e_X12_anew_31, e_X12_anew_32, e_X12_anew_35, e_X12_anew_37, e_X12_anew_38, e_X12_anew_39, e_X12_anew_40, e_X12_anew_43, e_X12_anew_44, e_X12_anew_47, e_X12_anew_48, e_X12_anew_51, e_X12_anew_54, e_X12_anew_56, e_X12_anew_57, e_X12_anew_58, e_X12_anew_59, e_X12_anew_61, e_X12_anew_62, e_X12_anew_63, e_X12_anew_64, e_X12_anew_65, e_X12_anew_68, e_X12_anew_69, e_X12_anew_72, e_X12_anew_75, e_X12_anew_77, e_X12_anew_78, e_X12_anew_79, e_X12_anew_80, e_X12_anew_82, e_X12_anew_83, e_X12_anew_84, e_X12_anew_85, e_X12_anew_88, cA_6, cA_12, cA_18, cA_30, cA_42, cA_54, cA_66, cA_78, cA_90, cA_102, cA_114, cA_126, cA_138, cA_210, cA_222, lc_0, lc_1, lc_2, lc_3, lc_4, lc_5, g_143_20, q_148, nI_neg (show 126 + p < 2 ^ 31 by omega), nI_clamp (show 126 + p < 2 ^ 31 by omega), k_148 (show 126 + p < 2530 by omega), l_148 (show 126 + p < 2530 by omega), nI_neg (show 138 + (6 * p + k) < 2 ^ 31 by omega), nI_clamp (show 138 + (6 * p + k) < 2 ^ 31 by omega), k_148 (show 138 + (6 * p + k) < 2530 by omega), l_148 (show 138 + (6 * p + k) < 2530 by omega), g_143_32, hR.likes p hp, eK, if_neg (nI_ge (show k < K by omega) (by omega : K < 2 ^ 31)), e6, hR.like p k hp (by omega), es, l_156 (show s < 6 by omega), hc s hs, hge, nI_1, ih (k + 1) (by omega), Option.bind_some, Option.isSome_some, Option.toList, List.cons_append, List.nil_append, zclr_i, zclr_r, zclr_n, zfit_i, zfit_l, and_self, if_true, if_false]
      by_cases e : cc I N bs (nI s) < M <;> simp [e]
  have hl0 : zexec d 392 29 [some (.ref 143), some (.int (nI p)), some (.int (nI M)), some (.int (I (16 + 7) p)), some (.int 0)] [] (mk n m g X J) = some (some (.int (fwL I N M bs p 0 K)), mk n m g X J) := hl K 0 (by omega)
  rw [m_X12_anew]
  unfold fw
  rw [ek]
  rcases hW.bears p hp with e1 | ⟨s, hs, e1⟩
  · rw [e1] at hl0 ⊢
    simp only [e_X12_anew_0, e_X12_anew_1, e_X12_anew_4, e_X12_anew_6, e_X12_anew_7, e_X12_anew_8, e_X12_anew_9, e_X12_anew_10, e_X12_anew_11, e_X12_anew_14, e_X12_anew_15, e_X12_anew_18, e_X12_anew_19, e_X12_anew_20, e_X12_anew_21, e_X12_anew_24, e_X12_anew_25, e_X12_anew_26, e_X12_anew_27, cA_6, cA_12, cA_18, cA_30, cA_42, cA_54, cA_66, cA_78, cA_90, cA_102, cA_114, cA_126, cA_138, cA_210, cA_222, lc_0, lc_1, lc_2, lc_3, lc_4, lc_5, g_143_20, q_148, nI_neg (show 30 + p < 2 ^ 31 by omega), nI_clamp (show 30 + p < 2 ^ 31 by omega), k_148 (show 30 + p < 2530 by omega), l_148 (show 30 + p < 2530 by omega), hR.bears p hp, e1, show ((-1 : Int32) < 0) = True by decide, hl0, Option.bind_some, Option.isSome_some, Option.toList, List.cons_append, List.nil_append, zclr_i, zclr_r, zclr_n, zfit_i, zfit_l, and_self, if_true, if_false]
    simp
  · rw [e1] at hl0 ⊢
    simp only [e_X12_anew_0, e_X12_anew_1, e_X12_anew_4, e_X12_anew_6, e_X12_anew_7, e_X12_anew_8, e_X12_anew_9, e_X12_anew_10, e_X12_anew_11, e_X12_anew_14, e_X12_anew_15, e_X12_anew_18, e_X12_anew_19, e_X12_anew_20, e_X12_anew_21, e_X12_anew_24, e_X12_anew_25, e_X12_anew_26, e_X12_anew_27, cA_6, cA_12, cA_18, cA_30, cA_42, cA_54, cA_66, cA_78, cA_90, cA_102, cA_114, cA_126, cA_138, cA_210, cA_222, lc_0, lc_1, lc_2, lc_3, lc_4, lc_5, g_143_20, q_148, nI_neg (show 30 + p < 2 ^ 31 by omega), nI_clamp (show 30 + p < 2 ^ 31 by omega), k_148 (show 30 + p < 2530 by omega), l_148 (show 30 + p < 2530 by omega), g_143_32, hR.bears p hp, e1, nI_neg (show s < 2 ^ 31 by omega), l_156 (show s < 6 by omega), hc s hs, hge, hl0, Option.bind_some, Option.isSome_some, Option.toList, List.cons_append, List.nil_append, zclr_i, zclr_r, zclr_n, zfit_i, zfit_l, and_self, if_true, if_false]
    have : ¬ nI s = -1 := nI_m1 (by omega)
    by_cases e : cc I N bs (nI s) < M <;> simp [e, this]
theorem fwL_case {M p : Nat} {bs : Nat → Int32} (hW : WT I 16 N S U) (hp : p < N) : ∀ f k, k + f = pK I 16 p → fwL I N M bs p k f = -1 ∨ ∃ s, s < S ∧ fwL I N M bs p k f = nI s
  | 0, _, _ => .inl rfl
  | f + 1, k, hk => by
    rw [fwL]
    split
    · exact .inr (hW.like p k hp (by omega))
    · exact fwL_case hW hp f (k + 1) (by omega)
theorem fw_case {M p : Nat} {bs : Nat → Int32} (hW : WT I 16 N S U) (hp : p < N) : fw I N M bs p = -1 ∨ ∃ s, s < S ∧ fw I N M bs p = nI s := by
  unfold fw
  split
  · exact hW.bears p hp
  · exact fwL_case hW hp _ _ (by omega)
/-- how many went without -/
def dsh (I : Nat → Nat → Int32) (N r : Nat) (bs : Nat → Int32) : Nat := cnt (fun p => decide (p < N) && decide (I (16 + 6) p = -1) && !r.testBit p && decide (bs p = -1)) 12
theorem dsh_le {r : Nat} {bs : Nat → Int32} : dsh I N r bs ≤ 12 := by
  have := cnt_le (fun p => decide (p < N) && decide (I (16 + 6) p = -1) && !r.testBit p && decide (bs p = -1)) 12 0 0
  rw [Nat.zero_add] at this
  exact this
theorem tEld_n {r p : Nat} (hr : r < 4096) (hp : p < 12) : tEld A b (nI r) p none = if r.testBit p = true then some p else none := by
  unfold tEld
  rw [bit_isS (isS_nI hr) hp]
  cases r.testBit p <;> simp
theorem tEld_s {r p q : Nat} (hr : r < 4096) (hp : p < 12) : tEld A b (nI r) p (some q) = if r.testBit p = true then (if A (b + 5) p < A (b + 5) q then some p else some q) else some q := by
  unfold tEld
  rw [bit_isS (isS_nI hr) hp]
  cases r.testBit p <;> simp
/-- the reference's search for the eldest -/
theorem vr_step0 {r p : Nat} {x1 x2 z : Int32} (hW : WT I 16 N S U) (hR : RT I 16 (X 148) N S) (hr : r < 4096) (hp : p < N) (hb : r.testBit p = false) (d : Nat) : zexec (d + 1) 393 66 [some (.ref 143), some (.int x1), some (.int x2), some (.int (nI r)), some (.int z), some (.int (nI p))] [] (mk n m g X J) = zexec (d + 1) 393 66 [some (.ref 143), some (.int x1), some (.int x2), some (.int (nI r)), some (.int z), some (.int (nI (p + 1)))] [] (mk n m g X J) := by
  have h12 := hW.h12
  rw [e_X12_recount_66]
  simp only [e_X12_recount_68, e_X12_recount_69, e_X12_recount_72, e_X12_recount_73, e_X12_recount_74, e_X12_recount_77, e_X12_recount_78, e_X12_recount_80, e_X12_recount_83, e_X12_recount_86, e_X12_recount_88, e_X12_recount_91, e_X12_recount_92, e_X12_recount_95, e_X12_recount_97, e_X12_recount_99, e_X12_recount_100, e_X12_recount_101, e_X12_recount_102, e_X12_recount_105, e_X12_recount_107, e_X12_recount_109, e_X12_recount_110, e_X12_recount_111, e_X12_recount_114, e_X12_recount_116, e_X12_recount_118, e_X12_recount_121, cA_6, cA_12, cA_18, cA_30, cA_42, cA_54, cA_66, cA_78, cA_90, cA_102, cA_114, cA_126, cA_138, cA_210, cA_222, lc_0, lc_1, lc_2, lc_3, lc_4, lc_5, g_143_20, q_148, hW.c1 hR, if_neg (nI_ge hp (by omega : N < 2 ^ 31)), v_hasS (isS_nI hr) (show p < 12 by omega), hb, bI, Bool.false_eq_true, ne_eq, not_true, nI_1, Option.bind_some, Option.isSome_some, Option.toList, List.cons_append, List.nil_append, zclr_i, zclr_r, zclr_n, zfit_i, zfit_l, and_self, if_true, if_false]
theorem vr_step1 {r p : Nat} {x1 x2 : Int32} (hW : WT I 16 N S U) (hR : RT I 16 (X 148) N S) (hr : r < 4096) (hp : p < N) (hb : r.testBit p = true) (d : Nat) : zexec (d + 1) 393 66 [some (.ref 143), some (.int x1), some (.int x2), some (.int (nI r)), some (.int (-1)), some (.int (nI p))] [] (mk n m g X J) = zexec (d + 1) 393 66 [some (.ref 143), some (.int x1), some (.int x2), some (.int (nI r)), some (.int (nI p)), some (.int (nI (p + 1)))] [] (mk n m g X J) := by
  have h12 := hW.h12
  rw [e_X12_recount_66]
  simp only [e_X12_recount_68, e_X12_recount_69, e_X12_recount_72, e_X12_recount_73, e_X12_recount_74, e_X12_recount_77, e_X12_recount_78, e_X12_recount_80, e_X12_recount_83, e_X12_recount_86, e_X12_recount_88, e_X12_recount_91, e_X12_recount_92, e_X12_recount_95, e_X12_recount_97, e_X12_recount_99, e_X12_recount_100, e_X12_recount_101, e_X12_recount_102, e_X12_recount_105, e_X12_recount_107, e_X12_recount_109, e_X12_recount_110, e_X12_recount_111, e_X12_recount_114, e_X12_recount_116, e_X12_recount_118, e_X12_recount_121, cA_6, cA_12, cA_18, cA_30, cA_42, cA_54, cA_66, cA_78, cA_90, cA_102, cA_114, cA_126, cA_138, cA_210, cA_222, lc_0, lc_1, lc_2, lc_3, lc_4, lc_5, g_143_20, q_148, hW.c1 hR, if_neg (nI_ge hp (by omega : N < 2 ^ 31)), v_hasS (isS_nI hr) (show p < 12 by omega), hb, bI, show ((1 : Int32) = 0) = False by decide, ne_eq, not_false_eq_true, show ((-1 : Int32) < 0) = True by decide, nI_1, Option.bind_some, Option.isSome_some, Option.toList, List.cons_append, List.nil_append, zclr_i, zclr_r, zclr_n, zfit_i, zfit_l, and_self, if_true, if_false]
theorem vr_step2 {r p q : Nat} {x1 x2 : Int32} (hW : WT I 16 N S U) (hR : RT I 16 (X 148) N S) (hr : r < 4096) (hp : p < N) (hq : q < N) (hb : r.testBit p = true) (e : I (16 + 5) p < I (16 + 5) q) (d : Nat) : zexec (d + 1) 393 66 [some (.ref 143), some (.int x1), some (.int x2), some (.int (nI r)), some (.int (nI q)), some (.int (nI p))] [] (mk n m g X J) = zexec (d + 1) 393 66 [some (.ref 143), some (.int x1), some (.int x2), some (.int (nI r)), some (.int (nI p)), some (.int (nI (p + 1)))] [] (mk n m g X J) := by
  have h12 := hW.h12
  rw [e_X12_recount_66]
  simp only [e_X12_recount_68, e_X12_recount_69, e_X12_recount_72, e_X12_recount_73, e_X12_recount_74, e_X12_recount_77, e_X12_recount_78, e_X12_recount_80, e_X12_recount_83, e_X12_recount_86, e_X12_recount_88, e_X12_recount_91, e_X12_recount_92, e_X12_recount_95, e_X12_recount_97, e_X12_recount_99, e_X12_recount_100, e_X12_recount_101, e_X12_recount_102, e_X12_recount_105, e_X12_recount_107, e_X12_recount_109, e_X12_recount_110, e_X12_recount_111, e_X12_recount_114, e_X12_recount_116, e_X12_recount_118, e_X12_recount_121, cA_6, cA_12, cA_18, cA_30, cA_42, cA_54, cA_66, cA_78, cA_90, cA_102, cA_114, cA_126, cA_138, cA_210, cA_222, lc_0, lc_1, lc_2, lc_3, lc_4, lc_5, g_143_20, q_148, nI_neg (show 18 + p < 2 ^ 31 by omega), nI_clamp (show 18 + p < 2 ^ 31 by omega), k_148 (show 18 + p < 2530 by omega), l_148 (show 18 + p < 2530 by omega), nI_neg (show 18 + q < 2 ^ 31 by omega), nI_clamp (show 18 + q < 2 ^ 31 by omega), k_148 (show 18 + q < 2530 by omega), l_148 (show 18 + q < 2530 by omega), hW.c1 hR, if_neg (nI_ge hp (by omega : N < 2 ^ 31)), v_hasS (isS_nI hr) (show p < 12 by omega), hb, bI, show ((1 : Int32) = 0) = False by decide, ne_eq, not_false_eq_true, nI_neg (show q < 2 ^ 31 by omega), hR.born p hp, hR.born q hq, if_neg (Int32.not_le.mpr e), nI_1, Option.bind_some, Option.isSome_some, Option.toList, List.cons_append, List.nil_append, zclr_i, zclr_r, zclr_n, zfit_i, zfit_l, and_self, if_true, if_false]
theorem vr_step3 {r p q : Nat} {x1 x2 : Int32} (hW : WT I 16 N S U) (hR : RT I 16 (X 148) N S) (hr : r < 4096) (hp : p < N) (hq : q < N) (hb : r.testBit p = true) (e : ¬ I (16 + 5) p < I (16 + 5) q) (d : Nat) : zexec (d + 1) 393 66 [some (.ref 143), some (.int x1), some (.int x2), some (.int (nI r)), some (.int (nI q)), some (.int (nI p))] [] (mk n m g X J) = zexec (d + 1) 393 66 [some (.ref 143), some (.int x1), some (.int x2), some (.int (nI r)), some (.int (nI q)), some (.int (nI (p + 1)))] [] (mk n m g X J) := by
  have h12 := hW.h12
  rw [e_X12_recount_66]
  simp only [e_X12_recount_68, e_X12_recount_69, e_X12_recount_72, e_X12_recount_73, e_X12_recount_74, e_X12_recount_77, e_X12_recount_78, e_X12_recount_80, e_X12_recount_83, e_X12_recount_86, e_X12_recount_88, e_X12_recount_91, e_X12_recount_92, e_X12_recount_95, e_X12_recount_97, e_X12_recount_99, e_X12_recount_100, e_X12_recount_101, e_X12_recount_102, e_X12_recount_105, e_X12_recount_107, e_X12_recount_109, e_X12_recount_110, e_X12_recount_111, e_X12_recount_114, e_X12_recount_116, e_X12_recount_118, e_X12_recount_121, cA_6, cA_12, cA_18, cA_30, cA_42, cA_54, cA_66, cA_78, cA_90, cA_102, cA_114, cA_126, cA_138, cA_210, cA_222, lc_0, lc_1, lc_2, lc_3, lc_4, lc_5, g_143_20, q_148, nI_neg (show 18 + p < 2 ^ 31 by omega), nI_clamp (show 18 + p < 2 ^ 31 by omega), k_148 (show 18 + p < 2530 by omega), l_148 (show 18 + p < 2530 by omega), nI_neg (show 18 + q < 2 ^ 31 by omega), nI_clamp (show 18 + q < 2 ^ 31 by omega), k_148 (show 18 + q < 2530 by omega), l_148 (show 18 + q < 2530 by omega), hW.c1 hR, if_neg (nI_ge hp (by omega : N < 2 ^ 31)), v_hasS (isS_nI hr) (show p < 12 by omega), hb, bI, show ((1 : Int32) = 0) = False by decide, ne_eq, not_false_eq_true, nI_neg (show q < 2 ^ 31 by omega), hR.born p hp, hR.born q hq, if_pos (Int32.not_lt.mp e), nI_1, Option.bind_some, Option.isSome_some, Option.toList, List.cons_append, List.nil_append, zclr_i, zclr_r, zclr_n, zfit_i, zfit_l, and_self, if_true, if_false]
theorem oI_some {q : Nat} : oI (some q) = nI q := rfl
theorem oI_none : oI none = -1 := rfl
theorem vr_eld {r : Nat} {x1 x2 : Int32} (hW : WT I 16 N S U) (hR : RT I 16 (X 148) N S) (hr : r < 4096) (d : Nat) : ∀ k p (a : Option Nat), p + k = N → (∀ q, a = some q → q < N) → zexec (d + 1) 393 66 [some (.ref 143), some (.int x1), some (.int x2), some (.int (nI r)), some (.int (oI a)), some (.int (nI p))] [] (mk n m g X J) = zexec (d + 1) 393 124 [some (.ref 143), some (.int x1), some (.int x2), some (.int (nI r)), some (.int (oI (zfor (tEld I 16 (nI r)) p k a))), some (.int (nI N))] [] (mk n m g X J) := by
  have h12 := hW.h12
  intro k
  induction k with
  | zero =>
    intro p a hp _
    have : p = N := by omega
    subst this
    rw [e_X12_recount_66, zfor]
    simp only [e_X12_recount_68, e_X12_recount_69, e_X12_recount_72, e_X12_recount_73, e_X12_recount_74, cA_6, cA_12, cA_18, cA_30, cA_42, cA_54, cA_66, cA_78, cA_90, cA_102, cA_114, cA_126, cA_138, cA_210, cA_222, lc_0, lc_1, lc_2, lc_3, lc_4, lc_5, g_143_20, q_148, hW.c1 hR, if_pos (nI_le (Nat.le_refl p) (by omega : p < 2 ^ 31)), Option.bind_some, Option.isSome_some, Option.toList, List.cons_append, List.nil_append, zclr_i, zclr_r, zclr_n, zfit_i, zfit_l, and_self, if_true, if_false]
  | succ k ih =>
    intro p a hp ha
    have hpN : p < N := by omega
    rw [zfor]
    cases hb : r.testBit p with
    | false =>
      have ht : tEld I 16 (nI r) p a = a := by
        cases a with
        | none => rw [tEld_n hr (by omega), hb]; rfl
        | some q => rw [tEld_s hr (by omega), hb]; rfl
      rw [ht, vr_step0 hW hR hr hpN hb]
      exact ih (p + 1) a (by omega) ha
    | true =>
      cases a with
      | none =>
        rw [tEld_n hr (by omega), hb, if_pos rfl, oI_none, vr_step1 hW hR hr hpN hb, ← oI_some (q := p)]
        exact ih (p + 1) (some p) (by omega) (fun q hq => by rw [← Option.some.inj hq]; exact hpN)
      | some q =>
        have hq := ha q rfl
        rw [tEld_s hr (by omega), hb, if_pos rfl, oI_some]
        by_cases e : I (16 + 5) p < I (16 + 5) q
        · rw [if_pos e, vr_step2 hW hR hr hpN hq hb e, ← oI_some (q := p)]
          exact ih (p + 1) (some p) (by omega) (fun q hq => by rw [← Option.some.inj hq]; exact hpN)
        · rw [if_neg e, vr_step3 hW hR hr hpN hq hb e, ← oI_some (q := q)]
          exact ih (p + 1) (some q) (by omega) ha
theorem dsh_none {r e : Nat} {bs : Nat → Int32} (hr : r < 4096) (he : e < 12) (hN : e < N) (hb : r.testBit e = true) (ha : I (16 + 6) e = -1) : dsh I N (rm r e) (fu bs e (-1)) = dsh I N r bs + 1 := by
  unfold dsh
  have hf : (fun p => decide (p < N) && decide (I (16 + 6) p = -1) && !r.testBit p && decide (bs p = -1)) e = false := by simp [hb]
  rw [← cnt_set hf he]
  refine cnt_congr (fun q hq => ?_)
  rw [rm_bit hr he]
  by_cases c : e = q
  · subst c
    rw [fu_eq]
    simp [hN, ha, hb]
  · rw [fu_ne _ _ (fun h => c h.symm)]
    simp [c]
theorem dsh_some {r e s : Nat} {bs : Nat → Int32} (hr : r < 4096) (he : e < 12) (hs : s < 6) (hb : r.testBit e = true) : dsh I N (rm r e) (fu bs e (nI s)) = dsh I N r bs := by
  unfold dsh
  refine cnt_congr (fun q hq => ?_)
  rw [rm_bit hr he]
  by_cases c : e = q
  · subst c
    rw [fu_eq]
    have : ¬ nI s = -1 := nI_m1 (by omega)
    simp [hb, this]
  · rw [fu_ne _ _ (fun h => c h.symm)]
    simp [c]
theorem cc_none {e t : Nat} {bs : Nat → Int32} (ht : t < 6) (hb : bs e = -1) : cc I N (fu bs e (-1)) (nI t) = cc I N bs (nI t) := by
  unfold cc
  refine cnt_congr (fun q hq => ?_)
  by_cases c : q = e
  · subst c
    rw [fu_eq, hb]
  · rw [fu_ne _ _ c]
theorem cc_some {e s t : Nat} {bs : Nat → Int32} (he : e < 12) (hN : e < N) (hs : s < 6) (ht : t < 6) (hb : bs e = -1) (ha : I (16 + 6) e = -1) : cc I N (fu bs e (nI s)) (nI t) = cc I N bs (nI t) + if t = s then 1 else 0 := by
  unfold cc
  by_cases c : t = s
  · subst c
    rw [if_pos rfl]
    have hm : ¬ (-1 : Int32) = nI t := fun h => nI_m1 (show t < 2 ^ 31 by omega) h.symm
    have hf : (fun p => decide (p < N) && decide (bs p = nI t ∧ I (16 + 6) p = -1)) e = false := by simp [hb, hm]
    rw [← cnt_set hf he]
    refine cnt_congr (fun q hq => ?_)
    by_cases c : e = q
    · subst c
      rw [fu_eq]
      simp [hN, ha]
    · rw [fu_ne _ _ (fun h => c h.symm)]
      simp [c]
  · rw [if_neg c]
    refine (cnt_congr (fun q hq => ?_)).trans (Nat.add_zero _).symm
    by_cases c2 : q = e
    · subst c2
      rw [fu_eq, hb]
      have h1 : ¬ nI s = nI t := fun h => c (nI_inj (by omega) (by omega) h).symm
      have h2 : ¬ (-1 : Int32) = nI t := fun h => nI_m1 (show t < 2 ^ 31 by omega) h.symm
      simp [h1, h2]
    · rw [fu_ne _ _ c2]
/-- the reference's loop -/
theorem rc_ref {M : Nat} {x1 : Int32} (hW : WT I 16 N S U) (hM : M < 10) (d : Nat) : ∀ f r (bs : Nat → Int32) (X : Nat → Nat → Int32) (y4 y5 : Option Int32), RT I 16 (X 148) N S → csOk I N S bs (X 156) → r < 4096 → (∀ q, r.testBit q = true → q < N ∧ I (16 + 6) q = -1 ∧ bs q = -1) → cnt r.testBit 12 ≤ f → ∃ X', zexec (d + 1) 393 56 [some (.ref 143), some (.int (nI M)), some (.int (nI (dsh I N r bs))), some (.int (nI r)), y4.map Value.int, y5.map Value.int] [] (mk n m g X J) = some (some (.int (nI (dsh I N 0 (rcn I N M f r bs)))), mk n m g X' J) ∧ ∀ a, a ≠ 156 → X' a = X a := by
  have h12 := hW.h12
  have h6 := hW.h6
  have hend : ∀ (bs : Nat → Int32) (X : Nat → Nat → Int32) (y4 y5 : Option Int32), zexec (d + 1) 393 56 [some (.ref 143), some (.int (nI M)), some (.int (nI (dsh I N 0 bs))), some (.int (nI 0)), y4.map Value.int, y5.map Value.int] [] (mk n m g X J) = some (some (.int (nI (dsh I N 0 bs))), mk n m g X J) := by
    intro bs X y4 y5
    rw [e_X12_recount_56]
    simp only [e_X12_recount_57, e_X12_recount_167, e_X12_recount_168, show (nI 0 = 0) = True by decide, Option.bind_some, Option.isSome_some, Option.toList, List.cons_append, List.nil_append, zclr_i, zclr_r, zclr_n, zfit_i, zfit_l, and_self, if_true, if_false]
  intro f
  induction f with
  | zero =>
    intro r bs X y4 y5 hR hc hr hs hf
    have h0 : r = 0 := cnt_zero hr (by omega)
    subst h0
    exact ⟨X, hend bs X y4 y5, fun _ _ => rfl⟩
  | succ f ih =>
    intro r bs X y4 y5 hR hc hr hs hf
    by_cases h0 : r = 0
    · subst h0
      rw [rcn, if_pos rfl]
      exact ⟨X, hend bs X y4 y5, fun _ _ => rfl⟩
    · obtain ⟨e, e1, e2⟩ := eld_some (A := I) (b := 16) hr h12 h0 (fun q hq => (hs q hq).1)
      have hee : eld I N r = e := by
        unfold eld
        rw [e1]
        rfl
      obtain ⟨heN, hea, heb⟩ := hs e e2
      have he12 : e < 12 := by omega
      have hne : ¬ nI r = 0 := fun h => h0 (nI_inj (by omega) (by decide) h)
      have hrm : nI r &&& (1 <<< (nI e &&& 31) ^^^ -1) = nI (rm r e) := rm_nI hr he12
      have hel := vr_eld (n := n) (m := m) (g := g) (J := J) (x1 := nI M) (x2 := nI (dsh I N r bs)) hW hR hr d N 0 none (by omega) (fun q hq => (by cases hq))
      rw [e1, oI_some, oI_none] at hel
      have hrm2 : ∀ q, (rm r e).testBit q = true → q ≠ e ∧ r.testBit q = true := by
        intro q hq
        rw [rm_bit hr he12] at hq
        simp at hq
        exact ⟨fun h => hq.2 h.symm, hq.1⟩
      have hcn := cnt_rm hr he12 e2
      have hle := dsh_le (I := I) (N := N) (r := r) (bs := bs)
      rw [rcn, if_neg h0, hee]
      have hstart : zexec (d + 1) 393 56 [some (.ref 143), some (.int (nI M)), some (.int (nI (dsh I N r bs))), some (.int (nI r)), y4.map Value.int, y5.map Value.int] [] (mk n m g X J) = zexec (d + 1) 393 124 [some (.ref 143), some (.int (nI M)), some (.int (nI (dsh I N r bs))), some (.int (nI r)), some (.int (nI e)), some (.int (nI N))] [] (mk n m g X J) := by
        refine Eq.trans ?_ hel
        rw [e_X12_recount_56]
        simp only [e_X12_recount_57, e_X12_recount_60, e_X12_recount_61, e_X12_recount_63, e_X12_recount_64, hne, zclr_map, Option.bind_some, Option.isSome_some, Option.toList, List.cons_append, List.nil_append, zclr_i, zclr_r, zclr_n, zfit_i, zfit_l, and_self, if_true, if_false]
        rfl
      rcases fw_case (M := M) (bs := bs) hW heN with ef | ⟨s, hs6, ef⟩
      · rw [ef]
        obtain ⟨X', i1, i2⟩ := ih (rm r e) (fu bs e (-1)) X (some (nI e)) (some (-1)) hR (fun s hs => by rw [cc_none (by omega) heb]; exact hc s hs) (Nat.lt_of_le_of_lt (rm_le _ _) hr) (fun q hq => by
          obtain ⟨q1, q2⟩ := hrm2 q hq
          rw [fu_ne _ _ q1]
          exact hs q q2) (by omega)
        rw [dsh_none hr he12 heN e2 hea] at i1
        refine ⟨X', ?_, i2⟩
        rw [hstart]
        refine Eq.trans ?_ i1
        have ha := v_anew (n := n) (m := m) (g := g) (J := J) (bs := bs) hW hR hc hM heN d
        rw [ef] at ha
        simp only [e_X12_recount_124, e_X12_recount_125, e_X12_recount_126, e_X12_recount_128, e_X12_recount_129, e_X12_recount_130, e_X12_recount_131, e_X12_recount_132, e_X12_recount_133, e_X12_recount_134, e_X12_recount_136, e_X12_recount_137, e_X12_recount_140, e_X12_recount_142, e_X12_recount_144, e_X12_recount_147, e_X12_recount_150, e_X12_recount_164, c_143, hrm, ha, show ((0 : Int32) ≤ -1) = False by decide, nI_1, Option.bind_some, Option.isSome_some, Option.toList, List.cons_append, List.nil_append, zclr_i, zclr_r, zclr_n, zfit_i, zfit_l, and_self, if_true, if_false]
        rfl
      · rw [ef]
        have hs6' : s < 6 := by omega
        obtain ⟨X', i1, i2⟩ := ih (rm r e) (fu bs e (nI s)) (zu X 156 s (X 156 s + 1)) (some (nI e)) (some (nI s)) (by rw [zu_far _ _ _ (by decide)]; exact hR) (fun t ht => by
          rw [cc_some he12 heN hs6' (by omega) heb hea, zu_row]
          by_cases c : t = s
          · rw [if_pos c, if_pos c, c, hc s hs6, nI_1]
          · rw [if_neg c, if_neg c]
            exact hc t ht) (Nat.lt_of_le_of_lt (rm_le _ _) hr) (fun q hq => by
          obtain ⟨q1, q2⟩ := hrm2 q hq
          rw [fu_ne _ _ q1]
          exact hs q q2) (by omega)
        rw [dsh_some hr he12 hs6' e2] at i1
        refine ⟨X', ?_, fun a ha => by rw [i2 a ha, zu_far _ _ _ ha]⟩
        rw [hstart]
        refine Eq.trans ?_ i1
        have ha := v_anew (n := n) (m := m) (g := g) (J := J) (bs := bs) hW hR hc hM heN d
        rw [ef] at ha
        simp only [e_X12_recount_124, e_X12_recount_125, e_X12_recount_126, e_X12_recount_128, e_X12_recount_129, e_X12_recount_130, e_X12_recount_131, e_X12_recount_132, e_X12_recount_133, e_X12_recount_134, e_X12_recount_136, e_X12_recount_137, e_X12_recount_140, e_X12_recount_142, e_X12_recount_144, e_X12_recount_147, e_X12_recount_150, e_X12_recount_153, e_X12_recount_154, e_X12_recount_157, e_X12_recount_159, e_X12_recount_160, e_X12_recount_161, e_X12_recount_162, e_X12_recount_163, e_X12_recount_164, c_143, g_143_32, hrm, ha, show ((0 : Int32) ≤ nI s) = True from eq_true (nI_le (a := 0) (by omega) (by omega)), nI_neg (show s < 2 ^ 31 by omega), nI_clamp (show s < 2 ^ 31 by omega), k_156 hs6', l_156 hs6', q_156, nI_1, Option.bind_some, Option.isSome_some, Option.toList, List.cons_append, List.nil_append, zclr_i, zclr_r, zclr_n, zfit_i, zfit_l, and_self, if_true, if_false]
        rfl
end RD
