/-! READING A TOWN: a person -/
section TG
variable {n m : Nat} {g : Nat → zC} {A X Y X1 Y1 : Nat → Nat → Int32} {JX JY JX1 JY1 : Nat → Nat → Int64} {L p p1 N S q b U : Nat} {t x : Int32} {c c' : Nat → Int32} {X' Y' : Nat → Nat → Int32} {JX' JY' : Nat → Nat → Int64}
theorem bits_or (x y k : Int32) : (x ||| y) >>> k &&& 1 = (x >>> k &&& 1) ||| (y >>> k &&& 1) := by
  apply Int32.toBitVec_inj.mp
  simp only [Int32.toBitVec_and, Int32.toBitVec_or, Int32.toBitVec_shiftRight, BitVec.sshiftRight_eq', BitVec.sshiftRight_or_distrib]
  ext i hi
  simp only [BitVec.getElem_and, BitVec.getElem_or, Bool.and_or_distrib_right]
theorem bit_one : ∀ N, N < 12 → ∀ p, p < 12 → (1 <<< (nI N &&& 31) : Int32) >>> (nI p &&& 31) &&& 1 = if p = N then 1 else 0 := by decide +kernel
theorem bit_put {N p : Nat} (hN : N < 12) (hp : p < 12) (x : Int32) : (x ||| 1 <<< (nI N &&& 31)) >>> (nI p &&& 31) &&& 1 = if p = N then 1 else x >>> (nI p &&& 31) &&& 1 := by
  rw [bits_or, bit_one N hN p hp]
  by_cases e : p = N
  · rw [if_pos e, if_pos e]
    rcases and1_case (x >>> (nI p &&& 31)) with h | h <;> rw [h] <;> decide
  · rw [if_neg e, if_neg e, Int32.or_zero]
theorem free_sign : ∀ M, M < 10 → ∀ C, C < 13 → decide (0 < nI M - nI C) = decide (C < M) := by decide +kernel
theorem v_bornBy {s : Int32} (hN : N ≤ 12) (h1 : Y 148 (2024 + 1) = nI N) (d : Nat) : zcall d 298 [.ref 143, .int 2024, .int s] (mk n m g Y JY) = some (some (.int (nI (cnt (fun p => decide (Y 148 (2024 + (66 + p)) = 0 ∧ Y 148 (2024 + (30 + p)) = s)) N))), mk n m g Y JY) := by
  have e1 : (2024 : Int32) + 1 = 2025 := by decide
  have e66 : (2024 : Int32) + 66 = 2090 := by decide
  have e30 : (2024 : Int32) + 30 = 2054 := by decide
  rw [m_X12_bornBy]
  simp only [e_X12_bornBy_0, e_X12_bornBy_1, e_X12_bornBy_2, e_X12_bornBy_3, e_X12_bornBy_7, e_X12_bornBy_8, e_X12_bornBy_11, e_X12_bornBy_12, e_X12_bornBy_13, e_X12_bornBy_14, e_X12_bornBy_15, e_X12_bornBy_18, e_X12_bornBy_19, e_X12_bornBy_20, e_X12_bornBy_23, e_X12_bornBy_24, e_X12_bornBy_26, e_X12_bornBy_27, e_X12_bornBy_29, e_X12_bornBy_30, e_X12_bornBy_31, e_X12_bornBy_34, e_X12_bornBy_35, e_X12_bornBy_38, e_X12_bornBy_39, e_X12_bornBy_41, e_X12_bornBy_42, e_X12_bornBy_44, e_X12_bornBy_45, e_X12_bornBy_46, e_X12_bornBy_47, e_X12_bornBy_50, e_X12_bornBy_51, e_X12_bornBy_54, e_X12_bornBy_55, e_X12_bornBy_56, e_X12_bornBy_57, e_X12_bornBy_60, e_X12_bornBy_63, e_X12_bornBy_64, Option.bind_some, Option.isSome_some, Option.toList, List.cons_append, List.nil_append, zclr_i, zclr_r, zclr_n, zfit_i, zfit_l, and_self, if_true, if_false]
  refine (zloop (fun p (a : Nat) => zexec d 298 5 [some (.ref 143), some (.int 2024), some (.int s), some (.int (nI a)), some (.int (nI p))] [] (mk n m g Y JY)) (fun p (a : Nat) => if decide (Y 148 (2024 + (66 + p)) = 0 ∧ Y 148 (2024 + (30 + p)) = s) = true then a + 1 else a) N ?_ N 0 0 (by omega)).trans ?_
  · intro p a hp
    rw [e_X12_bornBy_5]
    simp only [e_X12_bornBy_0, e_X12_bornBy_1, e_X12_bornBy_2, e_X12_bornBy_3, e_X12_bornBy_7, e_X12_bornBy_8, e_X12_bornBy_11, e_X12_bornBy_12, e_X12_bornBy_13, e_X12_bornBy_14, e_X12_bornBy_15, e_X12_bornBy_18, e_X12_bornBy_19, e_X12_bornBy_20, e_X12_bornBy_23, e_X12_bornBy_24, e_X12_bornBy_26, e_X12_bornBy_27, e_X12_bornBy_29, e_X12_bornBy_30, e_X12_bornBy_31, e_X12_bornBy_34, e_X12_bornBy_35, e_X12_bornBy_38, e_X12_bornBy_39, e_X12_bornBy_41, e_X12_bornBy_42, e_X12_bornBy_44, e_X12_bornBy_45, e_X12_bornBy_46, e_X12_bornBy_47, e_X12_bornBy_50, e_X12_bornBy_51, e_X12_bornBy_54, e_X12_bornBy_55, e_X12_bornBy_56, e_X12_bornBy_57, e_X12_bornBy_60, e_X12_bornBy_63, e_X12_bornBy_64, g_143_20, e1, e66, e30, lW_1, h1, if_neg (nI_ge hp (show N < 2 ^ 31 by omega)), cB_66, cB_30, nI_neg (show 2024 + (66 + p) < 2 ^ 31 by omega), nI_clamp (show 2024 + (66 + p) < 2 ^ 31 by omega), k_148 (show 2024 + (66 + p) < 2530 by omega), l_148 (show 2024 + (66 + p) < 2530 by omega), nI_neg (show 2024 + (30 + p) < 2 ^ 31 by omega), nI_clamp (show 2024 + (30 + p) < 2 ^ 31 by omega), k_148 (show 2024 + (30 + p) < 2530 by omega), l_148 (show 2024 + (30 + p) < 2530 by omega), nI_1, Option.bind_some, Option.isSome_some, Option.toList, List.cons_append, List.nil_append, zclr_i, zclr_r, zclr_n, zfit_i, zfit_l, and_self, if_true, if_false]
    by_cases c1 : Y 148 (2024 + (66 + p)) = 0 <;> by_cases c2 : Y 148 (2024 + (30 + p)) = s <;> simp [c1, c2, nI_1]
  · rw [e_X12_bornBy_5]
    simp only [e_X12_bornBy_0, e_X12_bornBy_1, e_X12_bornBy_2, e_X12_bornBy_3, e_X12_bornBy_7, e_X12_bornBy_8, e_X12_bornBy_11, e_X12_bornBy_12, e_X12_bornBy_13, e_X12_bornBy_14, e_X12_bornBy_15, e_X12_bornBy_18, e_X12_bornBy_19, e_X12_bornBy_20, e_X12_bornBy_23, e_X12_bornBy_24, e_X12_bornBy_26, e_X12_bornBy_27, e_X12_bornBy_29, e_X12_bornBy_30, e_X12_bornBy_31, e_X12_bornBy_34, e_X12_bornBy_35, e_X12_bornBy_38, e_X12_bornBy_39, e_X12_bornBy_41, e_X12_bornBy_42, e_X12_bornBy_44, e_X12_bornBy_45, e_X12_bornBy_46, e_X12_bornBy_47, e_X12_bornBy_50, e_X12_bornBy_51, e_X12_bornBy_54, e_X12_bornBy_55, e_X12_bornBy_56, e_X12_bornBy_57, e_X12_bornBy_60, e_X12_bornBy_63, e_X12_bornBy_64, g_143_20, e1, lW_1, h1, if_pos (nI_le (Nat.le_refl N) (show N < 2 ^ 31 by omega)), Option.bind_some, Option.isSome_some, Option.toList, List.cons_append, List.nil_append, zclr_i, zclr_r, zclr_n, zfit_i, zfit_l, and_self, if_true, if_false]
    rfl
end TG
