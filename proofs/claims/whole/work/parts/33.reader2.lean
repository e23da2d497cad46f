/-! THE READER: runs, words, numbers -/
section RE
variable {n m : Nat} {g : Nat → zC} {I : Nat → Nat → Int32} {J : Nat → Nat → Int64}
theorem zu_zu {α : Type} (I : Nat → Nat → α) (a k : Nat) (x y : α) : zu (zu I a k x) a k y = zu I a k y := by
  funext c j
  by_cases h : c = a
  · subst h
    simp only [zu_row]
    split <;> rfl
  · rw [zu_far _ _ _ h, zu_far _ _ _ h, zu_far _ _ _ h]
def dRun (I : Nat → Nat → Int32) (lo hi : Int32) : Nat → Nat → Nat
  | e, 0 => e
  | e, f + 1 => if lo ≤ I 12 e ∧ I 12 e ≤ hi then dRun I lo hi (e + 1) f else e
theorem dRun_le (lo hi : Int32) : ∀ f e, e ≤ dRun I lo hi e f ∧ dRun I lo hi e f ≤ e + f
  | 0, _ => ⟨Nat.le_refl _, Nat.le_refl _⟩
  | f + 1, e => by
    rw [dRun]
    split
    · have := dRun_le lo hi f (e + 1)
      exact ⟨by omega, by omega⟩
    · exact ⟨Nat.le_refl _, by omega⟩
theorem d_behindRun {p L : Nat} {lo hi : Int32} (ht : I 13 1 = nI 12) (hp : I 13 3 = nI p) (hL : I 13 2 = nI L) (hpL : p ≤ L) (h900 : L ≤ 900) (d : Nat) : zcall d 46 [.ref 13, .int lo, .int hi] (mk n m g I J) = some (some (.int (nI (dRun I lo hi p (L - p)))), mk n m g I J) := by
  rw [m_X4_behindRun]
  simp only [e_X4_behindRun_0, e_X4_behindRun_1, e_X4_behindRun_4, e_X4_behindRun_6, e_X4_behindRun_7, e_X4_behindRun_10, e_X4_behindRun_13, e_X4_behindRun_14, e_X4_behindRun_17, e_X4_behindRun_18, e_X4_behindRun_19, e_X4_behindRun_20, e_X4_behindRun_23, e_X4_behindRun_24, e_X4_behindRun_27, e_X4_behindRun_28, e_X4_behindRun_29, e_X4_behindRun_30, e_X4_behindRun_33, e_X4_behindRun_36, e_X4_behindRun_39, e_X4_behindRun_40, g_13_3, hp, Option.bind_some, Option.isSome_some, Option.toList, List.cons_append, List.nil_append, zclr_i, zclr_r, zclr_n, zfit_i, zfit_l, and_self, if_true, if_false]
  have h : ∀ f e, e + f = L → zexec d 46 5 [some (.ref 13), some (.int lo), some (.int hi), some (.int (nI e))] [] (mk n m g I J) = some (some (.int (nI (dRun I lo hi e f))), mk n m g I J) := by
    intro f
    induction f with
    | zero =>
      intro e he
      rw [e_X4_behindRun_5]
      simp only [e_X4_behindRun_0, e_X4_behindRun_1, e_X4_behindRun_4, e_X4_behindRun_6, e_X4_behindRun_7, e_X4_behindRun_10, e_X4_behindRun_13, e_X4_behindRun_14, e_X4_behindRun_17, e_X4_behindRun_18, e_X4_behindRun_19, e_X4_behindRun_20, e_X4_behindRun_23, e_X4_behindRun_24, e_X4_behindRun_27, e_X4_behindRun_28, e_X4_behindRun_29, e_X4_behindRun_30, e_X4_behindRun_33, e_X4_behindRun_36, e_X4_behindRun_39, e_X4_behindRun_40, g_13_2, hL, if_pos (nI_le (show L ≤ e by omega) (by omega : e < 2 ^ 31)), Option.bind_some, Option.isSome_some, Option.toList, List.cons_append, List.nil_append, zclr_i, zclr_r, zclr_n, zfit_i, zfit_l, and_self, if_true, if_false]
      rfl
    | succ f ih =>
      intro e he
      rw [e_X4_behindRun_5, dRun]
      simp only [e_X4_behindRun_0, e_X4_behindRun_1, e_X4_behindRun_4, e_X4_behindRun_6, e_X4_behindRun_7, e_X4_behindRun_10, e_X4_behindRun_13, e_X4_behindRun_14, e_X4_behindRun_17, e_X4_behindRun_18, e_X4_behindRun_19, e_X4_behindRun_20, e_X4_behindRun_23, e_X4_behindRun_24, e_X4_behindRun_27, e_X4_behindRun_28, e_X4_behindRun_29, e_X4_behindRun_30, e_X4_behindRun_33, e_X4_behindRun_36, e_X4_behindRun_39, e_X4_behindRun_40, g_13_1, g_13_2, ht, hL, nI_clamp (show 12 < 2 ^ 31 by decide), l_12 (show e < 900 by omega), if_neg (nI_ge (show e < L by omega) (by omega : L < 2 ^ 31)), nI_1, ih (e + 1) (by omega), Option.bind_some, Option.isSome_some, Option.toList, List.cons_append, List.nil_append, zclr_i, zclr_r, zclr_n, zfit_i, zfit_l, and_self, if_true, if_false]
      by_cases h1 : lo ≤ I 12 e
      · by_cases h2 : I 12 e ≤ hi
        · simp [h1, h2, Int32.not_lt.mpr h1, Int32.not_lt.mpr h2]
        · simp [h2, Int32.not_lt.mpr h1, Int32.not_le.mp h2]
      · simp [h1, Int32.not_le.mp h1]
  exact h (L - p) p (by omega)
/-- the letters packed, five bits each -/
def dPack (I : Nat → Nat → Int32) : Nat → Nat → Int64 → Int64
  | _, 0, w => w
  | k, f + 1, w => if w = -1 then w else dPack I (k + 1) f (w * 32 + (I 12 k - 97 + 1).toInt64)
def dWord (I : Nat → Nat → Int32) (p e : Nat) : Int64 := if 8 < nI e - nI p then -1 else dPack I p (e - p) 0
theorem dPack_m1 : ∀ f k, dPack I k f (-1) = -1
  | 0, _ => rfl
  | f + 1, k => by rw [dPack, if_pos rfl]
theorem d_readWord {p e : Nat} (ht : I 13 1 = nI 12) (hp : I 13 4 = nI p) (hpe : p ≤ e) (h900 : e ≤ 900) (d : Nat) : zcall d 47 [.ref 13, .int (nI e)] (mk n m g I J) = some (none, mk n m g (zu (zu I 13 5 2) 13 3 (nI e)) (zu J 13 8 (dWord I p e))) := by
  rw [m_X4_readWord]
  have h : ∀ f k w, k + f = e → zexec d 47 32 [some (.ref 13), some (.int (nI e)), some (.int (nI k))] [] (mk n m g (zu I 13 5 2) (zu J 13 8 w)) = some (none, mk n m g (zu (zu I 13 5 2) 13 3 (nI e)) (zu J 13 8 (dPack I k f w))) := by
    intro f
    induction f with
    | zero =>
      intro k w hk
      rw [e_X4_readWord_32]
      simp only [e_X4_readWord_0, e_X4_readWord_1, e_X4_readWord_2, e_X4_readWord_5, e_X4_readWord_6, e_X4_readWord_7, e_X4_readWord_8, e_X4_readWord_11, e_X4_readWord_12, e_X4_readWord_14, e_X4_readWord_17, e_X4_readWord_20, e_X4_readWord_23, e_X4_readWord_24, e_X4_readWord_27, e_X4_readWord_28, e_X4_readWord_31, e_X4_readWord_33, e_X4_readWord_34, e_X4_readWord_37, e_X4_readWord_38, e_X4_readWord_41, e_X4_readWord_44, e_X4_readWord_45, e_X4_readWord_48, e_X4_readWord_49, e_X4_readWord_50, e_X4_readWord_53, e_X4_readWord_56, e_X4_readWord_57, e_X4_readWord_58, e_X4_readWord_61, e_X4_readWord_62, e_X4_readWord_63, e_X4_readWord_65, e_X4_readWord_66, e_X4_readWord_67, e_X4_readWord_68, e_X4_readWord_69, e_X4_readWord_70, e_X4_readWord_73, e_X4_readWord_76, e_X4_readWord_79, e_X4_readWord_80, e_X4_readWord_81, e_X4_readWord_84, g_13_3, p_13_3, if_pos (nI_le (show e ≤ k by omega) (by omega : k < 2 ^ 31)), Option.bind_some, Option.isSome_some, Option.toList, List.cons_append, List.nil_append, zclr_i, zclr_r, zclr_n, zfit_i, zfit_l, and_self, if_true, if_false]
      rfl
    | succ f ih =>
      intro k w hk
      have e12 : (zu I 13 5 2) 12 = I 12 := zu_far _ _ _ (by decide)
      have e1 : (zu I 13 5 2) 13 1 = nI 12 := by rw [zu_row, if_neg (by decide)]; exact ht
      rw [e_X4_readWord_32, dPack]
      simp only [e_X4_readWord_0, e_X4_readWord_1, e_X4_readWord_2, e_X4_readWord_5, e_X4_readWord_6, e_X4_readWord_7, e_X4_readWord_8, e_X4_readWord_11, e_X4_readWord_12, e_X4_readWord_14, e_X4_readWord_17, e_X4_readWord_20, e_X4_readWord_23, e_X4_readWord_24, e_X4_readWord_27, e_X4_readWord_28, e_X4_readWord_31, e_X4_readWord_33, e_X4_readWord_34, e_X4_readWord_37, e_X4_readWord_38, e_X4_readWord_41, e_X4_readWord_44, e_X4_readWord_45, e_X4_readWord_48, e_X4_readWord_49, e_X4_readWord_50, e_X4_readWord_53, e_X4_readWord_56, e_X4_readWord_57, e_X4_readWord_58, e_X4_readWord_61, e_X4_readWord_62, e_X4_readWord_63, e_X4_readWord_65, e_X4_readWord_66, e_X4_readWord_67, e_X4_readWord_68, e_X4_readWord_69, e_X4_readWord_70, e_X4_readWord_73, e_X4_readWord_76, e_X4_readWord_79, e_X4_readWord_80, e_X4_readWord_81, e_X4_readWord_84, g_13_1, g_13_3, g_13_8, p_13_3, p_13_8, e1, nI_clamp (show 12 < 2 ^ 31 by decide), l_12 (show k < 900 by omega), e12, if_neg (nI_ge (show k < e by omega) (by omega : e < 2 ^ 31)), lg_eq, zu_row, zu_zu, nI_1, ih (k + 1) _ (by omega), Option.bind_some, Option.isSome_some, Option.toList, List.cons_append, List.nil_append, zclr_i, zclr_r, zclr_n, zfit_i, zfit_l, and_self, if_true, if_false]
      split <;> rfl
  unfold dWord
  have hp2 : (zu I 13 5 2) 13 4 = nI p := by rw [zu_row, if_neg (by decide)]; exact hp
  by_cases h1 : 8 < nI e - nI p
  · simp only [e_X4_readWord_0, e_X4_readWord_1, e_X4_readWord_2, e_X4_readWord_5, e_X4_readWord_6, e_X4_readWord_7, e_X4_readWord_8, e_X4_readWord_11, e_X4_readWord_12, e_X4_readWord_14, e_X4_readWord_17, e_X4_readWord_20, e_X4_readWord_23, e_X4_readWord_24, e_X4_readWord_27, e_X4_readWord_28, e_X4_readWord_31, e_X4_readWord_33, e_X4_readWord_34, e_X4_readWord_37, e_X4_readWord_38, e_X4_readWord_41, e_X4_readWord_44, e_X4_readWord_45, e_X4_readWord_48, e_X4_readWord_49, e_X4_readWord_50, e_X4_readWord_53, e_X4_readWord_56, e_X4_readWord_57, e_X4_readWord_58, e_X4_readWord_61, e_X4_readWord_62, e_X4_readWord_63, e_X4_readWord_65, e_X4_readWord_66, e_X4_readWord_67, e_X4_readWord_68, e_X4_readWord_69, e_X4_readWord_70, e_X4_readWord_73, e_X4_readWord_76, e_X4_readWord_79, e_X4_readWord_80, e_X4_readWord_81, e_X4_readWord_84, g_13_4, g_13_5, g_13_8, p_13_5, p_13_8, hp2, if_neg (Int32.not_le.mpr h1), if_pos h1, h (e - p) p _ (by omega), dPack_m1, Option.bind_some, Option.isSome_some, Option.toList, List.cons_append, List.nil_append, zclr_i, zclr_r, zclr_n, zfit_i, zfit_l, and_self, if_true, if_false]
  · simp only [e_X4_readWord_0, e_X4_readWord_1, e_X4_readWord_2, e_X4_readWord_5, e_X4_readWord_6, e_X4_readWord_7, e_X4_readWord_8, e_X4_readWord_11, e_X4_readWord_12, e_X4_readWord_14, e_X4_readWord_17, e_X4_readWord_20, e_X4_readWord_23, e_X4_readWord_24, e_X4_readWord_27, e_X4_readWord_28, e_X4_readWord_31, e_X4_readWord_33, e_X4_readWord_34, e_X4_readWord_37, e_X4_readWord_38, e_X4_readWord_41, e_X4_readWord_44, e_X4_readWord_45, e_X4_readWord_48, e_X4_readWord_49, e_X4_readWord_50, e_X4_readWord_53, e_X4_readWord_56, e_X4_readWord_57, e_X4_readWord_58, e_X4_readWord_61, e_X4_readWord_62, e_X4_readWord_63, e_X4_readWord_65, e_X4_readWord_66, e_X4_readWord_67, e_X4_readWord_68, e_X4_readWord_69, e_X4_readWord_70, e_X4_readWord_73, e_X4_readWord_76, e_X4_readWord_79, e_X4_readWord_80, e_X4_readWord_81, e_X4_readWord_84, g_13_4, g_13_5, g_13_8, p_13_5, p_13_8, hp2, if_pos (Int32.not_lt.mp h1), if_neg h1, h (e - p) p _ (by omega), Option.bind_some, Option.isSome_some, Option.toList, List.cons_append, List.nil_append, zclr_i, zclr_r, zclr_n, zfit_i, zfit_l, and_self, if_true, if_false]
def dNum (I : Nat → Nat → Int32) : Nat → Nat → Int32 → Int32
  | _, 0, x => x
  | k, f + 1, x => dNum I (k + 1) f (x * 10 + (I 12 k - 48))
theorem d_readNumber {p e : Nat} (ht : I 13 1 = nI 12) (hp : I 13 4 = nI p) (hpe : p ≤ e) (h900 : e ≤ 900) (d : Nat) : zcall d 48 [.ref 13, .int (nI e)] (mk n m g I J) = some (none, mk n m g (if 4 < nI e - nI p then zu (zu (zu I 13 5 1) 13 6 0) 13 3 (nI e) else zu (zu (zu I 13 5 3) 13 6 (dNum I p (e - p) 0)) 13 3 (nI e)) J) := by
  rw [m_X4_readNumber]
  have h : ∀ f k x, k + f = e → zexec d 48 29 [some (.ref 13), some (.int (nI e)), some (.int (nI k))] [] (mk n m g (zu (zu I 13 5 3) 13 6 x) J) = some (none, mk n m g (zu (zu (zu I 13 5 3) 13 6 (dNum I k f x)) 13 3 (nI e)) J) := by
    intro f
    induction f with
    | zero =>
      intro k x hk
      rw [e_X4_readNumber_29]
      simp only [e_X4_readNumber_0, e_X4_readNumber_1, e_X4_readNumber_2, e_X4_readNumber_3, e_X4_readNumber_6, e_X4_readNumber_7, e_X4_readNumber_8, e_X4_readNumber_11, e_X4_readNumber_12, e_X4_readNumber_15, e_X4_readNumber_16, e_X4_readNumber_19, e_X4_readNumber_20, e_X4_readNumber_21, e_X4_readNumber_24, e_X4_readNumber_25, e_X4_readNumber_28, e_X4_readNumber_30, e_X4_readNumber_31, e_X4_readNumber_34, e_X4_readNumber_35, e_X4_readNumber_38, e_X4_readNumber_39, e_X4_readNumber_42, e_X4_readNumber_43, e_X4_readNumber_44, e_X4_readNumber_47, e_X4_readNumber_49, e_X4_readNumber_50, e_X4_readNumber_51, e_X4_readNumber_54, e_X4_readNumber_55, e_X4_readNumber_56, e_X4_readNumber_58, e_X4_readNumber_59, e_X4_readNumber_60, e_X4_readNumber_63, e_X4_readNumber_66, e_X4_readNumber_69, e_X4_readNumber_70, e_X4_readNumber_71, e_X4_readNumber_74, g_13_3, p_13_3, if_pos (nI_le (show e ≤ k by omega) (by omega : k < 2 ^ 31)), Option.bind_some, Option.isSome_some, Option.toList, List.cons_append, List.nil_append, zclr_i, zclr_r, zclr_n, zfit_i, zfit_l, and_self, if_true, if_false]
      rfl
    | succ f ih =>
      intro k x hk
      have e12 : (zu (zu I 13 5 3) 13 6 x) 12 = I 12 := by rw [zu_far _ _ _ (by decide), zu_far _ _ _ (by decide)]
      have e1 : (zu (zu I 13 5 3) 13 6 x) 13 1 = nI 12 := by rw [zu_row, if_neg (by decide), zu_row, if_neg (by decide)]; exact ht
      have e5 : (zu (zu I 13 5 3) 13 6 x) 13 5 = 3 := by rw [zu_row, if_neg (by decide), zu_row, if_pos rfl]
      have e6 : (zu (zu I 13 5 3) 13 6 x) 13 6 = x := by rw [zu_row, if_pos rfl]
      rw [e_X4_readNumber_29, dNum]
      simp only [e_X4_readNumber_0, e_X4_readNumber_1, e_X4_readNumber_2, e_X4_readNumber_3, e_X4_readNumber_6, e_X4_readNumber_7, e_X4_readNumber_8, e_X4_readNumber_11, e_X4_readNumber_12, e_X4_readNumber_15, e_X4_readNumber_16, e_X4_readNumber_19, e_X4_readNumber_20, e_X4_readNumber_21, e_X4_readNumber_24, e_X4_readNumber_25, e_X4_readNumber_28, e_X4_readNumber_30, e_X4_readNumber_31, e_X4_readNumber_34, e_X4_readNumber_35, e_X4_readNumber_38, e_X4_readNumber_39, e_X4_readNumber_42, e_X4_readNumber_43, e_X4_readNumber_44, e_X4_readNumber_47, e_X4_readNumber_49, e_X4_readNumber_50, e_X4_readNumber_51, e_X4_readNumber_54, e_X4_readNumber_55, e_X4_readNumber_56, e_X4_readNumber_58, e_X4_readNumber_59, e_X4_readNumber_60, e_X4_readNumber_63, e_X4_readNumber_66, e_X4_readNumber_69, e_X4_readNumber_70, e_X4_readNumber_71, e_X4_readNumber_74, g_13_1, g_13_5, g_13_6, p_13_6, e1, e5, e6, nI_clamp (show 12 < 2 ^ 31 by decide), l_12 (show k < 900 by omega), e12, if_neg (nI_ge (show k < e by omega) (by omega : e < 2 ^ 31)), zu_zu, nI_1, ih (k + 1) _ (by omega), ne_eq, not_true, Option.bind_some, Option.isSome_some, Option.toList, List.cons_append, List.nil_append, zclr_i, zclr_r, zclr_n, zfit_i, zfit_l, and_self, if_true, if_false]
  have hp2 : ∀ x, (zu (zu I 13 5 x) 13 6 0) 13 4 = nI p := fun x => by rw [zu_row, if_neg (by decide), zu_row, if_neg (by decide)]; exact hp
  by_cases h1 : 4 < nI e - nI p
  · have h5 : (zu (zu I 13 5 1) 13 6 0) 13 5 = 1 := by rw [zu_row, if_neg (by decide), zu_row, if_pos rfl]
    simp only [e_X4_readNumber_0, e_X4_readNumber_1, e_X4_readNumber_2, e_X4_readNumber_3, e_X4_readNumber_6, e_X4_readNumber_7, e_X4_readNumber_8, e_X4_readNumber_11, e_X4_readNumber_12, e_X4_readNumber_15, e_X4_readNumber_16, e_X4_readNumber_19, e_X4_readNumber_20, e_X4_readNumber_21, e_X4_readNumber_24, e_X4_readNumber_25, e_X4_readNumber_28, e_X4_readNumber_30, e_X4_readNumber_31, e_X4_readNumber_34, e_X4_readNumber_35, e_X4_readNumber_38, e_X4_readNumber_39, e_X4_readNumber_42, e_X4_readNumber_43, e_X4_readNumber_44, e_X4_readNumber_47, e_X4_readNumber_49, e_X4_readNumber_50, e_X4_readNumber_51, e_X4_readNumber_54, e_X4_readNumber_55, e_X4_readNumber_56, e_X4_readNumber_58, e_X4_readNumber_59, e_X4_readNumber_60, e_X4_readNumber_63, e_X4_readNumber_66, e_X4_readNumber_69, e_X4_readNumber_70, e_X4_readNumber_71, e_X4_readNumber_74, g_13_4, g_13_5, g_13_6, p_13_5, p_13_6, hp, hp2, if_neg (Int32.not_le.mpr h1), if_pos h1, Option.bind_some, Option.isSome_some, Option.toList, List.cons_append, List.nil_append, zclr_i, zclr_r, zclr_n, zfit_i, zfit_l, and_self, if_true, if_false]
    rw [e_X4_readNumber_29]
    by_cases h2 : nI e ≤ nI p
    · simp only [e_X4_readNumber_0, e_X4_readNumber_1, e_X4_readNumber_2, e_X4_readNumber_3, e_X4_readNumber_6, e_X4_readNumber_7, e_X4_readNumber_8, e_X4_readNumber_11, e_X4_readNumber_12, e_X4_readNumber_15, e_X4_readNumber_16, e_X4_readNumber_19, e_X4_readNumber_20, e_X4_readNumber_21, e_X4_readNumber_24, e_X4_readNumber_25, e_X4_readNumber_28, e_X4_readNumber_30, e_X4_readNumber_31, e_X4_readNumber_34, e_X4_readNumber_35, e_X4_readNumber_38, e_X4_readNumber_39, e_X4_readNumber_42, e_X4_readNumber_43, e_X4_readNumber_44, e_X4_readNumber_47, e_X4_readNumber_49, e_X4_readNumber_50, e_X4_readNumber_51, e_X4_readNumber_54, e_X4_readNumber_55, e_X4_readNumber_56, e_X4_readNumber_58, e_X4_readNumber_59, e_X4_readNumber_60, e_X4_readNumber_63, e_X4_readNumber_66, e_X4_readNumber_69, e_X4_readNumber_70, e_X4_readNumber_71, e_X4_readNumber_74, g_13_3, p_13_3, if_pos h2, Option.bind_some, Option.isSome_some, Option.toList, List.cons_append, List.nil_append, zclr_i, zclr_r, zclr_n, zfit_i, zfit_l, and_self, if_true, if_false]
    · simp only [e_X4_readNumber_0, e_X4_readNumber_1, e_X4_readNumber_2, e_X4_readNumber_3, e_X4_readNumber_6, e_X4_readNumber_7, e_X4_readNumber_8, e_X4_readNumber_11, e_X4_readNumber_12, e_X4_readNumber_15, e_X4_readNumber_16, e_X4_readNumber_19, e_X4_readNumber_20, e_X4_readNumber_21, e_X4_readNumber_24, e_X4_readNumber_25, e_X4_readNumber_28, e_X4_readNumber_30, e_X4_readNumber_31, e_X4_readNumber_34, e_X4_readNumber_35, e_X4_readNumber_38, e_X4_readNumber_39, e_X4_readNumber_42, e_X4_readNumber_43, e_X4_readNumber_44, e_X4_readNumber_47, e_X4_readNumber_49, e_X4_readNumber_50, e_X4_readNumber_51, e_X4_readNumber_54, e_X4_readNumber_55, e_X4_readNumber_56, e_X4_readNumber_58, e_X4_readNumber_59, e_X4_readNumber_60, e_X4_readNumber_63, e_X4_readNumber_66, e_X4_readNumber_69, e_X4_readNumber_70, e_X4_readNumber_71, e_X4_readNumber_74, g_13_3, g_13_5, p_13_3, h5, if_neg h2, if_neg (show ¬ (1 : Int32) = 3 by decide), Option.bind_some, Option.isSome_some, Option.toList, List.cons_append, List.nil_append, zclr_i, zclr_r, zclr_n, zfit_i, zfit_l, and_self, if_true, if_false]
  · simp only [e_X4_readNumber_0, e_X4_readNumber_1, e_X4_readNumber_2, e_X4_readNumber_3, e_X4_readNumber_6, e_X4_readNumber_7, e_X4_readNumber_8, e_X4_readNumber_11, e_X4_readNumber_12, e_X4_readNumber_15, e_X4_readNumber_16, e_X4_readNumber_19, e_X4_readNumber_20, e_X4_readNumber_21, e_X4_readNumber_24, e_X4_readNumber_25, e_X4_readNumber_28, e_X4_readNumber_30, e_X4_readNumber_31, e_X4_readNumber_34, e_X4_readNumber_35, e_X4_readNumber_38, e_X4_readNumber_39, e_X4_readNumber_42, e_X4_readNumber_43, e_X4_readNumber_44, e_X4_readNumber_47, e_X4_readNumber_49, e_X4_readNumber_50, e_X4_readNumber_51, e_X4_readNumber_54, e_X4_readNumber_55, e_X4_readNumber_56, e_X4_readNumber_58, e_X4_readNumber_59, e_X4_readNumber_60, e_X4_readNumber_63, e_X4_readNumber_66, e_X4_readNumber_69, e_X4_readNumber_70, e_X4_readNumber_71, e_X4_readNumber_74, g_13_4, g_13_5, g_13_6, p_13_5, p_13_6, hp, hp2, if_pos (Int32.not_lt.mp h1), if_neg h1, h (e - p) p _ (by omega), Option.bind_some, Option.isSome_some, Option.toList, List.cons_append, List.nil_append, zclr_i, zclr_r, zclr_n, zfit_i, zfit_l, and_self, if_true, if_false]
end RE
