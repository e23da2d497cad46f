/-! RINGS: the reference -/
section RJ
variable {n m : Nat} {g : Nat → zC} {I X A : Nat → Nat → Int32} {J : Nat → Nat → Int64} {N S U b : Nat}
theorem v_firstWith {r : Nat} {s : Int32} (hW : WT A b N S U) (hR : RT A b (I 148) N S) (hr : r < 4096) (hs : subR A b N r) (d : Nat) : zcall (d + 1) 373 [.ref 143, .int (nI r), .int s] (mk n m g I J) = some (some (.int (oI (zfind (fun q => r.testBit q && decide (A (b + 7) q = s)) some none 0 12))), mk n m g I J) := by
  have h12 := hW.h12
  have hcut : zfind (fun q => r.testBit q && decide (A (b + 7) q = s)) some none 0 12 = zfind (fun q => r.testBit q && decide (A (b + 7) q = s)) some none 0 N := by
    rw [show 12 = N + (12 - N) by omega]
    refine zfind_cut N (12 - N) 0 (fun q hq => ?_)
    cases e : r.testBit q
    · rfl
    · have := (hs q e).1
      omega
  rw [hcut, m_X12_firstWith]
  simp only [e_X12_firstWith_0, e_X12_firstWith_1, e_X12_firstWith_3, e_X12_firstWith_4, e_X12_firstWith_7, e_X12_firstWith_8, e_X12_firstWith_9, e_X12_firstWith_12, e_X12_firstWith_13, e_X12_firstWith_14, e_X12_firstWith_17, e_X12_firstWith_20, e_X12_firstWith_21, e_X12_firstWith_24, e_X12_firstWith_26, e_X12_firstWith_27, e_X12_firstWith_28, e_X12_firstWith_29, e_X12_firstWith_30, e_X12_firstWith_33, e_X12_firstWith_34, e_X12_firstWith_35, e_X12_firstWith_38, e_X12_firstWith_41, e_X12_firstWith_42, Option.bind_some, Option.isSome_some, Option.toList, List.cons_append, List.nil_append, zclr_i, zclr_r, zclr_n, zfit_i, zfit_l, and_self, if_true, if_false]
  refine (zsearch (fun k => zexec (d + 1) 373 2 [some (.ref 143), some (.int (nI r)), some (.int s), some (.int (nI k))] [] (mk n m g I J)) (fun q => r.testBit q && decide (A (b + 7) q = s)) (fun k => some (some (.int (nI k)), mk n m g I J)) N ?_ N 0 (by omega)).trans ?_
  · intro p hp
    rw [e_X12_firstWith_2]
    simp only [e_X12_firstWith_0, e_X12_firstWith_1, e_X12_firstWith_3, e_X12_firstWith_4, e_X12_firstWith_7, e_X12_firstWith_8, e_X12_firstWith_9, e_X12_firstWith_12, e_X12_firstWith_13, e_X12_firstWith_14, e_X12_firstWith_17, e_X12_firstWith_20, e_X12_firstWith_21, e_X12_firstWith_24, e_X12_firstWith_26, e_X12_firstWith_27, e_X12_firstWith_28, e_X12_firstWith_29, e_X12_firstWith_30, e_X12_firstWith_33, e_X12_firstWith_34, e_X12_firstWith_35, e_X12_firstWith_38, e_X12_firstWith_41, e_X12_firstWith_42, cA_6, cA_12, cA_18, cA_30, cA_42, cA_54, cA_66, cA_78, cA_90, cA_102, cA_114, cA_126, cA_138, cA_210, cA_222, lc_0, lc_1, lc_2, lc_3, lc_4, lc_5, g_143_20, q_148, nI_neg (show 30 + p < 2 ^ 31 by omega), nI_clamp (show 30 + p < 2 ^ 31 by omega), k_148 (show 30 + p < 2530 by omega), l_148 (show 30 + p < 2530 by omega), hW.c1 hR, if_neg (nI_ge hp (show N < 2 ^ 31 by omega)), v_hasS (isS_nI hr) (show p < 12 by omega), hR.bears p hp, nI_1, Option.bind_some, Option.isSome_some, Option.toList, List.cons_append, List.nil_append, zclr_i, zclr_r, zclr_n, zfit_i, zfit_l, and_self, if_true, if_false]
    cases r.testBit p
    · simp [bI]
    · by_cases e : A (b + 7) p = s <;> simp [bI, e]
  · rw [e_X12_firstWith_2]
    simp only [e_X12_firstWith_0, e_X12_firstWith_1, e_X12_firstWith_3, e_X12_firstWith_4, e_X12_firstWith_7, e_X12_firstWith_8, e_X12_firstWith_9, e_X12_firstWith_12, e_X12_firstWith_13, e_X12_firstWith_14, e_X12_firstWith_17, e_X12_firstWith_20, e_X12_firstWith_21, e_X12_firstWith_24, e_X12_firstWith_26, e_X12_firstWith_27, e_X12_firstWith_28, e_X12_firstWith_29, e_X12_firstWith_30, e_X12_firstWith_33, e_X12_firstWith_34, e_X12_firstWith_35, e_X12_firstWith_38, e_X12_firstWith_41, e_X12_firstWith_42, cA_6, cA_12, cA_18, cA_30, cA_42, cA_54, cA_66, cA_78, cA_90, cA_102, cA_114, cA_126, cA_138, cA_210, cA_222, lc_0, lc_1, lc_2, lc_3, lc_4, lc_5, g_143_20, q_148, hW.c1 hR, if_pos (nI_le (Nat.le_refl N) (show N < 2 ^ 31 by omega)), Option.bind_some, Option.isSome_some, Option.toList, List.cons_append, List.nil_append, zclr_i, zclr_r, zclr_n, zfit_i, zfit_l, and_self, if_true, if_false]
    exact zfind_app (fun a => some (some (Value.int (oI a)), mk n m g I J)) _ some none N 0
theorem v_pointOf {r p : Nat} (hW : WT A b N S U) (hR : RT A b (I 148) N S) (hr : r < 4096) (hs : subR A b N r) (hp : p < N) (d : Nat) : zcall (d + 2) 374 [.ref 143, .int (nI p), .int (nI r)] (mk n m g I J) = some (some (.int (nI (dr A b r p 0 (A (b + 12) p).toNatClampNeg))), mk n m g I J) := by
  have h12 := hW.h12
  obtain ⟨K, hK, eK⟩ := hW.likes p hp
  have ek : pK A b p = K := by
    unfold pK
    rw [eK, nI_clamp (by omega)]
  rw [m_X12_pointOf, eK, nI_clamp (by omega)]
  simp only [e_X12_pointOf_0, e_X12_pointOf_1, e_X12_pointOf_3, e_X12_pointOf_4, e_X12_pointOf_7, e_X12_pointOf_9, e_X12_pointOf_10, e_X12_pointOf_11, e_X12_pointOf_12, e_X12_pointOf_15, e_X12_pointOf_16, e_X12_pointOf_19, e_X12_pointOf_22, e_X12_pointOf_24, e_X12_pointOf_25, e_X12_pointOf_26, e_X12_pointOf_27, e_X12_pointOf_28, e_X12_pointOf_29, e_X12_pointOf_30, e_X12_pointOf_32, e_X12_pointOf_34, e_X12_pointOf_35, e_X12_pointOf_38, e_X12_pointOf_40, e_X12_pointOf_41, e_X12_pointOf_42, e_X12_pointOf_43, e_X12_pointOf_46, e_X12_pointOf_47, e_X12_pointOf_48, e_X12_pointOf_49, e_X12_pointOf_50, e_X12_pointOf_52, e_X12_pointOf_55, e_X12_pointOf_58, e_X12_pointOf_59, e_X12_pointOf_60, e_X12_pointOf_62, e_X12_pointOf_65, e_X12_pointOf_66, e_X12_pointOf_69, e_X12_pointOf_72, e_X12_pointOf_73, Option.bind_some, Option.isSome_some, Option.toList, List.cons_append, List.nil_append, zclr_i, zclr_r, zclr_n, zfit_i, zfit_l, and_self, if_true, if_false]
  have h : ∀ f k (y : Option Int32), k + f = K → zexec (d + 2) 374 2 [some (.ref 143), some (.int (nI p)), some (.int (nI r)), some (.int (nI k)), y.map Value.int] [] (mk n m g I J) = some (some (.int (nI (dr A b r p k f))), mk n m g I J) := by
    intro f
    induction f with
    | zero =>
      intro k y hk
      rw [e_X12_pointOf_2]
      simp only [e_X12_pointOf_0, e_X12_pointOf_1, e_X12_pointOf_3, e_X12_pointOf_4, e_X12_pointOf_7, e_X12_pointOf_9, e_X12_pointOf_10, e_X12_pointOf_11, e_X12_pointOf_12, e_X12_pointOf_15, e_X12_pointOf_16, e_X12_pointOf_19, e_X12_pointOf_22, e_X12_pointOf_24, e_X12_pointOf_25, e_X12_pointOf_26, e_X12_pointOf_27, e_X12_pointOf_28, e_X12_pointOf_29, e_X12_pointOf_30, e_X12_pointOf_32, e_X12_pointOf_34, e_X12_pointOf_35, e_X12_pointOf_38, e_X12_pointOf_40, e_X12_pointOf_41, e_X12_pointOf_42, e_X12_pointOf_43, e_X12_pointOf_46, e_X12_pointOf_47, e_X12_pointOf_48, e_X12_pointOf_49, e_X12_pointOf_50, e_X12_pointOf_52, e_X12_pointOf_55, e_X12_pointOf_58, e_X12_pointOf_59, e_X12_pointOf_60, e_X12_pointOf_62, e_X12_pointOf_65, e_X12_pointOf_66, e_X12_pointOf_69, e_X12_pointOf_72, e_X12_pointOf_73, cA_6, cA_12, cA_18, cA_30, cA_42, cA_54, cA_66, cA_78, cA_90, cA_102, cA_114, cA_126, cA_138, cA_210, cA_222, lc_0, lc_1, lc_2, lc_3, lc_4, lc_5, g_143_20, q_148, nI_neg (show 126 + p < 2 ^ 31 by omega), nI_clamp (show 126 + p < 2 ^ 31 by omega), k_148 (show 126 + p < 2530 by omega), l_148 (show 126 + p < 2530 by omega), hR.likes p hp, eK, if_pos (nI_le (show K ≤ k by omega) (by omega : k < 2 ^ 31)), zclr_map, Option.bind_some, Option.isSome_some, Option.toList, List.cons_append, List.nil_append, zclr_i, zclr_r, zclr_n, zfit_i, zfit_l, and_self, if_true, if_false]
      rfl
    | succ f ih =>
      intro k y hk
      have e6 : (138 : Int32) + 6 * nI p + nI k = nI (138 + (6 * p + k)) := by
        rw [show (6 : Int32) * nI p = nI (6 * p) from by rw [show (6 : Int32) = nI 6 from rfl, pk_mul], cA_138, nI_add, Nat.add_assoc]
      have hih : zexec (d + 2) 374 2 [some (.ref 143), some (.int (nI p)), some (.int (nI r)), some (.int (nI (k + 1))), some (.int (A (b + 13) (p * 6 + k)))] [] (mk n m g I J) = some (some (.int (nI (dr A b r p (k + 1) f))), mk n m g I J) := ih (k + 1) (some (A (b + 13) (p * 6 + k))) (by omega)
      rw [e_X12_pointOf_2, dr]
      simp only [e_X12_pointOf_0, e_X12_pointOf_1, e_X12_pointOf_3, e_X12_pointOf_4, e_X12_pointOf_7, e_X12_pointOf_9, e_X12_pointOf_10, e_X12_pointOf_11, e_X12_pointOf_12, e_X12_pointOf_15, e_X12_pointOf_16, e_X12_pointOf_19, e_X12_pointOf_22, e_X12_pointOf_24, e_X12_pointOf_25, e_X12_pointOf_26, e_X12_pointOf_27, e_X12_pointOf_28, e_X12_pointOf_29, e_X12_pointOf_30, e_X12_pointOf_32, e_X12_pointOf_34, e_X12_pointOf_35, e_X12_pointOf_38, e_X12_pointOf_40, e_X12_pointOf_41, e_X12_pointOf_42, e_X12_pointOf_43, e_X12_pointOf_46, e_X12_pointOf_47, e_X12_pointOf_48, e_X12_pointOf_49, e_X12_pointOf_50, e_X12_pointOf_52, e_X12_pointOf_55, e_X12_pointOf_58, e_X12_pointOf_59, e_X12_pointOf_60, e_X12_pointOf_62, e_X12_pointOf_65, e_X12_pointOf_66, e_X12_pointOf_69, e_X12_pointOf_72, e_X12_pointOf_73, cA_6, cA_12, cA_18, cA_30, cA_42, cA_54, cA_66, cA_78, cA_90, cA_102, cA_114, cA_126, cA_138, cA_210, cA_222, lc_0, lc_1, lc_2, lc_3, lc_4, lc_5, g_143_20, q_148, nI_neg (show 30 + p < 2 ^ 31 by omega), nI_clamp (show 30 + p < 2 ^ 31 by omega), k_148 (show 30 + p < 2530 by omega), l_148 (show 30 + p < 2530 by omega), nI_neg (show 126 + p < 2 ^ 31 by omega), nI_clamp (show 126 + p < 2 ^ 31 by omega), k_148 (show 126 + p < 2530 by omega), l_148 (show 126 + p < 2530 by omega), nI_neg (show 138 + (6 * p + k) < 2 ^ 31 by omega), nI_clamp (show 138 + (6 * p + k) < 2 ^ 31 by omega), k_148 (show 138 + (6 * p + k) < 2530 by omega), l_148 (show 138 + (6 * p + k) < 2530 by omega), c_143, hR.likes p hp, hR.bears p hp, eK, if_neg (nI_ge (show k < K by omega) (by omega : K < 2 ^ 31)), e6, hR.like p k hp (by omega), v_firstWith hW hR hr hs, nI_1, hih, zclr_map, Option.bind_some, Option.isSome_some, Option.toList, List.cons_append, List.nil_append, zclr_i, zclr_r, zclr_n, zfit_i, zfit_l, and_self, if_true, if_false]
      by_cases e : A (b + 13) (p * 6 + k) = A (b + 7) p
      · simp [e]
      · cases hz : zfind (fun q => r.testBit q && decide (A (b + 7) q = A (b + 13) (p * 6 + k))) some none 0 12 with
        | none => simp [e, oI, show ((-1 : Int32) < 0) = True by decide]
        | some q =>
          obtain ⟨_, hq, _⟩ := zfind_some _ _ hz
          simp [e, oI, nI_neg (show q < 2 ^ 31 by omega)]
  exact h K 0 none (by omega)
theorem v_ringOf {F : Nat → Nat} {p : Nat} (hF : ∀ q, q < 12 → F q < 12 ∧ I 155 q = nI (F q)) (hp : p < 12) (d : Nat) : zcall d 375 [.ref 143, .int (nI p)] (mk n m g I J) = some (some (.int (nI (rg F p p 0 12))), mk n m g I J) := by
  rw [m_X12_ringOf]
  simp only [e_X12_ringOf_0, e_X12_ringOf_1, e_X12_ringOf_2, e_X12_ringOf_3, e_X12_ringOf_4, e_X12_ringOf_5, e_X12_ringOf_9, e_X12_ringOf_11, e_X12_ringOf_14, e_X12_ringOf_15, e_X12_ringOf_16, e_X12_ringOf_17, e_X12_ringOf_18, e_X12_ringOf_19, e_X12_ringOf_20, e_X12_ringOf_21, e_X12_ringOf_24, e_X12_ringOf_25, e_X12_ringOf_26, e_X12_ringOf_27, e_X12_ringOf_28, e_X12_ringOf_29, e_X12_ringOf_32, e_X12_ringOf_33, e_X12_ringOf_34, e_X12_ringOf_37, e_X12_ringOf_40, e_X12_ringOf_41, Option.bind_some, Option.isSome_some, Option.toList, List.cons_append, List.nil_append, zclr_i, zclr_r, zclr_n, zfit_i, zfit_l, and_self, if_true, if_false]
  have h : ∀ f k q s, k + f = 12 → q < 12 → zexec d 375 7 [some (.ref 143), some (.int (nI p)), some (.int (nI s)), some (.int (nI q)), some (.int (nI k))] [] (mk n m g I J) = some (some (.int (nI (rg F p q s f))), mk n m g I J) := by
    intro f
    induction f with
    | zero =>
      intro k q s hk hq
      have : k = 12 := by omega
      subst this
      rw [e_X12_ringOf_7]
      simp only [e_X12_ringOf_0, e_X12_ringOf_1, e_X12_ringOf_2, e_X12_ringOf_3, e_X12_ringOf_4, e_X12_ringOf_5, e_X12_ringOf_9, e_X12_ringOf_11, e_X12_ringOf_14, e_X12_ringOf_15, e_X12_ringOf_16, e_X12_ringOf_17, e_X12_ringOf_18, e_X12_ringOf_19, e_X12_ringOf_20, e_X12_ringOf_21, e_X12_ringOf_24, e_X12_ringOf_25, e_X12_ringOf_26, e_X12_ringOf_27, e_X12_ringOf_28, e_X12_ringOf_29, e_X12_ringOf_32, e_X12_ringOf_33, e_X12_ringOf_34, e_X12_ringOf_37, e_X12_ringOf_40, e_X12_ringOf_41, if_pos (show (12 : Int32) ≤ nI 12 by decide), Option.bind_some, Option.isSome_some, Option.toList, List.cons_append, List.nil_append, zclr_i, zclr_r, zclr_n, zfit_i, zfit_l, and_self, if_true, if_false]
      rfl
    | succ f ih =>
      intro k q s hk hq
      obtain ⟨h1, h2⟩ := hF q hq
      have e1 : nI s ||| 1 <<< (nI q &&& 31) = nI (s ||| 2 ^ q) := by
        rw [show (1 : Int32) <<< (nI q &&& 31) = bt q from rfl, bt_nI hq, nI_or]
      have e2 : (nI (F q) = nI p) = (F q = p) := by
        apply propext
        exact ⟨fun h => nI_inj (by omega) (by omega) h, fun h => by rw [h]⟩
      rw [e_X12_ringOf_7, rg]
      simp only [e_X12_ringOf_0, e_X12_ringOf_1, e_X12_ringOf_2, e_X12_ringOf_3, e_X12_ringOf_4, e_X12_ringOf_5, e_X12_ringOf_9, e_X12_ringOf_11, e_X12_ringOf_14, e_X12_ringOf_15, e_X12_ringOf_16, e_X12_ringOf_17, e_X12_ringOf_18, e_X12_ringOf_19, e_X12_ringOf_20, e_X12_ringOf_21, e_X12_ringOf_24, e_X12_ringOf_25, e_X12_ringOf_26, e_X12_ringOf_27, e_X12_ringOf_28, e_X12_ringOf_29, e_X12_ringOf_32, e_X12_ringOf_33, e_X12_ringOf_34, e_X12_ringOf_37, e_X12_ringOf_40, e_X12_ringOf_41, g_143_30, if_neg (show ¬ (12 : Int32) ≤ nI k from nI_ge (b := 12) (by omega) (by decide)), e1, l_155 hq, h2, e2, nI_1, ih (k + 1) (F q) (s ||| 2 ^ q) (by omega) h1, Option.bind_some, Option.isSome_some, Option.toList, List.cons_append, List.nil_append, zclr_i, zclr_r, zclr_n, zfit_i, zfit_l, and_self, if_true, if_false]
      by_cases e : F q = p <;> simp [e]
  exact h 12 0 p 0 (by omega) hp
def MR (I : Nat → Nat → Int32) (c : Int32) (gs ps : Nat → Int32) : Nat → Nat → Int32 := zr (zr (zu I 143 31 c) 154 gs) 155 ps
theorem MR_154 {c : Int32} {gs ps : Nat → Int32} : MR I c gs ps 154 = gs := by
  funext q
  unfold MR
  rw [zr_far _ _ (by decide), zr_same]
theorem MR_155 {c : Int32} {gs ps : Nat → Int32} : MR I c gs ps 155 = ps := by
  funext q
  unfold MR
  rw [zr_same]
theorem MR_31 {c : Int32} {gs ps : Nat → Int32} : MR I c gs ps 143 31 = c := by
  unfold MR
  rw [zr_far _ _ (by decide), zr_far _ _ (by decide), zu_row, if_pos rfl]
theorem MR_143 {c : Int32} {gs ps : Nat → Int32} {k : Nat} (h : k ≠ 31) : MR I c gs ps 143 k = I 143 k := by
  unfold MR
  rw [zr_far _ _ (by decide), zr_far _ _ (by decide), zu_row, if_neg h]
theorem MR_far {c : Int32} {gs ps : Nat → Int32} {a : Nat} (h1 : a ≠ 143) (h2 : a ≠ 154) (h3 : a ≠ 155) : MR I c gs ps a = I a := by
  unfold MR
  rw [zr_far _ _ h3, zr_far _ _ h2, zu_far _ _ _ h1]
theorem MR_u154 {c x : Int32} {gs ps : Nat → Int32} {q : Nat} : zu (MR I c gs ps) 154 q x = MR I c (fu gs q x) ps := by
  unfold MR
  rw [← zr_zu _ _ _ _ _ _ (by decide), zu_zr]
theorem MR_u155 {c x : Int32} {gs ps : Nat → Int32} {q : Nat} : zu (MR I c gs ps) 155 q x = MR I c gs (fu ps q x) := by
  unfold MR
  rw [zu_zr]
theorem MR_u31 {c x : Int32} {gs ps : Nat → Int32} : zu (MR I c gs ps) 143 31 x = MR I x gs ps := by
  unfold MR
  rw [← zr_zu _ _ _ _ _ _ (by decide), ← zr_zu _ _ _ _ _ _ (by decide), zu_zu]
theorem MR_id : MR I (I 143 31) (I 154) (I 155) = I := by
  funext a k
  by_cases h : a = 155
  · subst h; rw [MR_155]
  · by_cases h2 : a = 154
    · subst h2; rw [MR_154]
    · by_cases h3 : a = 143
      · subst h3
        by_cases h4 : k = 31
        · subst h4; rw [MR_31]
        · rw [MR_143 h4]
      · rw [MR_far h3 h2 h]
theorem MR_R {c : Int32} {gs ps : Nat → Int32} (hR : RT A b (I 148) N S) : RT A b (MR I c gs ps 148) N S := by rw [MR_far (by decide) (by decide) (by decide)]; exact hR
theorem big_ring {F : Nat → Nat} {p L R : Nat} (hp : p < 12) (hL : ln F p p 1 12 = L) (hL1 : 1 ≤ L) (hRd : rg F p p 0 12 = R) (hR : R < 4096) (hF : F p < 12) (hRo : ∀ x, R.testBit x = og F L p x) : (1 < L ↔ 1 < cnt R.testBit 12) := by
  by_cases e : F p = p
  · have h1 : L = 1 := by rw [← hL, ln, if_pos e]
    have h2 : R = 2 ^ p := by rw [← hRd, rg, if_pos e, Nat.zero_or]
    have h3 : cnt R.testBit 12 = 1 := by
      rw [h2]
      have : p = 0 ∨ p = 1 ∨ p = 2 ∨ p = 3 ∨ p = 4 ∨ p = 5 ∨ p = 6 ∨ p = 7 ∨ p = 8 ∨ p = 9 ∨ p = 10 ∨ p = 11 := by omega
      rcases this with rfl | rfl | rfl | rfl | rfl | rfl | rfl | rfl | rfl | rfl | rfl | rfl <;> rfl
    omega
  · have h2 : 2 ≤ L := by
      rw [ln, if_neg e] at hL
      rcases ln_case (F := F) (p := p) 11 (F p) 1 0 with h | ⟨j, _, h, _⟩
      · have := h.1
        omega
      · omega
    have hb1 : R.testBit p = true := by
      obtain ⟨k, rfl⟩ : ∃ k, L = k + 1 := ⟨L - 1, by omega⟩
      rw [hRo, og]
      simp
    have hb2 : R.testBit (F p) = true := by
      obtain ⟨k, rfl⟩ : ∃ k, L = k + 1 + 1 := ⟨L - 2, by omega⟩
      rw [hRo, og, og]
      simp
    have c1 := cnt_rm hR hp hb1
    have c2 := cnt_rm (r := rm R p) (Nat.lt_of_le_of_lt (rm_le _ _) hR) hF (by
      rw [rm_bit hR hp, hb2]
      simp
      exact fun h => e h.symm)
    omega
/-- the reference, one round -/
theorem vr_round {z : RS} {r0 : Int32} {y3 y4 y5 : Option Int32} {ps gs : Nat → Int32} (hW : WT A b N S U) (hR : RT A b (I 148) N S) (hr : z.1 < 4096) (h0 : z.1 ≠ 0) (hs : subR A b N z.1) (hg : ∀ q, q < 12 → gs q = z.2.1 q) (d : Nat) : ∃ (y3' y4' y5' : Option Int32) (gs' ps' : Nat → Int32), zexec (d + 3) 376 40 [some (.ref 143), some (.int (nI z.1)), some (.int r0), y3.map Value.int, y4.map Value.int, y5.map Value.int] [] (mk n m g (MR I (nI z.2.2) gs ps) J) = zexec (d + 3) 376 40 [some (.ref 143), some (.int (nI (rs A b z).1)), some (.int r0), y3'.map Value.int, y4'.map Value.int, y5'.map Value.int] [] (mk n m g (MR I (nI (rs A b z).2.2) gs' ps') J) ∧ ∀ q, q < 12 → gs' q = (rs A b z).2.1 q := by
  have h12 := hW.h12
  obtain ⟨p, L, R, hp, hbp, hz, hL, hL1, hL12, hRd, hR4, hRo, hRp, hRs, e⟩ := rs_is (A := A) (b := b) hr h0
  have hne : ¬ nI z.1 = 0 := fun h => h0 (nI_inj (by omega) (by decide) h)
  -- pointing
  have h1 : ∃ ps', zexec (d + 3) 376 40 [some (.ref 143), some (.int (nI z.1)), some (.int r0), y3.map Value.int, y4.map Value.int, y5.map Value.int] [] (mk n m g (MR I (nI z.2.2) gs ps) J) = zexec (d + 3) 376 84 [some (.ref 143), some (.int (nI z.1)), some (.int r0), some (.int (nI 0)), y4.map Value.int, y5.map Value.int] [] (mk n m g (MR I (nI z.2.2) gs ps') J) ∧ ∀ q, q < 12 → ps' q = nI (ptr A b z.1 q) := by
    have hl := zloopR (fun k (x : Nat → Int32) => zexec (d + 3) 376 46 [some (.ref 143), some (.int (nI z.1)), some (.int r0), some (.int (nI k)), y4.map Value.int, y5.map Value.int] [] (mk n m g (MR I (nI z.2.2) gs x) J)) (fun k (_ : Unit) x => ∀ q, q < k → x q = nI (ptr A b z.1 q)) (fun _ u => u) 12 ?_ 12 0 () ps (by omega) (fun q hq => by omega)
    · obtain ⟨ps', e1, e2⟩ := hl
      refine ⟨ps', ?_, e2⟩
      have h46 : zexec (d + 3) 376 40 [some (.ref 143), some (.int (nI z.1)), some (.int r0), y3.map Value.int, y4.map Value.int, y5.map Value.int] [] (mk n m g (MR I (nI z.2.2) gs ps) J) = zexec (d + 3) 376 46 [some (.ref 143), some (.int (nI z.1)), some (.int r0), some (.int (nI 0)), y4.map Value.int, y5.map Value.int] [] (mk n m g (MR I (nI z.2.2) gs ps) J) := by
        simp only [e_X12_laysRings_40, e_X12_laysRings_41, e_X12_laysRings_44, e_X12_laysRings_45, hne, zclr_map, Option.bind_some, Option.isSome_some, Option.toList, List.cons_append, List.nil_append, zclr_i, zclr_r, zclr_n, zfit_i, zfit_l, and_self, if_true, if_false]
        rfl
      refine h46.trans ((show _ from e1).trans ?_)
      rw [e_X12_laysRings_46]
      simp only [e_X12_laysRings_47, e_X12_laysRings_49, e_X12_laysRings_82, e_X12_laysRings_83, if_pos (show (12 : Int32) ≤ nI 12 by decide), zclr_map, Option.bind_some, Option.isSome_some, Option.toList, List.cons_append, List.nil_append, zclr_i, zclr_r, zclr_n, zfit_i, zfit_l, and_self, if_true, if_false]
      rfl
    · rintro k _ x hk hx
      refine ⟨fu x k (nI (ptr A b z.1 k)), ?_, fun q hq => ?_⟩
      · rw [e_X12_laysRings_46]
        cases hb : z.1.testBit k
        · have hpt : ptr A b z.1 k = k := by
            unfold ptr
            rw [hb]
            rfl
          simp only [e_X12_laysRings_47, e_X12_laysRings_49, e_X12_laysRings_52, e_X12_laysRings_53, e_X12_laysRings_56, e_X12_laysRings_57, e_X12_laysRings_58, e_X12_laysRings_59, e_X12_laysRings_62, e_X12_laysRings_65, e_X12_laysRings_66, e_X12_laysRings_67, e_X12_laysRings_68, e_X12_laysRings_71, e_X12_laysRings_74, e_X12_laysRings_75, e_X12_laysRings_76, e_X12_laysRings_79, c_143, g_143_30, if_neg (show ¬ (12 : Int32) ≤ nI k from nI_ge (b := 12) hk (by decide)), v_hasS (isS_nI hr) hk, hb, bI, Bool.false_eq_true, nI_neg (show k < 2 ^ 31 by omega), nI_clamp (show k < 2 ^ 31 by omega), k_155 hk, q_155, MR_u155, hpt, nI_1, zclr_map, Option.bind_some, Option.isSome_some, Option.toList, List.cons_append, List.nil_append, zclr_i, zclr_r, zclr_n, zfit_i, zfit_l, and_self, if_true, if_false]
        · have hpt : ptr A b z.1 k = dr A b z.1 k 0 (A (b + 12) k).toNatClampNeg := by
            unfold ptr
            rw [hb]
            rfl
          simp only [e_X12_laysRings_47, e_X12_laysRings_49, e_X12_laysRings_52, e_X12_laysRings_53, e_X12_laysRings_56, e_X12_laysRings_57, e_X12_laysRings_58, e_X12_laysRings_59, e_X12_laysRings_62, e_X12_laysRings_65, e_X12_laysRings_66, e_X12_laysRings_67, e_X12_laysRings_68, e_X12_laysRings_71, e_X12_laysRings_74, e_X12_laysRings_75, e_X12_laysRings_76, e_X12_laysRings_79, c_143, g_143_30, if_neg (show ¬ (12 : Int32) ≤ nI k from nI_ge (b := 12) hk (by decide)), v_hasS (isS_nI hr) hk, hb, bI, v_pointOf hW (MR_R hR) hr hs (hs k hb).1, show ((1 : Int32) = 0) = False by decide, nI_neg (show k < 2 ^ 31 by omega), nI_clamp (show k < 2 ^ 31 by omega), k_155 hk, q_155, MR_u155, hpt, nI_1, zclr_map, Option.bind_some, Option.isSome_some, Option.toList, List.cons_append, List.nil_append, zclr_i, zclr_r, zclr_n, zfit_i, zfit_l, and_self, if_true, if_false]
      · by_cases e2 : q = k
        · rw [e2, fu_eq]
        · rw [fu_ne _ _ e2]
          exact hx q (by omega)
  obtain ⟨ps1, e1, hps⟩ := h1
  have hF : ∀ (gs' : Nat → Int32) (c : Int32) q, q < 12 → ptr A b z.1 q < 12 ∧ MR I c gs' ps1 155 q = nI (ptr A b z.1 q) := fun gs' c q hq => ⟨ptr_lt hr hq, by rw [MR_155]; exact hps q hq⟩
  -- searching
  have h2 : ∀ f a, a + f = 12 → zfind (fun p => z.1.testBit p && decide (ln (ptr A b z.1) p p 1 12 ≠ 0)) some none a f = some p → zexec (d + 3) 376 84 [some (.ref 143), some (.int (nI z.1)), some (.int r0), some (.int (nI a)), y4.map Value.int, y5.map Value.int] [] (mk n m g (MR I (nI z.2.2) gs ps1) J) = zexec (d + 3) 376 106 [some (.ref 143), some (.int (nI z.1)), some (.int r0), some (.int (nI p)), y4.map Value.int, y5.map Value.int] [] (mk n m g (MR I (nI z.2.2) gs ps1) J) := by
    intro f
    induction f with
    | zero => intro a _ h; cases h
    | succ f ih =>
      intro a ha h
      rw [zfind] at h
      have ha12 : a < 12 := by omega
      have hring : (nI (rg (ptr A b z.1) a a 0 12) = 0) = (ln (ptr A b z.1) a a 1 12 = 0) ∨ z.1.testBit a = false := by
        cases hb : z.1.testBit a
        · exact .inr rfl
        · left
          apply propext
          rcases ln_case (F := ptr A b z.1) (p := a) 12 a 0 0 with ⟨l1, l2⟩ | ⟨j, l1, l2, l3⟩
          · simp only [Nat.zero_add] at l1
            rw [l1, l2]
            exact ⟨fun _ => rfl, fun _ => rfl⟩
          · simp only [Nat.zero_add] at l2
            have lb : (rg (ptr A b z.1) a a 0 12).testBit a = true := by
              rw [l3, og]
              simp
            have lt : rg (ptr A b z.1) a a 0 12 < 4096 := Nat.lt_pow_two_of_testBit (n := 12) _ (fun i hi => by
              cases e9 : (rg (ptr A b z.1) a a 0 12).testBit i
              · rfl
              · rw [l3, Nat.zero_testBit, Bool.false_or] at e9
                have := bit_lt (N := 12) (by omega) (og_in (r := z.1) (fun q h => ptr_in h) _ _ _ hb e9)
                omega)
            constructor
            · intro h9
              rw [nI_inj (by omega) (by decide) h9, Nat.zero_testBit] at lb
              exact absurd lb (by decide)
            · intro h9
              omega
      rw [e_X12_laysRings_84]
      simp only [e_X12_laysRings_85, e_X12_laysRings_86, e_X12_laysRings_89, e_X12_laysRings_92, e_X12_laysRings_93, e_X12_laysRings_94, e_X12_laysRings_97, e_X12_laysRings_100, e_X12_laysRings_103, c_143, v_hasS (isS_nI hr) ha12, v_ringOf (hF gs (nI z.2.2)) ha12, nI_1, zclr_map, Option.bind_some, Option.isSome_some, Option.toList, List.cons_append, List.nil_append, zclr_i, zclr_r, zclr_n, zfit_i, zfit_l, and_self, if_true, if_false]
      cases hb : z.1.testBit a
      · rw [hb] at h
        simp only [Bool.false_and, Bool.false_eq_true, if_false] at h
        simp only [bI, Bool.false_eq_true, if_false, if_true]
        exact ih (a + 1) (by omega) h
      · rcases hring with hring | hring
        · rw [hb] at h
          by_cases e9 : ln (ptr A b z.1) a a 1 12 = 0
          · simp only [e9, ne_eq, not_true, decide_false, Bool.and_false, Bool.false_eq_true, if_false] at h
            simp only [bI, if_true, show ((1 : Int32) = 0) = False by decide, if_false, hring, e9, ne_eq, not_true]
            exact ih (a + 1) (by omega) h
          · simp only [e9, ne_eq, not_false_eq_true, decide_true, Bool.and_true, if_true] at h
            simp only [bI, if_true, show ((1 : Int32) = 0) = False by decide, if_false, hring, e9, ne_eq, not_false_eq_true]
            rw [Option.some.inj h]
        · rw [hring] at hb
          exact absurd hb (by decide)
  -- counting
  have hbig := big_ring hp hL hL1 hRd hR4 (ptr_lt (A := A) (b := b) hr hp) hRo
  have hcn := cnt_le R.testBit 12 0 0
  have hcn2 : cnt R.testBit 12 ≤ 12 := by unfold cnt; omega
  have h3 : zexec (d + 3) 376 106 [some (.ref 143), some (.int (nI z.1)), some (.int r0), some (.int (nI p)), y4.map Value.int, y5.map Value.int] [] (mk n m g (MR I (nI z.2.2) gs ps1) J) = zexec (d + 3) 376 139 [some (.ref 143), some (.int (nI z.1)), some (.int r0), some (.int (nI p)), some (.int (nI R)), some (.int (nI 0))] [] (mk n m g (MR I (nI (if 1 < L then z.2.2 + 1 else z.2.2)) gs ps1) J) := by
    simp only [e_X12_laysRings_106, e_X12_laysRings_107, e_X12_laysRings_108, e_X12_laysRings_111, e_X12_laysRings_113, e_X12_laysRings_114, e_X12_laysRings_115, e_X12_laysRings_118, e_X12_laysRings_120, e_X12_laysRings_123, e_X12_laysRings_124, e_X12_laysRings_127, e_X12_laysRings_128, e_X12_laysRings_131, e_X12_laysRings_132, e_X12_laysRings_133, e_X12_laysRings_136, e_X12_laysRings_137, c_143, g_143_31, p_143_31, v_ringOf (hF gs (nI z.2.2)) hp, hRd, v_sizeOf (isS_nI hR4), MR_31, MR_u31, zclr_map, Option.bind_some, Option.isSome_some, Option.toList, List.cons_append, List.nil_append, zclr_i, zclr_r, zclr_n, zfit_i, zfit_l, and_self, if_true, if_false]
    by_cases e9 : 1 < L
    · have : ¬ nI (cnt R.testBit 12) ≤ 1 := nI_ge (a := 1) (hbig.mp e9) (by omega)
      simp only [if_pos e9, if_neg this]
      rw [show nI z.2.2 + 1 = nI (z.2.2 + 1) from nI_add _ 1]
      rfl
    · have : nI (cnt R.testBit 12) ≤ 1 := nI_le (b := 1) (by have := fun h => e9 (hbig.mpr h); omega) (by decide)
      simp only [if_neg e9, if_pos this]
      rw [show nI z.2.2 + 0 = nI (z.2.2 + 0) from nI_add _ 0]
      rfl
  -- giving
  have h4 := zloopR (fun k (x : Nat → Int32) => zexec (d + 3) 376 139 [some (.ref 143), some (.int (nI z.1)), some (.int r0), some (.int (nI p)), some (.int (nI R)), some (.int (nI k))] [] (mk n m g (MR I (nI (if 1 < L then z.2.2 + 1 else z.2.2)) x ps1) J)) (fun k (_ : Unit) x => ∀ q, q < 12 → x q = if q < k ∧ R.testBit q = true then A (b + 7) (ptr A b z.1 q) else z.2.1 q) (fun _ u => u) 12 ?_ 12 0 () gs (by omega) (fun q hq => by rw [if_neg (by omega)]; exact hg q hq)
  · obtain ⟨gs', e4, e5⟩ := h4
    refine ⟨some (nI p), some (nI R), some (nI 12), gs', ps1, e1.trans ((h2 12 0 (by omega) hz).trans (h3.trans ((show _ from e4).trans ?_))), fun q hq => ?_⟩
    · have hdel : nI z.1 &&& (nI R ^^^ -1) = nI (z.1 &&& (4095 - R)) := nI_andNot hr hR4
      rw [e, e_X12_laysRings_139]
      simp only [e_X12_laysRings_141, e_X12_laysRings_143, e_X12_laysRings_184, e_X12_laysRings_185, e_X12_laysRings_187, e_X12_laysRings_188, e_X12_laysRings_189, e_X12_laysRings_190, e_X12_laysRings_191, if_pos (show (12 : Int32) ≤ nI 12 by decide), hdel, zclr_map, Option.bind_some, Option.isSome_some, Option.toList, List.cons_append, List.nil_append, zclr_i, zclr_r, zclr_n, zfit_i, zfit_l, and_self, if_true, if_false]
      rfl
    · rw [e5 q hq, e]
      simp [hq]
  · rintro k _ x hk hx
    cases hb : R.testBit k
    · refine ⟨x, ?_, fun q hq => ?_⟩
      · rw [e_X12_laysRings_139]
        simp only [e_X12_laysRings_141, e_X12_laysRings_143, e_X12_laysRings_146, e_X12_laysRings_148, e_X12_laysRings_150, e_X12_laysRings_153, e_X12_laysRings_178, e_X12_laysRings_181, if_neg (show ¬ (12 : Int32) ≤ nI k from nI_ge (b := 12) hk (by decide)), v_hasS (isS_nI hR4) hk, hb, bI, Bool.false_eq_true, nI_1, zclr_map, Option.bind_some, Option.isSome_some, Option.toList, List.cons_append, List.nil_append, zclr_i, zclr_r, zclr_n, zfit_i, zfit_l, and_self, if_true, if_false]
      · rw [hx q hq]
        by_cases e2 : q = k
        · subst e2
          simp [hb]
        · have : (q < k + 1) = (q < k) := by apply propext; omega
          simp only [this]
    · have hq := ptr_in (A := A) (b := b) (hRs k hb)
      have hqN := (hs _ hq).1
      refine ⟨fu x k (A (b + 7) (ptr A b z.1 k)), ?_, fun q hq => ?_⟩
      · rw [e_X12_laysRings_139]
        simp only [e_X12_laysRings_141, e_X12_laysRings_143, e_X12_laysRings_146, e_X12_laysRings_148, e_X12_laysRings_150, e_X12_laysRings_153, e_X12_laysRings_156, e_X12_laysRings_157, e_X12_laysRings_160, e_X12_laysRings_162, e_X12_laysRings_163, e_X12_laysRings_166, e_X12_laysRings_168, e_X12_laysRings_169, e_X12_laysRings_172, e_X12_laysRings_174, e_X12_laysRings_175, e_X12_laysRings_176, e_X12_laysRings_177, e_X12_laysRings_178, e_X12_laysRings_181, cA_6, cA_12, cA_18, cA_30, cA_42, cA_54, cA_66, cA_78, cA_90, cA_102, cA_114, cA_126, cA_138, cA_210, cA_222, lc_0, lc_1, lc_2, lc_3, lc_4, lc_5, g_143_20, q_148, nI_neg (show 30 + ptr A b z.1 k < 2 ^ 31 by omega), nI_clamp (show 30 + ptr A b z.1 k < 2 ^ 31 by omega), k_148 (show 30 + ptr A b z.1 k < 2530 by omega), l_148 (show 30 + ptr A b z.1 k < 2530 by omega), g_143_29, g_143_30, if_neg (show ¬ (12 : Int32) ≤ nI k from nI_ge (b := 12) hk (by decide)), v_hasS (isS_nI hR4) hk, hb, bI, show ((1 : Int32) = 0) = False by decide, l_155 hk, MR_155, hps k hk, (MR_R hR).bears _ hqN, nI_neg (show k < 2 ^ 31 by omega), nI_clamp (show k < 2 ^ 31 by omega), k_154 hk, q_154, MR_u154, nI_1, zclr_map, Option.bind_some, Option.isSome_some, Option.toList, List.cons_append, List.nil_append, zclr_i, zclr_r, zclr_n, zfit_i, zfit_l, and_self, if_true, if_false]
      · by_cases e2 : q = k
        · subst e2
          rw [fu_eq, if_pos ⟨by omega, hb⟩]
        · have : (q < k + 1) = (q < k) := by apply propext; omega
          rw [fu_ne _ _ e2, hx q hq]
          simp only [this]
theorem v_laysRings (hW : WT A b N S U) (hR : RT A b (I 148) N S) (d : Nat) : ∃ r gs ps, r < 4096 ∧ (∀ p, r.testBit p = r0F A b N p) ∧ zcall (d + 3) 376 [.ref 143] (mk n m g I J) = some (some (.int (nI r)), mk n m g (MR I (nI (rrn A b 12 (r, fun _ => -1, 0)).2.2) gs ps) J) ∧ ∀ q, q < 12 → gs q = (rrn A b 12 (r, fun _ => -1, 0)).2.1 q := by
  have h12 := hW.h12
  have hset : isS (sLiv A b N &&& (sBear A b (-1) N ^^^ -1)) (r0F A b N) := by
    refine isS_cast (isS_sub (isS_liv h12) (isS_bear h12)) (fun q => ?_)
    unfold r0F
    by_cases a1 : q < N <;> by_cases a2 : A (b + 6) q = -1 <;> by_cases a3 : A (b + 7) q = -1 <;> simp [a1, a2, a3]
  obtain ⟨r, hr, er, hb⟩ := hset
  have hsub : subR A b N r := fun q hq => by
    rw [hb] at hq
    unfold r0F at hq
    simp at hq
    exact ⟨hq.1, hq.2.1⟩
  -- all nothing
  have h1 := zloopR (fun k (x : Nat → Int32) => zexec (d + 3) 376 21 [some (.ref 143), some (.int (nI r)), some (.int (nI r)), some (.int (nI k)), none, none] [] (mk n m g (MR I (nI 0) x (I 155)) J)) (fun k (_ : Unit) x => ∀ q, q < k → x q = -1) (fun _ u => u) 12 ?_ 12 0 () (I 154) (by omega) (fun q hq => by omega)
  · obtain ⟨gs, e1, e2⟩ := h1
    have hst : zcall (d + 3) 376 [.ref 143] (mk n m g I J) = zexec (d + 3) 376 21 [some (.ref 143), some (.int (nI r)), some (.int (nI r)), some (.int (nI 0)), none, none] [] (mk n m g (MR I (nI 0) (I 154) (I 155)) J) := by
      have hM : zu I 143 31 0 = MR I (nI 0) (I 154) (I 155) := by
        conv => lhs; rw [← MR_id (I := I), MR_u31]
        rfl
      rw [m_X12_laysRings, ← hM]
      simp only [e_X12_laysRings_0, e_X12_laysRings_1, e_X12_laysRings_4, e_X12_laysRings_5, e_X12_laysRings_8, e_X12_laysRings_9, e_X12_laysRings_10, e_X12_laysRings_11, e_X12_laysRings_12, e_X12_laysRings_13, e_X12_laysRings_14, e_X12_laysRings_15, e_X12_laysRings_16, e_X12_laysRings_19, e_X12_laysRings_20, c_143, g_143_31, p_143_31, v_living hW hR, v_dashes hW hR, er, Option.bind_some, Option.isSome_some, Option.toList, List.cons_append, List.nil_append, zclr_i, zclr_r, zclr_n, zfit_i, zfit_l, and_self, if_true, if_false]
      rfl
    have h40 : zexec (d + 3) 376 21 [some (.ref 143), some (.int (nI r)), some (.int (nI r)), some (.int (nI 12)), none, none] [] (mk n m g (MR I (nI 0) gs (I 155)) J) = zexec (d + 3) 376 40 [some (.ref 143), some (.int (nI r)), some (.int (nI r)), some (.int (nI 12)), none, none] [] (mk n m g (MR I (nI 0) gs (I 155)) J) := by
      rw [e_X12_laysRings_21]
      simp only [e_X12_laysRings_22, e_X12_laysRings_24, if_pos (show (12 : Int32) ≤ nI 12 by decide), Option.bind_some, Option.isSome_some, Option.toList, List.cons_append, List.nil_append, zclr_i, zclr_r, zclr_n, zfit_i, zfit_l, and_self, if_true, if_false]
    have hrun : ∀ f (z : RS) (y3 y4 y5 : Option Int32) (gs ps : Nat → Int32), z.1 < 4096 → subR A b N z.1 → (∀ q, q < 12 → gs q = z.2.1 q) → cnt z.1.testBit 12 ≤ f → ∃ gs' ps', zexec (d + 3) 376 40 [some (.ref 143), some (.int (nI z.1)), some (.int (nI r)), y3.map Value.int, y4.map Value.int, y5.map Value.int] [] (mk n m g (MR I (nI z.2.2) gs ps) J) = some (some (.int (nI r)), mk n m g (MR I (nI (rrn A b f z).2.2) gs' ps') J) ∧ ∀ q, q < 12 → gs' q = (rrn A b f z).2.1 q := by
      have hend : ∀ (z : RS) (y3 y4 y5 : Option Int32) (gs ps : Nat → Int32), z.1 = 0 → zexec (d + 3) 376 40 [some (.ref 143), some (.int (nI z.1)), some (.int (nI r)), y3.map Value.int, y4.map Value.int, y5.map Value.int] [] (mk n m g (MR I (nI z.2.2) gs ps) J) = some (some (.int (nI r)), mk n m g (MR I (nI z.2.2) gs ps) J) := by
        intro z y3 y4 y5 gs ps hz
        rw [hz]
        simp only [e_X12_laysRings_40, e_X12_laysRings_41, e_X12_laysRings_194, e_X12_laysRings_195, show (nI 0 = 0) = True by decide, zclr_map, Option.bind_some, Option.isSome_some, Option.toList, List.cons_append, List.nil_append, zclr_i, zclr_r, zclr_n, zfit_i, zfit_l, and_self, if_true, if_false]
      intro f
      induction f with
      | zero =>
        intro z y3 y4 y5 gs ps hr hs hg hc
        exact ⟨gs, ps, hend z y3 y4 y5 gs ps (cnt_zero hr (Nat.le_zero.mp hc)), hg⟩
      | succ f ih =>
        intro z y3 y4 y5 gs ps hr hs hg hc
        rw [rrn]
        by_cases e : z.1 = 0
        · rw [if_pos e]
          exact ⟨gs, ps, hend z y3 y4 y5 gs ps e, hg⟩
        · rw [if_neg e]
          have hl := rs_lt (A := A) (b := b) hr e
          obtain ⟨y3', y4', y5', gs1, ps1, e3, e4⟩ := vr_round (n := n) (m := m) (g := g) (J := J) (r0 := nI r) (y3 := y3) (y4 := y4) (y5 := y5) (ps := ps) hW hR hr e hs hg d
          obtain ⟨gs', ps', e5, e6⟩ := ih (rs A b z) y3' y4' y5' gs1 ps1 hl.1 (fun q hq => hs q (hl.2.2 q hq)) e4 (by omega)
          exact ⟨gs', ps', e3.trans e5, e6⟩
    have hc12 := cnt_le r.testBit 12 0 0
    obtain ⟨gs', ps', e5, e6⟩ := hrun 12 (r, fun _ => -1, 0) (some (nI 12)) none none gs (I 155) hr hsub (fun q hq => e2 q hq) (by unfold cnt; omega)
    exact ⟨r, gs', ps', hr, hb, hst.trans ((show _ from e1).trans (h40.trans e5)), e6⟩
  · rintro k _ x hk hx
    refine ⟨fu x k (-1), ?_, fun q hq => ?_⟩
    · rw [e_X12_laysRings_21]
      simp only [e_X12_laysRings_22, e_X12_laysRings_24, e_X12_laysRings_27, e_X12_laysRings_28, e_X12_laysRings_31, e_X12_laysRings_32, e_X12_laysRings_33, e_X12_laysRings_34, e_X12_laysRings_37, g_143_29, if_neg (show ¬ (12 : Int32) ≤ nI k from nI_ge (b := 12) hk (by decide)), nI_neg (show k < 2 ^ 31 by omega), nI_clamp (show k < 2 ^ 31 by omega), k_154 hk, q_154, MR_u154, nI_1, Option.bind_some, Option.isSome_some, Option.toList, List.cons_append, List.nil_append, zclr_i, zclr_r, zclr_n, zfit_i, zfit_l, and_self, if_true, if_false]
    · by_cases e2 : q = k
      · rw [e2, fu_eq]
      · rw [fu_ne _ _ e2]
        exact hx q (by omega)
end RJ
