/-! THE REFERENCE: a year -/
section YE
variable {n m : Nat} {g : Nat → zC} {I A A' : Nat → Nat → Int32} {J : Nat → Nat → Int64} {b N S U : Nat}
theorem cnt_put (f : Nat → Bool) (p : Nat) (hf : f p = false) : ∀ k s a, zfor (fun q a => if (f q || decide (p = q)) = true then a + 1 else a) s k a = zfor (fun q a => if f q = true then a + 1 else a) s k a + (if s ≤ p ∧ p < s + k then 1 else 0)
  | 0, s, a => by
    rw [zfor, zfor, if_neg (by omega)]
    omega
  | k + 1, s, a => by
    rw [zfor, zfor, cnt_put f p hf k (s + 1)]
    by_cases e : p = s
    · subst e
      have : ∀ k s a, zfor (fun q a => if f q = true then a + 1 else a) s k (a + 1) = zfor (fun q a => if f q = true then a + 1 else a) s k a + 1 := by
        intro k
        induction k with
        | zero => intro s a; rfl
        | succ k ih =>
          intro s a
          rw [zfor, zfor]
          split
          · rw [ih]
          · rw [ih]
      rw [if_neg (show ¬ (p + 1 ≤ p ∧ p < p + 1 + k) by omega), if_pos (show p ≤ p ∧ p < p + (k + 1) by omega)]
      simp only [hf, decide_true, Bool.or_true, if_true, Bool.false_eq_true, if_false]
      rw [this]
    · have e1 : (if s + 1 ≤ p ∧ p < s + 1 + k then 1 else 0) = (if s ≤ p ∧ p < s + (k + 1) then 1 else 0) := by
        by_cases h : s + 1 ≤ p ∧ p < s + 1 + k
        · rw [if_pos h, if_pos (by omega)]
        · rw [if_neg h, if_neg (by omega)]
      have e2 : (f s || decide (p = s)) = f s := by simp [e]
      rw [e1, e2]
theorem cnt_set {f : Nat → Bool} {p : Nat} (hf : f p = false) (hp : p < 12) : cnt (fun q => f q || decide (p = q)) 12 = cnt f 12 + 1 := by
  unfold cnt
  rw [cnt_put f p hf 12 0 0, if_pos (by omega)]
theorem and1_case (x : Int32) : x &&& 1 = 0 ∨ x &&& 1 = 1 := by
  have h : (x &&& 1).toBitVec = BitVec.ofNat 32 (x.toBitVec.toNat % 2) := by
    apply BitVec.eq_of_toNat_eq
    rw [Int32.toBitVec_and, BitVec.toNat_and]
    show x.toBitVec.toNat &&& 1 = _
    rw [Nat.and_one_is_mod]
    simp only [BitVec.toNat_ofNat]
    omega
  rcases Nat.mod_two_eq_zero_or_one x.toBitVec.toNat with e | e <;> rw [e] at h
  · exact Or.inl (Int32.toBitVec_inj.mp h)
  · exact Or.inr (Int32.toBitVec_inj.mp h)
theorem yDie_W {p : Nat} {x : Int32 × (Nat → Nat → Int32)} (h : WT x.2 b N S U) : WT (yDie b p x).2 b N S U := by
  unfold yDie
  split
  · exact h.bury
  · exact h
theorem yLapse_W {p : Nat} (h : WT A b N S U) : WT (yLapse b p A) b N S U := by
  unfold yLapse
  split
  · exact h.bear (Or.inl rfl)
  · exact h
theorem WT.dead1 (hW : WT A b N S U) (hU : U + 1 ≤ 9999) : WT (yDead A b N).2 b N S (U + 1) := zfor_inv (f := yDie b) (P := fun _ x => WT x.2 b N S (U + 1)) (fun _ _ h => yDie_W h) N 0 _ (hW.year hU)
theorem WT.yearW (hW : WT A b N S U) (hU : U + 1 ≤ 9999) : WT (tYear A b N) b N S (U + 1) := (zfor_inv (f := yLapse b) (P := fun _ x => WT x b N S (U + 1)) (fun _ _ h => yLapse_W h) N 0 _ (hW.dead1 hU)).settle
theorem v_goesYear (hW : WT A b N S U) (hU : U + 1 ≤ 9999) (hR : RT A b (I 148) N S) (d : Nat) : ∃ c' f, zcall (d + 4) 332 [.ref 143] (mk n m g I J) = some (some (.int (nI (cnt f 12))), mk n m g (zr I 148 c') J) ∧ isS (yDead A b N).1 f ∧ RT (tYear A b N) b c' N S ∧ ∀ j, 234 ≤ j → c' j = I 148 j := by
  have h12 := hW.h12
  have r0 := hR.year (x := A b 0 + 1) (p := 0) h12 hW.h6 (by omega)
  have hst : zcall (d + 4) 332 [.ref 143] (mk n m g I J) = zexec (d + 4) 332 14 [some (.ref 143), some (.int (nI 0)), some (.int (nI 0))] [] (mk n m g (zr I 148 (fu (I 148) 2 (A b 0 + 1))) J) := by
    rw [m_X12_goesYear]
    simp only [e_X12_goesYear_0, e_X12_goesYear_1, e_X12_goesYear_4, e_X12_goesYear_5, e_X12_goesYear_6, e_X12_goesYear_7, e_X12_goesYear_8, e_X12_goesYear_9, e_X12_goesYear_10, e_X12_goesYear_11, e_X12_goesYear_12, e_X12_goesYear_13, cA_6, cA_12, cA_18, cA_30, cA_42, cA_54, cA_66, cA_78, cA_90, cA_102, cA_114, cA_126, cA_138, cA_210, cA_222, lc_0, lc_1, lc_2, lc_3, lc_4, lc_5, g_143_20, q_148, ltc_2, clc_2, k_148 (show 2 < 2530 by decide), hR.n2, Option.bind_some, Option.isSome_some, Option.toList, List.cons_append, List.nil_append, zclr_i, zclr_r, zclr_n, zfit_i, zfit_l, and_self, if_true, if_false]
    rw [zu_fu]
    rfl
  have l1 := zloopR (fun p (a : Nat × (Nat → Int32)) => zexec (d + 4) 332 14 [some (.ref 143), some (.int (nI a.1)), some (.int (nI p))] [] (mk n m g (zr I 148 a.2) J)) (fun p (x : Int32 × (Nat → Nat → Int32)) a => WT x.2 b N S (U + 1) ∧ RT x.2 b a.2 N S ∧ (∃ f, isS x.1 f ∧ a.1 = cnt f 12 ∧ ∀ q, p ≤ q → f q = false) ∧ ∀ j, 234 ≤ j → a.2 j = I 148 j) (yDie b) N ?_ N 0 (0, zu A b 0 (A b 0 + 1)) (0, fu (I 148) 2 (A b 0 + 1)) (by omega) ⟨hW.year hU, r0, ⟨fun _ => false, isS_0, rfl, fun _ _ => rfl⟩, fun j hj => fu_ne _ _ (by omega)⟩
  · obtain ⟨⟨k1, c1⟩, e1, w1, r1, ⟨f1, s1, k1e, -⟩, fr1⟩ := l1
    dsimp only at e1 w1 r1 k1e fr1
    have hmid : zexec (d + 4) 332 14 [some (.ref 143), some (.int (nI k1)), some (.int (nI N))] [] (mk n m g (zr I 148 c1) J) = zexec (d + 4) 332 78 [some (.ref 143), some (.int (nI k1)), some (.int (nI 0))] [] (mk n m g (zr I 148 c1) J) := by
      rw [e_X12_goesYear_14]
      simp only [e_X12_goesYear_15, e_X12_goesYear_16, e_X12_goesYear_19, e_X12_goesYear_20, e_X12_goesYear_21, e_X12_goesYear_24, e_X12_goesYear_25, e_X12_goesYear_26, e_X12_goesYear_29, e_X12_goesYear_32, e_X12_goesYear_33, e_X12_goesYear_36, e_X12_goesYear_38, e_X12_goesYear_39, e_X12_goesYear_40, e_X12_goesYear_41, e_X12_goesYear_42, e_X12_goesYear_45, e_X12_goesYear_46, e_X12_goesYear_47, e_X12_goesYear_50, e_X12_goesYear_51, e_X12_goesYear_54, e_X12_goesYear_55, e_X12_goesYear_56, e_X12_goesYear_59, e_X12_goesYear_62, e_X12_goesYear_63, e_X12_goesYear_64, e_X12_goesYear_67, e_X12_goesYear_70, e_X12_goesYear_73, e_X12_goesYear_76, e_X12_goesYear_77, cA_6, cA_12, cA_18, cA_30, cA_42, cA_54, cA_66, cA_78, cA_90, cA_102, cA_114, cA_126, cA_138, cA_210, cA_222, lc_0, lc_1, lc_2, lc_3, lc_4, lc_5, g_143_20, q_148, zr_same, r1.n1, w1.hN, if_pos (nI_le (Nat.le_refl N) (by omega : N < 2 ^ 31)), Option.bind_some, Option.isSome_some, Option.toList, List.cons_append, List.nil_append, zclr_i, zclr_r, zclr_n, zfit_i, zfit_l, and_self, if_true, if_false]
      rfl
    have l2 := zloopR (fun p (c : Nat → Int32) => zexec (d + 4) 332 78 [some (.ref 143), some (.int (nI k1)), some (.int (nI p))] [] (mk n m g (zr I 148 c) J)) (fun p (x : Nat → Nat → Int32) c => WT x b N S (U + 1) ∧ RT x b c N S ∧ ∀ j, 234 ≤ j → c j = I 148 j) (yLapse b) N ?_ N 0 (yDead A b N).2 c1 (by omega) ⟨w1, r1, fr1⟩
    · obtain ⟨c2, e2, w2, r2, fr2⟩ := l2
      obtain ⟨c3, e3, r3, fr3⟩ := v_settles (n := n) (m := m) (g := g) (J := J) (I := zr I 148 c2) w2 (by rw [zr_same]; exact r2) d
      rw [zr_zr] at e3
      rw [zr_same] at fr3
      refine ⟨c3, f1, ?_, s1, r3, fun j hj => by rw [fr3 j hj, fr2 j hj]⟩
      rw [hst]
      refine e1.trans (hmid.trans (e2.trans ?_))
      rw [e_X12_goesYear_78]
      simp only [e_X12_goesYear_79, e_X12_goesYear_80, e_X12_goesYear_83, e_X12_goesYear_84, e_X12_goesYear_85, e_X12_goesYear_88, e_X12_goesYear_89, e_X12_goesYear_90, e_X12_goesYear_93, e_X12_goesYear_96, e_X12_goesYear_97, e_X12_goesYear_100, e_X12_goesYear_102, e_X12_goesYear_103, e_X12_goesYear_104, e_X12_goesYear_105, e_X12_goesYear_108, e_X12_goesYear_109, e_X12_goesYear_112, e_X12_goesYear_113, e_X12_goesYear_114, e_X12_goesYear_115, e_X12_goesYear_118, e_X12_goesYear_120, e_X12_goesYear_121, e_X12_goesYear_122, e_X12_goesYear_123, e_X12_goesYear_124, e_X12_goesYear_126, e_X12_goesYear_129, e_X12_goesYear_130, e_X12_goesYear_133, e_X12_goesYear_135, e_X12_goesYear_136, e_X12_goesYear_137, e_X12_goesYear_138, e_X12_goesYear_139, e_X12_goesYear_142, e_X12_goesYear_145, e_X12_goesYear_146, e_X12_goesYear_149, e_X12_goesYear_150, cA_6, cA_12, cA_18, cA_30, cA_42, cA_54, cA_66, cA_78, cA_90, cA_102, cA_114, cA_126, cA_138, cA_210, cA_222, lc_0, lc_1, lc_2, lc_3, lc_4, lc_5, g_143_20, q_148, c_143, zr_same, r2.n1, w2.hN, if_pos (nI_le (Nat.le_refl N) (by omega : N < 2 ^ 31)), e3, Option.bind_some, Option.isSome_some, Option.toList, List.cons_append, List.nil_append, zclr_i, zclr_r, zclr_n, zfit_i, zfit_l, and_self, if_true, if_false]
      rw [k1e]
    · rintro p x c hp ⟨w, r, fr⟩
      have hRx : RT x b (zr I 148 c 148) N S := by rw [zr_same]; exact r
      have hm0 := m0_p (w.away p hp) w.hU
      have hm1 : (m0 (x (b + 11) p) ≤ 0) = (x (b + 11) p = -1) := by rw [← Int32.not_lt, hm0, Classical.not_not]
      have hdead := w.dead p hp
      have hgo : zexec (d + 4) 332 78 [some (.ref 143), some (.int (nI k1)), some (.int (nI p))] [] (mk n m g (zr I 148 c) J) = zexec (d + 4) 332 78 [some (.ref 143), some (.int (nI k1)), some (.int (nI (p + 1)))] [] (mk n m g (zr I 148 (if x (b + 11) p ≠ -1 ∧ 7 ≤ x b 0 - x (b + 11) p then fu c (30 + p) (-1) else c)) J) := by
        rw [e_X12_goesYear_78]
        simp only [e_X12_goesYear_79, e_X12_goesYear_80, e_X12_goesYear_83, e_X12_goesYear_84, e_X12_goesYear_85, e_X12_goesYear_88, e_X12_goesYear_89, e_X12_goesYear_90, e_X12_goesYear_93, e_X12_goesYear_96, e_X12_goesYear_97, e_X12_goesYear_100, e_X12_goesYear_102, e_X12_goesYear_103, e_X12_goesYear_104, e_X12_goesYear_105, e_X12_goesYear_108, e_X12_goesYear_109, e_X12_goesYear_112, e_X12_goesYear_113, e_X12_goesYear_114, e_X12_goesYear_115, e_X12_goesYear_118, e_X12_goesYear_120, e_X12_goesYear_121, e_X12_goesYear_122, e_X12_goesYear_123, e_X12_goesYear_124, e_X12_goesYear_126, e_X12_goesYear_129, e_X12_goesYear_130, e_X12_goesYear_133, e_X12_goesYear_135, e_X12_goesYear_136, e_X12_goesYear_137, e_X12_goesYear_138, e_X12_goesYear_139, e_X12_goesYear_142, e_X12_goesYear_145, e_X12_goesYear_146, e_X12_goesYear_149, e_X12_goesYear_150, cA_6, cA_12, cA_18, cA_30, cA_42, cA_54, cA_66, cA_78, cA_90, cA_102, cA_114, cA_126, cA_138, cA_210, cA_222, lc_0, lc_1, lc_2, lc_3, lc_4, lc_5, g_143_20, q_148, nI_neg (show 114 + p < 2 ^ 31 by omega), nI_clamp (show 114 + p < 2 ^ 31 by omega), k_148 (show 114 + p < 2530 by omega), l_148 (show 114 + p < 2530 by omega), nI_neg (show 30 + p < 2 ^ 31 by omega), nI_clamp (show 30 + p < 2 ^ 31 by omega), k_148 (show 30 + p < 2530 by omega), l_148 (show 30 + p < 2530 by omega), c_143, zr_same, r.n1, r.n2, w.hN, r.away p hp, v_lives w hRx hp, if_neg (nI_ge hp (by omega : N < 2 ^ 31)), hm0, hm1, nI_1, zu_zr, Option.bind_some, Option.isSome_some, Option.toList, List.cons_append, List.nil_append, zclr_i, zclr_r, zclr_n, zfit_i, zfit_l, and_self, if_true, if_false]
        by_cases h1 : x (b + 6) p = -1
        · by_cases h2 : x (b + 11) p = -1
          · simp [h1, h2, bI]
          · by_cases h3 : 7 ≤ x b 0 - x (b + 11) p
            · have h4 : ¬ x b 0 - x (b + 11) p < 7 := Int32.not_lt.mpr h3
              simp [h1, h2, bI, m0, h3, h4]
            · have h4 : x b 0 - x (b + 11) p < 7 := Int32.not_le.mp h3
              simp [h1, h2, bI, m0, h3, h4]
        · have h2 := hdead h1
          simp [h1, h2, bI]
      refine ⟨_, hgo, yLapse_W w, ?_, ?_⟩
      · unfold yLapse
        by_cases h : x (b + 11) p ≠ -1 ∧ 7 ≤ x b 0 - x (b + 11) p
        · rw [if_pos h, if_pos h]
          exact r.set7 h12 w.h6 (by omega)
        · rw [if_neg h, if_neg h]
          exact r
      · intro j hj
        split
        · rw [fu_ne _ _ (by omega), fr j hj]
        · exact fr j hj
  · rintro p ⟨s, x⟩ ⟨k, c⟩ hp ⟨w, r, ⟨f, sf, kf, ff⟩, fr⟩
    dsimp only at w r sf kf fr ⊢
    have hRx : RT x b (zr I 148 c 148) N S := by rw [zr_same]; exact r
    obtain ⟨c1, e1, r1, fr1⟩ := v_dies (n := n) (m := m) (g := g) (J := J) (I := zr I 148 c) w hRx hp (d + 2)
    rw [zr_zr] at e1
    rw [zr_same] at fr1
    have hmis := r.miser p hp
    by_cases h1 : x (b + 6) p = -1 ∧ x b 5 >>> (nI p &&& 31) &&& 1 = 0 ∧ x b 2 ≤ x b 0 - x (b + 5) p
    · refine ⟨(k + 1, c1), ?_, ?_, ?_, ?_, ?_⟩
      · dsimp only
        obtain ⟨g1, g2, g3⟩ := h1
        rw [e_X12_goesYear_14]
        simp only [e_X12_goesYear_15, e_X12_goesYear_16, e_X12_goesYear_19, e_X12_goesYear_20, e_X12_goesYear_21, e_X12_goesYear_24, e_X12_goesYear_25, e_X12_goesYear_26, e_X12_goesYear_29, e_X12_goesYear_32, e_X12_goesYear_33, e_X12_goesYear_36, e_X12_goesYear_38, e_X12_goesYear_39, e_X12_goesYear_40, e_X12_goesYear_41, e_X12_goesYear_42, e_X12_goesYear_45, e_X12_goesYear_46, e_X12_goesYear_47, e_X12_goesYear_50, e_X12_goesYear_51, e_X12_goesYear_54, e_X12_goesYear_55, e_X12_goesYear_56, e_X12_goesYear_59, e_X12_goesYear_62, e_X12_goesYear_63, e_X12_goesYear_64, e_X12_goesYear_67, e_X12_goesYear_70, e_X12_goesYear_73, e_X12_goesYear_76, e_X12_goesYear_77, cA_6, cA_12, cA_18, cA_30, cA_42, cA_54, cA_66, cA_78, cA_90, cA_102, cA_114, cA_126, cA_138, cA_210, cA_222, lc_0, lc_1, lc_2, lc_3, lc_4, lc_5, g_143_20, q_148, nI_neg (show 54 + p < 2 ^ 31 by omega), nI_clamp (show 54 + p < 2 ^ 31 by omega), k_148 (show 54 + p < 2530 by omega), l_148 (show 54 + p < 2530 by omega), c_143, zr_same, r.n1, r.n4, w.hN, hmis, v_lives w hRx hp, v_ageOf w hRx hp, if_neg (nI_ge hp (by omega : N < 2 ^ 31)), g1, g2, g3, decide_true, bI, e1, nI_1, Option.bind_some, Option.isSome_some, Option.toList, List.cons_append, List.nil_append, zclr_i, zclr_r, zclr_n, zfit_i, zfit_l, and_self, if_true, if_false]
        simp
      · exact yDie_W (x := (s, x)) w
      · unfold yDie
        rw [if_pos h1]
        exact r1
      · refine ⟨fun q => f q || decide (p = q), ?_, ?_, ?_⟩
        · unfold yDie
          rw [if_pos h1]
          exact isS_or sf (isS_bt (by omega))
        · rw [cnt_set (ff p (Nat.le_refl p)) (by omega), ← kf]
        · intro q hq
          have h9 : ¬ p = q := by omega
          simp [ff q (by omega), h9]
      · intro j hj
        show c1 j = I 148 j
        rw [fr1 j hj, fr j hj]
    · refine ⟨(k, c), ?_, ?_, ?_, ?_, fr⟩
      · dsimp only
        rw [e_X12_goesYear_14]
        simp only [e_X12_goesYear_15, e_X12_goesYear_16, e_X12_goesYear_19, e_X12_goesYear_20, e_X12_goesYear_21, e_X12_goesYear_24, e_X12_goesYear_25, e_X12_goesYear_26, e_X12_goesYear_29, e_X12_goesYear_32, e_X12_goesYear_33, e_X12_goesYear_36, e_X12_goesYear_38, e_X12_goesYear_39, e_X12_goesYear_40, e_X12_goesYear_41, e_X12_goesYear_42, e_X12_goesYear_45, e_X12_goesYear_46, e_X12_goesYear_47, e_X12_goesYear_50, e_X12_goesYear_51, e_X12_goesYear_54, e_X12_goesYear_55, e_X12_goesYear_56, e_X12_goesYear_59, e_X12_goesYear_62, e_X12_goesYear_63, e_X12_goesYear_64, e_X12_goesYear_67, e_X12_goesYear_70, e_X12_goesYear_73, e_X12_goesYear_76, e_X12_goesYear_77, cA_6, cA_12, cA_18, cA_30, cA_42, cA_54, cA_66, cA_78, cA_90, cA_102, cA_114, cA_126, cA_138, cA_210, cA_222, lc_0, lc_1, lc_2, lc_3, lc_4, lc_5, g_143_20, q_148, nI_neg (show 54 + p < 2 ^ 31 by omega), nI_clamp (show 54 + p < 2 ^ 31 by omega), k_148 (show 54 + p < 2530 by omega), l_148 (show 54 + p < 2530 by omega), c_143, zr_same, r.n1, r.n4, w.hN, hmis, v_lives w hRx hp, v_ageOf w hRx hp, if_neg (nI_ge hp (by omega : N < 2 ^ 31)), nI_1, Option.bind_some, Option.isSome_some, Option.toList, List.cons_append, List.nil_append, zclr_i, zclr_r, zclr_n, zfit_i, zfit_l, and_self, if_true, if_false]
        by_cases g1 : x (b + 6) p = -1
        · rcases and1_case (x b 5 >>> (nI p &&& 31)) with g2 | g2
          · have g3 : ¬ x b 2 ≤ x b 0 - x (b + 5) p := fun h => h1 ⟨g1, g2, h⟩
            simp [g1, g2, g3, bI]
          · simp [g1, g2, bI]
        · simp [g1, bI]
      · exact yDie_W (x := (s, x)) w
      · unfold yDie
        rw [if_neg h1]
        exact r
      · refine ⟨f, ?_, kf, fun q hq => ff q (by omega)⟩
        unfold yDie
        rw [if_neg h1]
        exact sf
end YE
