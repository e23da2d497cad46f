/-! LIVES: to die, to be born, years, any one -/
section LG
variable {n m : Nat} {g : Nat → zC} {I X X' XA Y Y' A B : Nat → Nat → Int32} {J JY : Nat → Nat → Int64} {N N' S U l t b w : Nat} {c0 c' : Nat → Int32}
theorem LR.settleZ {i : Nat} {v : Int32} (hl : isLife l) (ht : isTown t) (hB : WT B t N S U) (h : LR c0 l t N S (zu (tSettle B t N) l i v) Y) : LR c0 l t N S (tSettle (zu B l i v) t N) Y := by
  obtain ⟨lo, lo1⟩ := lif_out hl ht
  refine h.cong ?_ (fun k _ => by rw [settle_l lo, zu_row, zu_row, settle_l lo])
  have h1 : RT (tSettle B t N) t (Y 148) N S := h.1.far (fun i hi => (zu_far _ _ _ (life_town hl ht hi).1).symm)
  exact h1.settleF hB (fun i hi => zu_far _ _ _ (life_town hl ht hi).1)
theorem v_isDying {p : Nat} (hW : WT A b N S U) (hR : RT A b (I 148) N S) (hp : p < N) (ha : A (b + 6) p = -1) (d : Nat) : ∃ c', zcall (d + 4) 396 [.ref 143, .int (nI p)] (mk n m g I J) = some (some (.int 1), mk n m g (zu (zr I 148 c') 143 41 (I 143 41 + 1)) J) ∧ RT (tSettle (tBury A b (qN A b) p) b N) b c' N S ∧ ∀ j, 234 ≤ j → c' j = I 148 j := by
  have h12 := hW.h12
  obtain ⟨c1, e1, r1, f1⟩ := v_dies (n := n) (m := m) (g := g) (J := J) hW hR hp (d + 2)
  obtain ⟨c2, e2, r2, f2⟩ := v_settles (n := n) (m := m) (g := g) (J := J) (I := zr I 148 c1) (hW.bury (p := p)) (by rw [zr_same]; exact r1) d
  rw [zr_zr] at e2
  rw [zr_same] at f2
  have h41 : zr I 148 c2 143 41 = I 143 41 := by rw [zr_far _ _ (by decide)]
  refine ⟨c2, ?_, r2, fun j hj => by rw [f2 j hj, f1 j hj]⟩
  rw [m_X12_isDying]
  simp only [e_X12_isDying_0, e_X12_isDying_1, e_X12_isDying_4, e_X12_isDying_5, e_X12_isDying_6, e_X12_isDying_9, e_X12_isDying_12, e_X12_isDying_13, e_X12_isDying_14, e_X12_isDying_15, e_X12_isDying_16, e_X12_isDying_19, e_X12_isDying_20, e_X12_isDying_23, e_X12_isDying_24, e_X12_isDying_25, e_X12_isDying_28, e_X12_isDying_29, e_X12_isDying_30, e_X12_isDying_33, e_X12_isDying_34, c_143, nI_neg (show p < 2 ^ 31 by omega), v_lives hW hR hp, ha, decide_true, bI, show ((1 : Int32) = 0) = False by decide, ne_eq, not_false_eq_true, e1, e2, g_143_41, p_143_41, h41, zfit_b1, Option.bind_some, Option.isSome_some, Option.toList, List.cons_append, List.nil_append, zclr_i, zclr_r, zclr_n, zfit_i, zfit_l, and_self, if_true, if_false]
theorem v_isDying_no {p : Nat} (hW : WT A b N S U) (hR : RT A b (I 148) N S) (hp : p < N) (ha : A (b + 6) p ≠ -1) (d : Nat) : zcall (d + 4) 396 [.ref 143, .int (nI p)] (mk n m g I J) = some (some (.int 0), mk n m g I J) := by
  have h12 := hW.h12
  rw [m_X12_isDying]
  simp only [e_X12_isDying_0, e_X12_isDying_1, e_X12_isDying_4, e_X12_isDying_5, e_X12_isDying_6, e_X12_isDying_9, e_X12_isDying_12, e_X12_isDying_13, e_X12_isDying_14, e_X12_isDying_15, e_X12_isDying_16, e_X12_isDying_19, e_X12_isDying_20, e_X12_isDying_23, e_X12_isDying_24, e_X12_isDying_25, e_X12_isDying_28, e_X12_isDying_29, e_X12_isDying_30, e_X12_isDying_33, e_X12_isDying_34, c_143, nI_neg (show p < 2 ^ 31 by omega), v_lives hW hR hp, ha, decide_false, bI, Bool.false_eq_true, ne_eq, not_true, zfit_b0, Option.bind_some, Option.isSome_some, Option.toList, List.cons_append, List.nil_append, zclr_i, zclr_r, zclr_n, zfit_i, zfit_l, and_self, if_true, if_false]
theorem v_isDying_none (d : Nat) : zcall (d + 4) 396 [.ref 143, .int (-1)] (mk n m g I J) = some (some (.int 0), mk n m g I J) := by
  rw [m_X12_isDying]
  simp only [e_X12_isDying_0, e_X12_isDying_1, e_X12_isDying_4, e_X12_isDying_5, e_X12_isDying_6, e_X12_isDying_9, e_X12_isDying_12, e_X12_isDying_13, e_X12_isDying_14, e_X12_isDying_15, e_X12_isDying_16, e_X12_isDying_19, e_X12_isDying_20, e_X12_isDying_23, e_X12_isDying_24, e_X12_isDying_25, e_X12_isDying_28, e_X12_isDying_29, e_X12_isDying_30, e_X12_isDying_33, e_X12_isDying_34, show ((-1 : Int32) < 0) = True by decide, zfit_b0, Option.bind_some, Option.isSome_some, Option.toList, List.cons_append, List.nil_append, zclr_i, zclr_r, zclr_n, zfit_i, zfit_l, and_self, if_true, if_false]
theorem al_die {p : Nat} {y : Int32} (hl : isLife l) (ht : isTown t) (hs : ∃ sd, sd < 65536 ∧ X l 7 = nI sd) (hW : WT X t N S 2999) (hp : p < N) (hw : 234 ≤ w ∧ w < 520) (k0 : c0 w = 1) (k1 : c0 (w + 1) = nI p) : ActOk n m g c0 l t N S 15 (nI p) y w X := by
  have h12 := hW.h12
  obtain ⟨lo, lo1⟩ := lif_out hl ht
  by_cases ha : X (t + 6) p = -1
  · have ho : ∀ a, (∀ i, i < 17 → a ≠ t + i) → tBury X t (qN X t) p a = X a := fun a h => tBury_far (h 6 (by decide)) (h 9 (by decide)) (h 11 (by decide)) (h 14 (by decide)) (h 15 (by decide)) (h 16 (by decide))
    refine ⟨true, lBury l t p X, N, Nat.le_refl N, fun d J => ?_, (hW.bury (p := p)).far (fun i hi => zu_far _ _ _ (life_town hl ht hi).1), fun a h1 h2 h3 => ?_, ?_, fun k hk => ?_, ?_, fun D Y JY h => ?_⟩
    · rw [li_act_die hl ht h12 hW.yWell hp, jb_id, if_pos ha]
      simp [ha, bI]
    · rw [lBury, zu_far _ _ _ h2, ho a h1]
    · rw [lBury, zu_far _ _ _ (by omega), ho _ lo1]
    · rw [lBury, zu_row, if_neg (by omega), ho l lo]
    · rw [lBury, zu_row, if_neg (by omega), ho l lo]
      exact hs
    · obtain ⟨c1, e1, r1, f1⟩ := v_isDying (n := n) (m := m) (g := g) (J := JY) hW h.1 hp ha (D + 3)
      refine ⟨zu (zr Y 148 c1) 143 41 (Y 143 41 + 1), ?_, ?_, by rw [zu_row, if_neg (by decide), zr_far _ _ (by decide)], (YF.rfl'.wz).wr (by decide) (by decide)⟩
      · rw [m_X12_does, jy_id]
        simp only [e_X12_does_0, e_X12_does_1, e_X12_does_4, e_X12_does_5, e_X12_does_6, e_X12_does_7, e_X12_does_8, e_X12_does_11, e_X12_does_12, e_X12_does_13, e_X12_does_14, e_X12_does_15, e_X12_does_16, e_X12_does_17, e_X12_does_20, e_X12_does_21, e_X12_does_22, e_X12_does_23, e_X12_does_24, e_X12_does_26, e_X12_does_27, e_X12_does_36, e_X12_does_37, e_X12_does_38, e_X12_does_41, e_X12_does_42, e_X12_does_43, e_X12_does_46, cA_6, cA_12, cA_18, cA_30, cA_42, cA_54, cA_66, cA_78, cA_90, cA_102, cA_114, cA_126, cA_138, cA_210, cA_222, lc_0, lc_1, lc_2, lc_3, lc_4, lc_5, g_143_20, q_148, nI_neg (show w < 2 ^ 31 by omega), nI_clamp (show w < 2 ^ 31 by omega), k_148 (show w < 2530 by omega), l_148 (show w < 2530 by omega), nI_neg (show w + 1 < 2 ^ 31 by omega), nI_clamp (show w + 1 < 2 ^ 31 by omega), k_148 (show w + 1 < 2530 by omega), l_148 (show w + 1 < 2530 by omega), nI_neg (show w + 2 < 2 ^ 31 by omega), nI_clamp (show w + 2 < 2 ^ 31 by omega), k_148 (show w + 2 < 2530 by omega), l_148 (show w + 2 < 2530 by omega), c_143, nI_1, nI_p2, h.rd (show 234 ≤ w by omega), h.rd (show 234 ≤ w + 1 by omega), h.rd (show 234 ≤ w + 2 by omega), k0, k1, show ((1 : Int32) = 0) = False by decide, ne_eq, not_false_eq_true, not_true, e1, zfit_b1, bI, Option.bind_some, Option.isSome_some, Option.toList, List.cons_append, List.nil_append, zclr_i, zclr_r, zclr_n, zfit_i, zfit_l, and_self, if_true, if_false]
      · rw [if_pos rfl]
        have e4 : tBury X t (qN X t) p l 4 + 1 = Y 143 41 + 1 := by rw [ho l lo, h.2.2.2.2.2.2.2.1]
        rw [lBury, e4]
        refine LR.settleZ hl ht (hW.bury (p := p)) ?_
        exact (h.row r1 f1 (fun k _ => by rw [settle_l lo, ho l lo])).set hl ht (by omega) _
  · refine act_no hW hs (fun d J => by rw [li_act_die hl ht h12 hW.yWell hp, if_neg ha]; simp [ha, bI]) (fun D Y JY h => ?_)
    rw [m_X12_does]
    simp only [e_X12_does_0, e_X12_does_1, e_X12_does_4, e_X12_does_5, e_X12_does_6, e_X12_does_7, e_X12_does_8, e_X12_does_11, e_X12_does_12, e_X12_does_13, e_X12_does_14, e_X12_does_15, e_X12_does_16, e_X12_does_17, e_X12_does_20, e_X12_does_21, e_X12_does_22, e_X12_does_23, e_X12_does_24, e_X12_does_26, e_X12_does_27, e_X12_does_36, e_X12_does_37, e_X12_does_38, e_X12_does_41, e_X12_does_42, e_X12_does_43, e_X12_does_46, cA_6, cA_12, cA_18, cA_30, cA_42, cA_54, cA_66, cA_78, cA_90, cA_102, cA_114, cA_126, cA_138, cA_210, cA_222, lc_0, lc_1, lc_2, lc_3, lc_4, lc_5, g_143_20, q_148, nI_neg (show w < 2 ^ 31 by omega), nI_clamp (show w < 2 ^ 31 by omega), k_148 (show w < 2530 by omega), l_148 (show w < 2530 by omega), nI_neg (show w + 1 < 2 ^ 31 by omega), nI_clamp (show w + 1 < 2 ^ 31 by omega), k_148 (show w + 1 < 2530 by omega), l_148 (show w + 1 < 2530 by omega), nI_neg (show w + 2 < 2 ^ 31 by omega), nI_clamp (show w + 2 < 2 ^ 31 by omega), k_148 (show w + 2 < 2530 by omega), l_148 (show w + 2 < 2530 by omega), c_143, nI_1, nI_p2, h.rd (show 234 ≤ w by omega), h.rd (show 234 ≤ w + 1 by omega), h.rd (show 234 ≤ w + 2 by omega), k0, k1, show ((1 : Int32) = 0) = False by decide, ne_eq, not_false_eq_true, not_true, v_isDying_no hW h.1 hp ha (D + 3), zfit_b0, Option.bind_some, Option.isSome_some, Option.toList, List.cons_append, List.nil_append, zclr_i, zclr_r, zclr_n, zfit_i, zfit_l, and_self, if_true, if_false]
theorem al_birth {p q : Nat} (hl : isLife l) (ht : isTown t) (hs : ∃ sd, sd < 65536 ∧ X l 7 = nI sd) (hW : WT X t N S 2999) (hp : p < N) (hq : q < N) (hw : 234 ≤ w ∧ w < 520) (k0 : c0 w = 2) (k1 : c0 (w + 1) = nI p) (k2 : c0 (w + 2) = nI q) : ActOk n m g c0 l t N S 16 (nI p) (nI q) w X := by
  have h12 := hW.h12
  obtain ⟨lo, lo1⟩ := lif_out hl ht
  by_cases hb : tBear X t p q = true
  · by_cases hN : N < 12
    · have hB : lBorn X t N p q = true := by simp [lBorn, hb, hN]
      have ho : ∀ a, (∀ i, i < 17 → a ≠ t + i) → tBorn t N p q X a = X a := fun a h => tNew_far h
      have wB := hW.bornT hN hp hq
      have ne12 : ¬ nI N = 12 := fun e => by
        have e2 : N = 12 := nI_inj (by omega) (by decide) e
        omega
      refine ⟨true, lBear l t N p q X, N + 1, by omega, fun d J => ?_, wB.far (fun i hi => zu_far _ _ _ (life_town hl ht hi).1), fun a h1 h2 h3 => ?_, ?_, fun k hk => ?_, ?_, fun D Y JY h => ?_⟩
      · rw [li_act_birth hl ht hW.hN h12 (by omega) (by omega), hB, if_pos rfl, if_pos rfl, jb_one]
      · rw [lBear, zu_far _ _ _ h2, ho a h1]
      · rw [lBear, zu_far _ _ _ (by omega), ho _ lo1]
      · rw [lBear, zu_row, if_neg (by omega), ho l lo]
      · rw [lBear, zu_row, if_neg (by omega), ho l lo]
        exact hs
      · obtain ⟨c1, e1, r1, f1⟩ := v_births (n := n) (m := m) (g := g) (J := JY) hW h.1 hN hp hq (D + 2)
        have h40 : zr Y 148 c1 143 40 = Y 143 40 := by rw [zr_far _ _ (by decide)]
        have hg : zcall (D + 7) 398 [.ref 143, .int (nI p), .int (nI q)] (mk n m g Y JY) = some (some (.int 1), mk n m g (zu (zr Y 148 c1) 143 40 (Y 143 40 + 1)) (zu JY 151 (6 + N) 0)) := by
          rw [m_X12_isGiven]
          simp only [e_X12_isGiven_0, e_X12_isGiven_1, e_X12_isGiven_2, e_X12_isGiven_3, e_X12_isGiven_6, e_X12_isGiven_9, e_X12_isGiven_10, e_X12_isGiven_13, e_X12_isGiven_14, e_X12_isGiven_15, e_X12_isGiven_17, e_X12_isGiven_20, e_X12_isGiven_21, e_X12_isGiven_22, e_X12_isGiven_23, e_X12_isGiven_24, e_X12_isGiven_25, e_X12_isGiven_28, e_X12_isGiven_29, e_X12_isGiven_30, e_X12_isGiven_31, e_X12_isGiven_34, e_X12_isGiven_35, e_X12_isGiven_36, e_X12_isGiven_39, e_X12_isGiven_40, c_143, cA_6, cA_12, cA_18, cA_30, cA_42, cA_54, cA_66, cA_78, cA_90, cA_102, cA_114, cA_126, cA_138, cA_210, cA_222, lc_0, lc_1, lc_2, lc_3, lc_4, lc_5, g_143_20, q_148, v_areParents hW h.1 hp hq (D + 3), hb, bI, show ((1 : Int32) = 0) = False by decide, hW.c1 h.1, ne12, ne_eq, not_false_eq_true, e1, g_143_40, p_143_40, h40, zfit_b1, Option.bind_some, Option.isSome_some, Option.toList, List.cons_append, List.nil_append, zclr_i, zclr_r, zclr_n, zfit_i, zfit_l, and_self, if_true, if_false]
        refine ⟨zu (zr Y 148 c1) 143 40 (Y 143 40 + 1), ?_, ?_, by rw [zu_row, if_neg (by decide), zr_far _ _ (by decide)], (YF.rfl'.wz).wr (by decide) (by decide)⟩
        · rw [m_X12_does, ← jy_one]
          simp only [e_X12_does_0, e_X12_does_1, e_X12_does_4, e_X12_does_5, e_X12_does_6, e_X12_does_7, e_X12_does_8, e_X12_does_11, e_X12_does_12, e_X12_does_13, e_X12_does_14, e_X12_does_15, e_X12_does_16, e_X12_does_17, e_X12_does_20, e_X12_does_21, e_X12_does_22, e_X12_does_23, e_X12_does_24, e_X12_does_26, e_X12_does_27, e_X12_does_36, e_X12_does_37, e_X12_does_38, e_X12_does_47, e_X12_does_48, e_X12_does_50, e_X12_does_62, e_X12_does_63, e_X12_does_64, e_X12_does_67, e_X12_does_68, e_X12_does_69, e_X12_does_71, e_X12_does_74, cA_6, cA_12, cA_18, cA_30, cA_42, cA_54, cA_66, cA_78, cA_90, cA_102, cA_114, cA_126, cA_138, cA_210, cA_222, lc_0, lc_1, lc_2, lc_3, lc_4, lc_5, g_143_20, q_148, nI_neg (show w < 2 ^ 31 by omega), nI_clamp (show w < 2 ^ 31 by omega), k_148 (show w < 2530 by omega), l_148 (show w < 2530 by omega), nI_neg (show w + 1 < 2 ^ 31 by omega), nI_clamp (show w + 1 < 2 ^ 31 by omega), k_148 (show w + 1 < 2530 by omega), l_148 (show w + 1 < 2530 by omega), nI_neg (show w + 2 < 2 ^ 31 by omega), nI_clamp (show w + 2 < 2 ^ 31 by omega), k_148 (show w + 2 < 2530 by omega), l_148 (show w + 2 < 2530 by omega), c_143, nI_1, nI_p2, h.rd (show 234 ≤ w by omega), h.rd (show 234 ≤ w + 1 by omega), h.rd (show 234 ≤ w + 2 by omega), k0, k1, k2, show ((2 : Int32) = 0) = False by decide, show ((2 : Int32) = 1) = False by decide, show ((2 : Int32) = 6) = False by decide, ne_eq, not_false_eq_true, not_true, hg, zfit_b1, bI, Option.bind_some, Option.isSome_some, Option.toList, List.cons_append, List.nil_append, zclr_i, zclr_r, zclr_n, zfit_i, zfit_l, and_self, if_true, if_false]
        · rw [if_pos rfl]
          have e4 : tBorn t N p q X l 3 + 1 = Y 143 40 + 1 := by rw [ho l lo, h.2.2.2.2.2.2.1]
          rw [lBear, e4]
          refine LR.settleZ hl ht wB ?_
          exact (h.row r1 f1 (fun k _ => by rw [settle_l lo, ho l lo])).set hl ht (by omega) _
    · have hB : lBorn X t N p q = false := by simp [lBorn, hN]
      have e12 : N = 12 := by omega
      refine act_no hW hs (fun d J => by rw [li_act_birth hl ht hW.hN h12 (by omega) (by omega), hB]; rfl) (fun D Y JY h => ?_)
      have hg : zcall (D + 7) 398 [.ref 143, .int (nI p), .int (nI q)] (mk n m g Y JY) = some (some (.int 0), mk n m g Y JY) := by
        rw [m_X12_isGiven]
        simp only [e_X12_isGiven_0, e_X12_isGiven_1, e_X12_isGiven_2, e_X12_isGiven_3, e_X12_isGiven_6, e_X12_isGiven_9, e_X12_isGiven_10, e_X12_isGiven_13, e_X12_isGiven_14, e_X12_isGiven_15, e_X12_isGiven_17, e_X12_isGiven_20, e_X12_isGiven_21, e_X12_isGiven_22, e_X12_isGiven_23, e_X12_isGiven_24, e_X12_isGiven_25, e_X12_isGiven_28, e_X12_isGiven_29, e_X12_isGiven_30, e_X12_isGiven_31, e_X12_isGiven_34, e_X12_isGiven_35, e_X12_isGiven_36, e_X12_isGiven_39, e_X12_isGiven_40, c_143, cA_6, cA_12, cA_18, cA_30, cA_42, cA_54, cA_66, cA_78, cA_90, cA_102, cA_114, cA_126, cA_138, cA_210, cA_222, lc_0, lc_1, lc_2, lc_3, lc_4, lc_5, g_143_20, q_148, v_areParents hW h.1 hp hq (D + 3), hb, bI, show ((1 : Int32) = 0) = False by decide, hW.c1 h.1, e12, show (nI 12 = 12) = True by decide, ne_eq, not_true, zfit_b0, Option.bind_some, Option.isSome_some, Option.toList, List.cons_append, List.nil_append, zclr_i, zclr_r, zclr_n, zfit_i, zfit_l, and_self, if_true, if_false]
      rw [m_X12_does]
      simp only [e_X12_does_0, e_X12_does_1, e_X12_does_4, e_X12_does_5, e_X12_does_6, e_X12_does_7, e_X12_does_8, e_X12_does_11, e_X12_does_12, e_X12_does_13, e_X12_does_14, e_X12_does_15, e_X12_does_16, e_X12_does_17, e_X12_does_20, e_X12_does_21, e_X12_does_22, e_X12_does_23, e_X12_does_24, e_X12_does_26, e_X12_does_27, e_X12_does_36, e_X12_does_37, e_X12_does_38, e_X12_does_47, e_X12_does_48, e_X12_does_50, e_X12_does_62, e_X12_does_63, e_X12_does_64, e_X12_does_67, e_X12_does_68, e_X12_does_69, e_X12_does_71, e_X12_does_74, cA_6, cA_12, cA_18, cA_30, cA_42, cA_54, cA_66, cA_78, cA_90, cA_102, cA_114, cA_126, cA_138, cA_210, cA_222, lc_0, lc_1, lc_2, lc_3, lc_4, lc_5, g_143_20, q_148, nI_neg (show w < 2 ^ 31 by omega), nI_clamp (show w < 2 ^ 31 by omega), k_148 (show w < 2530 by omega), l_148 (show w < 2530 by omega), nI_neg (show w + 1 < 2 ^ 31 by omega), nI_clamp (show w + 1 < 2 ^ 31 by omega), k_148 (show w + 1 < 2530 by omega), l_148 (show w + 1 < 2530 by omega), nI_neg (show w + 2 < 2 ^ 31 by omega), nI_clamp (show w + 2 < 2 ^ 31 by omega), k_148 (show w + 2 < 2530 by omega), l_148 (show w + 2 < 2530 by omega), c_143, nI_1, nI_p2, h.rd (show 234 ≤ w by omega), h.rd (show 234 ≤ w + 1 by omega), h.rd (show 234 ≤ w + 2 by omega), k0, k1, k2, show ((2 : Int32) = 0) = False by decide, show ((2 : Int32) = 1) = False by decide, show ((2 : Int32) = 6) = False by decide, ne_eq, not_false_eq_true, not_true, hg, zfit_b0, Option.bind_some, Option.isSome_some, Option.toList, List.cons_append, List.nil_append, zclr_i, zclr_r, zclr_n, zfit_i, zfit_l, and_self, if_true, if_false]
  · have hB : lBorn X t N p q = false := by simp [lBorn, hb]
    refine act_no hW hs (fun d J => by rw [li_act_birth hl ht hW.hN h12 (by omega) (by omega), hB]; rfl) (fun D Y JY h => ?_)
    have hg : zcall (D + 7) 398 [.ref 143, .int (nI p), .int (nI q)] (mk n m g Y JY) = some (some (.int 0), mk n m g Y JY) := by
      rw [m_X12_isGiven]
      simp only [e_X12_isGiven_0, e_X12_isGiven_1, e_X12_isGiven_2, e_X12_isGiven_3, e_X12_isGiven_6, e_X12_isGiven_9, e_X12_isGiven_10, e_X12_isGiven_13, e_X12_isGiven_14, e_X12_isGiven_15, e_X12_isGiven_17, e_X12_isGiven_20, e_X12_isGiven_21, e_X12_isGiven_22, e_X12_isGiven_23, e_X12_isGiven_24, e_X12_isGiven_25, e_X12_isGiven_28, e_X12_isGiven_29, e_X12_isGiven_30, e_X12_isGiven_31, e_X12_isGiven_34, e_X12_isGiven_35, e_X12_isGiven_36, e_X12_isGiven_39, e_X12_isGiven_40, c_143, v_areParents hW h.1 hp hq (D + 3), hb, bI, Bool.false_eq_true, zfit_b0, Option.bind_some, Option.isSome_some, Option.toList, List.cons_append, List.nil_append, zclr_i, zclr_r, zclr_n, zfit_i, zfit_l, and_self, if_true, if_false]
    rw [m_X12_does]
    simp only [e_X12_does_0, e_X12_does_1, e_X12_does_4, e_X12_does_5, e_X12_does_6, e_X12_does_7, e_X12_does_8, e_X12_does_11, e_X12_does_12, e_X12_does_13, e_X12_does_14, e_X12_does_15, e_X12_does_16, e_X12_does_17, e_X12_does_20, e_X12_does_21, e_X12_does_22, e_X12_does_23, e_X12_does_24, e_X12_does_26, e_X12_does_27, e_X12_does_36, e_X12_does_37, e_X12_does_38, e_X12_does_47, e_X12_does_48, e_X12_does_50, e_X12_does_62, e_X12_does_63, e_X12_does_64, e_X12_does_67, e_X12_does_68, e_X12_does_69, e_X12_does_71, e_X12_does_74, cA_6, cA_12, cA_18, cA_30, cA_42, cA_54, cA_66, cA_78, cA_90, cA_102, cA_114, cA_126, cA_138, cA_210, cA_222, lc_0, lc_1, lc_2, lc_3, lc_4, lc_5, g_143_20, q_148, nI_neg (show w < 2 ^ 31 by omega), nI_clamp (show w < 2 ^ 31 by omega), k_148 (show w < 2530 by omega), l_148 (show w < 2530 by omega), nI_neg (show w + 1 < 2 ^ 31 by omega), nI_clamp (show w + 1 < 2 ^ 31 by omega), k_148 (show w + 1 < 2530 by omega), l_148 (show w + 1 < 2530 by omega), nI_neg (show w + 2 < 2 ^ 31 by omega), nI_clamp (show w + 2 < 2 ^ 31 by omega), k_148 (show w + 2 < 2530 by omega), l_148 (show w + 2 < 2530 by omega), c_143, nI_1, nI_p2, h.rd (show 234 ≤ w by omega), h.rd (show 234 ≤ w + 1 by omega), h.rd (show 234 ≤ w + 2 by omega), k0, k1, k2, show ((2 : Int32) = 0) = False by decide, show ((2 : Int32) = 1) = False by decide, show ((2 : Int32) = 6) = False by decide, ne_eq, not_false_eq_true, not_true, hg, zfit_b0, Option.bind_some, Option.isSome_some, Option.toList, List.cons_append, List.nil_append, zclr_i, zclr_r, zclr_n, zfit_i, zfit_l, and_self, if_true, if_false]
/-- the reference's years -/
theorem v_anyYears {k : Nat} (hW : WT A b N S U) (hU : U + k ≤ 9999) (hR : RT A b (I 148) N S) (hle : A b 0 + nI k ≤ 2999) (d : Nat) : ∃ c', zcall (d + 5) 395 [.ref 143, .int (nI k)] (mk n m g I J) = some (some (.int 1), mk n m g (zu (zu (zr I 148 c') 143 41 (I 143 41 + jbc (tYears A b N k).1)) 143 39 (I 143 39 + nI k)) J) ∧ RT (tYears A b N k).2 b c' N S ∧ ∀ j, 234 ≤ j → c' j = I 148 j := by
  have hl : ∀ f s (c : Nat → Int32), s + f = k → RT (tYears A b N s).2 b c N S → (∀ j, 234 ≤ j → c j = I 148 j) → ∃ c', zexec (d + 5) 395 18 [some (.ref 143), some (.int (nI k)), some (.int (nI s))] [] (mk n m g (zu (zr I 148 c) 143 41 (I 143 41 + jbc (tYears A b N s).1)) J) = zexec (d + 5) 395 42 [some (.ref 143), some (.int (nI k)), some (.int (nI k))] [] (mk n m g (zu (zr I 148 c') 143 41 (I 143 41 + jbc (tYears A b N k).1)) J) ∧ RT (tYears A b N k).2 b c' N S ∧ ∀ j, 234 ≤ j → c' j = I 148 j := by
    intro f
    induction f with
    | zero =>
      intro s c hs r fr
      have : s = k := by omega
      subst this
      refine ⟨c, ?_, r, fr⟩
      rw [e_X12_anyYears_18]
      simp only [e_X12_anyYears_19, e_X12_anyYears_20, if_pos (nI_le (Nat.le_refl s) (by omega : s < 2 ^ 31)), Option.bind_some, Option.isSome_some, Option.toList, List.cons_append, List.nil_append, zclr_i, zclr_r, zclr_n, zfit_i, zfit_l, and_self, if_true, if_false]
    | succ f ih =>
      intro s c hs r fr
      have wS := hW.tYearsU s (by omega)
      obtain ⟨c1, f1, e1, s1, r1, fr1⟩ := v_goesYear (n := n) (m := m) (g := g) (J := J) (I := zu (zr I 148 c) 143 41 (I 143 41 + jbc (tYears A b N s).1)) wS (by omega) (by rw [zu_far _ _ _ (by decide), zr_same]; exact r) d
      rw [zr_zu _ _ _ _ _ _ (by decide), zr_zr] at e1
      rw [zu_far _ _ _ (by decide), zr_same] at fr1
      obtain ⟨c2, e2, r2, fr2⟩ := ih (s + 1) c1 (by omega) (by rw [tYears_succ]; exact r1) (fun j hj => by rw [fr1 j hj, fr j hj])
      refine ⟨c2, ?_, r2, fr2⟩
      have hsum : I 143 41 + jbc (tYears A b N s).1 + nI (cnt f1 12) = I 143 41 + jbc (tYears A b N (s + 1)).1 := by rw [dead_add hW (by omega) s1, Int32.add_assoc]
      have h41 : zu (zr I 148 c) 143 41 (I 143 41 + jbc (tYears A b N s).1) 143 41 = I 143 41 + jbc (tYears A b N s).1 := by rw [zu_row, if_pos rfl]
      rw [← e2, e_X12_anyYears_18]
      simp only [e_X12_anyYears_19, e_X12_anyYears_20, e_X12_anyYears_23, e_X12_anyYears_24, e_X12_anyYears_25, e_X12_anyYears_28, e_X12_anyYears_29, e_X12_anyYears_32, e_X12_anyYears_33, e_X12_anyYears_36, e_X12_anyYears_39, c_143, if_neg (nI_ge (show s < k by omega) (by omega : k < 2 ^ 31)), g_143_41, p_143_41, h41, e1, hsum, zu_zu, nI_1, Option.bind_some, Option.isSome_some, Option.toList, List.cons_append, List.nil_append, zclr_i, zclr_r, zclr_n, zfit_i, zfit_l, and_self, if_true, if_false]
  obtain ⟨c1, e1, r1, f1⟩ := hl k 0 (I 148) (by omega) hR (fun _ _ => rfl)
  have h0 : zu (zr I 148 (I 148)) 143 41 (I 143 41 + jbc (tYears A b N 0).1) = I := by
    rw [zr_id]
    exact zu_self _ _ _ _ (by rw [show jbc (tYears A b N 0).1 = 0 from (congrArg jbc (show (tYears A b N 0).1 = 0 by unfold tYears; rw [zfor])).trans (by decide), Int32.add_zero])
  rw [h0] at e1
  have h39 : zu (zr I 148 c1) 143 41 (I 143 41 + jbc (tYears A b N k).1) 143 39 = I 143 39 := by rw [zu_row, if_neg (by decide), zr_far _ _ (by decide)]
  refine ⟨c1, ?_, r1, f1⟩
  rw [m_X12_anyYears]
  simp only [e_X12_anyYears_0, e_X12_anyYears_1, e_X12_anyYears_4, e_X12_anyYears_5, e_X12_anyYears_6, e_X12_anyYears_7, e_X12_anyYears_8, e_X12_anyYears_11, e_X12_anyYears_14, e_X12_anyYears_15, e_X12_anyYears_16, e_X12_anyYears_17, cA_6, cA_12, cA_18, cA_30, cA_42, cA_54, cA_66, cA_78, cA_90, cA_102, cA_114, cA_126, cA_138, cA_210, cA_222, lc_0, lc_1, lc_2, lc_3, lc_4, lc_5, g_143_20, q_148, hR.n2, hle, Option.bind_some, Option.isSome_some, Option.toList, List.cons_append, List.nil_append, zclr_i, zclr_r, zclr_n, zfit_i, zfit_l, and_self, if_true, if_false]
  refine (show _ from e1).trans ?_
  simp only [e_X12_anyYears_42, e_X12_anyYears_43, e_X12_anyYears_44, e_X12_anyYears_47, e_X12_anyYears_48, e_X12_anyYears_49, e_X12_anyYears_52, e_X12_anyYears_53, g_143_39, p_143_39, h39, zfit_b1, Option.bind_some, Option.isSome_some, Option.toList, List.cons_append, List.nil_append, zclr_i, zclr_r, zclr_n, zfit_i, zfit_l, and_self, if_true, if_false]
theorem al_year {k : Nat} {y : Int32} (hl : isLife l) (ht : isTown t) (hs : ∃ sd, sd < 65536 ∧ X l 7 = nI sd) (hW : WT X t N S 2999) (hk : 1 ≤ k) (hk2 : k ≤ 20) (hw : 234 ≤ w ∧ w < 520) (k0 : c0 w = 0) (k1 : c0 (w + 1) = nI k) : ActOk n m g c0 l t N S 0 (nI k) y w X := by
  have h12 := hW.h12
  obtain ⟨lo, lo1⟩ := lif_out hl ht
  by_cases hle : X t 0 + nI k ≤ 2999
  · obtain ⟨yr, y1, y2, y3⟩ := hW.hY
    have hyk : yr + k ≤ 2999 := by
      rw [y3, nI_add] at hle
      have h2 : nI (yr + k) ≤ nI 2999 := hle
      rw [nI_leq (by omega) (by decide)] at h2
      exact h2
    have wT := (hW.tYears2 y3 y1 k hyk).1
    have ho : ∀ a, (∀ i, i < 17 → a ≠ t + i) → (tYears X t N k).2 a = X a := fun a h => tYears_out h k
    refine ⟨true, lYears l t N k X, N, Nat.le_refl N, fun d J => ?_, wT.far (fun i hi => by rw [lYears, zu_far _ _ _ (life_town hl ht hi).1, zu_far _ _ _ (life_town hl ht hi).1]), fun a h1 h2 h3 => ?_, ?_, fun k hk => ?_, ?_, fun D Y JY h => ?_⟩
    · rw [li_act_year hl ht h12 hW.yWell (by omega), jb_id, if_pos hle]
      simp [hle, bI]
    · rw [lYears, zu_far _ _ _ h2, zu_far _ _ _ h2, ho a h1]
    · rw [lYears, zu_far _ _ _ (by omega), zu_far _ _ _ (by omega), ho _ lo1]
    · rw [lYears, zu_row, if_neg (by omega), zu_row, if_neg (by omega), ho l lo]
    · rw [lYears, zu_row, if_neg (by omega), zu_row, if_neg (by omega), ho l lo]
      exact hs
    · obtain ⟨c1, e1, r1, f1⟩ := v_anyYears (n := n) (m := m) (g := g) (J := JY) (k := k) hW (by omega) h.1 hle (D + 2)
      refine ⟨zu (zu (zr Y 148 c1) 143 41 (Y 143 41 + jbc (tYears X t N k).1)) 143 39 (Y 143 39 + nI k), ?_, ?_, by rw [zu_row, if_neg (by decide), zu_row, if_neg (by decide), zr_far _ _ (by decide)], ((YF.rfl'.wz).wr (by decide) (by decide)).wr (by decide) (by decide)⟩
      · rw [m_X12_does, jy_id]
        simp only [e_X12_does_0, e_X12_does_1, e_X12_does_4, e_X12_does_5, e_X12_does_6, e_X12_does_7, e_X12_does_8, e_X12_does_11, e_X12_does_12, e_X12_does_13, e_X12_does_14, e_X12_does_15, e_X12_does_16, e_X12_does_17, e_X12_does_20, e_X12_does_21, e_X12_does_22, e_X12_does_23, e_X12_does_24, e_X12_does_26, e_X12_does_27, e_X12_does_30, e_X12_does_31, e_X12_does_32, e_X12_does_35, cA_6, cA_12, cA_18, cA_30, cA_42, cA_54, cA_66, cA_78, cA_90, cA_102, cA_114, cA_126, cA_138, cA_210, cA_222, lc_0, lc_1, lc_2, lc_3, lc_4, lc_5, g_143_20, q_148, nI_neg (show w < 2 ^ 31 by omega), nI_clamp (show w < 2 ^ 31 by omega), k_148 (show w < 2530 by omega), l_148 (show w < 2530 by omega), nI_neg (show w + 1 < 2 ^ 31 by omega), nI_clamp (show w + 1 < 2 ^ 31 by omega), k_148 (show w + 1 < 2530 by omega), l_148 (show w + 1 < 2530 by omega), nI_neg (show w + 2 < 2 ^ 31 by omega), nI_clamp (show w + 2 < 2 ^ 31 by omega), k_148 (show w + 2 < 2530 by omega), l_148 (show w + 2 < 2530 by omega), c_143, nI_1, nI_p2, h.rd (show 234 ≤ w by omega), h.rd (show 234 ≤ w + 1 by omega), h.rd (show 234 ≤ w + 2 by omega), k0, k1, ne_eq, not_true, e1, zfit_b1, bI, Option.bind_some, Option.isSome_some, Option.toList, List.cons_append, List.nil_append, zclr_i, zclr_r, zclr_n, zfit_i, zfit_l, and_self, if_true, if_false]
      · rw [if_pos rfl]
        have h4 : X l 4 = Y 143 41 := h.2.2.2.2.2.2.2.1.symm
        have h2 : zu (tYears X t N k).2 l 4 (Y 143 41 + jbc (tYears X t N k).1) l 2 = Y 143 39 := by rw [zu_row, if_neg (by decide), ho l lo, h.2.2.2.2.2.1]
        have hL : LR c0 l t N S (lYears l t N k X) (zu (zu (zr Y 148 c1) 143 41 (Y 143 41 + jbc (tYears X t N k).1)) 143 39 (Y 143 39 + nI k)) := by
          rw [lYears, h4, h2]
          exact ((h.row r1 f1 (fun k _ => by rw [ho l lo])).set hl ht (by omega) _).set hl ht (by omega) _
        refine hL.cong ?_ (fun k _ => by rw [settle_l lo])
        have h148 : zu (zu (zr Y 148 c1) 143 41 (Y 143 41 + jbc (tYears X t N k).1)) 143 39 (Y 143 39 + nI k) 148 = c1 := by rw [zu_far _ _ _ (by decide), zu_far _ _ _ (by decide), zr_same]
        rw [h148]
        obtain ⟨k', rfl⟩ : ∃ k', k = k' + 1 := ⟨k - 1, by omega⟩
        have wk := hW.tYearsU k' (by omega)
        have wC := zfor_inv (f := yLapse t) (P := fun _ x => WT x t N S (2999 + k' + 1)) (fun _ _ h => yLapse_W h) N 0 _ (wk.dead1 (by omega))
        have hT : (tYears X t N (k' + 1)).2 = tSettle (zfor (yLapse t) 0 N (yDead (tYears X t N k').2 t N).2) t N := by
          rw [tYears_succ]
          rfl
        rw [hT] at r1
        refine RT.settled r1 wC (fun i hi => ?_)
        rw [lYears, zu_far _ _ _ (life_town hl ht hi).1, zu_far _ _ _ (life_town hl ht hi).1, hT]
  · refine act_no hW hs (fun d J => by rw [li_act_year hl ht h12 hW.yWell (by omega), if_neg hle]; simp [hle, bI]) (fun D Y JY h => ?_)
    have hg : zcall (D + 7) 395 [.ref 143, .int (nI k)] (mk n m g Y JY) = some (some (.int 0), mk n m g Y JY) := by
      rw [m_X12_anyYears]
      simp only [e_X12_anyYears_0, e_X12_anyYears_1, e_X12_anyYears_4, e_X12_anyYears_5, e_X12_anyYears_6, e_X12_anyYears_7, e_X12_anyYears_8, e_X12_anyYears_11, e_X12_anyYears_14, e_X12_anyYears_15, cA_6, cA_12, cA_18, cA_30, cA_42, cA_54, cA_66, cA_78, cA_90, cA_102, cA_114, cA_126, cA_138, cA_210, cA_222, lc_0, lc_1, lc_2, lc_3, lc_4, lc_5, g_143_20, q_148, h.1.n2, hle, zfit_b0, Option.bind_some, Option.isSome_some, Option.toList, List.cons_append, List.nil_append, zclr_i, zclr_r, zclr_n, zfit_i, zfit_l, and_self, if_true, if_false]
    rw [m_X12_does]
    simp only [e_X12_does_0, e_X12_does_1, e_X12_does_4, e_X12_does_5, e_X12_does_6, e_X12_does_7, e_X12_does_8, e_X12_does_11, e_X12_does_12, e_X12_does_13, e_X12_does_14, e_X12_does_15, e_X12_does_16, e_X12_does_17, e_X12_does_20, e_X12_does_21, e_X12_does_22, e_X12_does_23, e_X12_does_24, e_X12_does_26, e_X12_does_27, e_X12_does_30, e_X12_does_31, e_X12_does_32, e_X12_does_35, cA_6, cA_12, cA_18, cA_30, cA_42, cA_54, cA_66, cA_78, cA_90, cA_102, cA_114, cA_126, cA_138, cA_210, cA_222, lc_0, lc_1, lc_2, lc_3, lc_4, lc_5, g_143_20, q_148, nI_neg (show w < 2 ^ 31 by omega), nI_clamp (show w < 2 ^ 31 by omega), k_148 (show w < 2530 by omega), l_148 (show w < 2530 by omega), nI_neg (show w + 1 < 2 ^ 31 by omega), nI_clamp (show w + 1 < 2 ^ 31 by omega), k_148 (show w + 1 < 2530 by omega), l_148 (show w + 1 < 2530 by omega), nI_neg (show w + 2 < 2 ^ 31 by omega), nI_clamp (show w + 2 < 2 ^ 31 by omega), k_148 (show w + 2 < 2530 by omega), l_148 (show w + 2 < 2530 by omega), c_143, nI_1, nI_p2, h.rd (show 234 ≤ w by omega), h.rd (show 234 ≤ w + 1 by omega), h.rd (show 234 ≤ w + 2 by omega), k0, k1, ne_eq, not_true, hg, zfit_b0, Option.bind_some, Option.isSome_some, Option.toList, List.cons_append, List.nil_append, zclr_i, zclr_r, zclr_n, zfit_i, zfit_l, and_self, if_true, if_false]
end LG
