/-! READING: the next word, to both -/
section RB
variable {n m : Nat} {g : Nat → zC} {I A X Y : Nat → Nat → Int32} {J JX JY : Nat → Nat → Int64} {L p q : Nat}
def YA (Y : Nat → Nat → Int32) (JY : Nat → Nat → Int64) (Y' : Nat → Nat → Int32) (JY' : Nat → Nat → Int64) : Prop := (∀ a, a ≠ 143 → Y' a = Y a) ∧ (∀ k, k < 14 ∨ 18 < k → Y' 143 k = Y 143 k) ∧ (∀ a, a ≠ 143 → JY' a = JY a) ∧ ∀ k, k ≠ 19 → JY' 143 k = JY 143 k
theorem YA.zuY {Y' : Nat → Nat → Int32} {JY' : Nat → Nat → Int64} {k : Nat} {v : Int32} (h : YA Y JY Y' JY') (h1 : 14 ≤ k) (h2 : k ≤ 18) : YA Y JY (zu Y' 143 k v) JY' := ⟨fun a ha => by rw [zu_far _ _ _ ha, h.1 a ha], fun j hj => by rw [zu_row, if_neg (by omega), h.2.1 j hj], h.2.2.1, h.2.2.2⟩
theorem YA.zuJ {Y' : Nat → Nat → Int32} {JY' : Nat → Nat → Int64} {v : Int64} (h : YA Y JY Y' JY') : YA Y JY Y' (zu JY' 143 19 v) := ⟨h.1, h.2.1, fun a ha => by rw [zu_far _ _ _ ha, h.2.2.1 a ha], fun j hj => by rw [zu_row, if_neg hj, h.2.2.2 j hj]⟩
theorem YA.rfl' : YA Y JY Y JY := ⟨fun _ _ => rfl, fun _ _ => rfl, fun _ _ => rfl, fun _ _ => rfl⟩
theorem dAt_12 : dAt X q 12 = X 12 := by
  unfold dAt
  rw [zu_far _ _ _ (by decide), zu_far _ _ _ (by decide), zu_far _ _ _ (by decide)]
theorem v_advance (h : TX X Y L) (hd : dWell X L p) (h16 : Y 143 16 = nI p) : ∃ Y' JY', (∀ (n m : Nat) (g : Nat → zC) (d : Nat), zcall (d + 1) 257 [.ref 143] (mk n m g Y JY) = some (none, mk n m g Y' JY')) ∧ TK (dAdv X JX L p).1 (dAdv X JX L p).2 Y' JY' ∧ YA Y JY Y' JY' := by
  have hT := h
  obtain ⟨h1, h2, h3⟩ := h
  obtain ⟨d1, d2, d3, d4, d5⟩ := hd
  obtain ⟨q, eq⟩ : ∃ q, q = dSkip X p (L - p) := ⟨_, rfl⟩
  have hqp := dSkip_le (I := X) (L - p) p
  rw [← eq] at hqp
  have hqL : q ≤ L := by omega
  have hsk := fun (n m : Nat) (g : Nat → zC) (d : Nat) => va_skip (n := n) (m := m) (g := g) (JY := JY) hT d (L - p) p (by omega)
  rw [← eq] at hsk
  have hst : ∀ (n m : Nat) (g : Nat → zC) (d : Nat), zcall (d + 1) 257 [.ref 143] (mk n m g Y JY) = zexec (d + 1) 257 58 [some (.ref 143), none] [] (mk n m g (zu Y 143 15 (nI q)) JY) := by
    intro n m g d
    rw [m_X12_advance]
    simp only [e_X12_advance_0, e_X12_advance_1, e_X12_advance_2, e_X12_advance_5, g_143_16, g_143_15, p_143_15, h16, Option.bind_some, Option.isSome_some, Option.toList, List.cons_append, List.nil_append, zclr_i, zclr_r, zclr_n, zfit_i, zfit_l, and_self, if_true, if_false]
    exact hsk n m g d
  obtain ⟨Y2, eY2⟩ : ∃ Y2, Y2 = zu (zu Y 143 15 (nI q)) 143 16 (nI q) := ⟨_, rfl⟩
  have g15 : Y2 143 15 = nI q := by rw [eY2, zu_row, if_neg (by decide), zu_row, if_pos rfl]
  have g16 : Y2 143 16 = nI q := by rw [eY2, zu_row, if_pos rfl]
  have g9 : Y2 143 9 = nI L := by rw [eY2, zu_row, if_neg (by decide), zu_row, if_neg (by decide), h2]
  have gA : YA Y JY Y2 JY := by rw [eY2]; exact (YA.rfl'.zuY (by decide) (by decide)).zuY (by decide) (by decide)
  have gT : TX X Y2 L := ⟨fun k hk => by rw [gA.1 147 (by decide)]; exact h1 k hk, g9, h3⟩
  have e15 : zu Y 143 15 (nI q) 143 15 = nI q := by rw [zu_row, if_pos rfl]
  have gZ : ∀ k, k ≠ 3 → k ≠ 4 → k ≠ 9 → dAt X q 13 k = X 13 k := fun k a b c => dAt_row a b c
  have z3 : dAt X q 13 3 = nI q := by unfold dAt; simp [zu_row]
  have z4 : dAt X q 13 4 = nI q := by unfold dAt; simp [zu_row]
  have z9 : dAt X q 13 9 = -1 := by unfold dAt; simp [zu_row]
  have z2 : dAt X q 13 2 = nI L := by rw [gZ 2 (by decide) (by decide) (by decide), d2]
  unfold dAdv
  rw [← eq]
  by_cases cE : L ≤ q
  · have hv : dTok (dAt X q) JX L q (dRun (dAt X q) 97 122 q (L - q)) (dRun (dAt X q) 48 57 q (L - q)) = (zu (dAt X q) 13 5 0, JX) := by
      unfold dTok
      rw [if_pos cE]
    rw [hv]
    refine ⟨zu Y2 143 14 0, JY, ?_, ?_, gA.zuY (by decide) (by decide)⟩
    · have e15' : zu (zu Y 143 15 (nI q)) 143 16 (nI q) 143 15 = nI q := by rw [← eY2]; exact g15
      have e9' : zu (zu Y 143 15 (nI q)) 143 16 (nI q) 143 9 = nI L := by rw [← eY2]; exact g9
      intro n m g d
      rw [hst n m g d, eY2]
      simp only [e_X12_advance_58, e_X12_advance_59, e_X12_advance_60, e_X12_advance_63, e_X12_advance_66, e_X12_advance_67, e_X12_advance_70, e_X12_advance_71, e_X12_advance_74, e_X12_advance_77, e_X12_advance_78, e_X12_advance_79, e_X12_advance_82, g_143_15, g_143_16, g_143_9, g_143_14, p_143_16, p_143_14, e15, e15', e9', if_neg (show ¬ nI q < nI L from Int32.not_lt.mpr (nI_le cE (by omega))), Option.bind_some, Option.isSome_some, Option.toList, List.cons_append, List.nil_append, zclr_i, zclr_r, zclr_n, zfit_i, zfit_l, and_self, if_true, if_false]
    · refine ⟨?_, ?_, ?_, .inl ⟨?_, ?_, ?_⟩⟩ <;> simp only [zu_row] <;> simp [g9, g15, g16, z2, z3, z4, z9]
  · have hqL2 : q < L := by omega
    have hb := (h1 q (by omega)).2
    have hlk := fun (n m : Nat) (g : Nat → zC) (d : Nat) => v_look2 (n := n) (m := m) (g := g) (JY := JY) g9 h3 (show q < 2 ^ 31 by omega) d
    rw [if_pos hqL2, gA.1 147 (by decide), ← (h1 q (by omega)).1] at hlk
    have e15' : zu (zu Y 143 15 (nI q)) 143 16 (nI q) 143 15 = nI q := by rw [← eY2]; exact g15
    have e9' : zu (zu Y 143 15 (nI q)) 143 16 (nI q) 143 9 = nI L := by rw [← eY2]; exact g9
    rw [eY2] at hlk
    have hst3 : ∀ (n m : Nat) (g : Nat → zC) (d : Nat), zexec (d + 1) 257 58 [some (.ref 143), none] [] (mk n m g (zu Y 143 15 (nI q)) JY) = zexec (d + 1) 257 92 [some (.ref 143), some (.int (X 12 q &&& 255))] [] (mk n m g Y2 JY) := by
      intro n m g d
      rw [eY2]
      simp only [e_X12_advance_58, e_X12_advance_59, e_X12_advance_60, e_X12_advance_63, e_X12_advance_66, e_X12_advance_67, e_X12_advance_70, e_X12_advance_71, e_X12_advance_74, e_X12_advance_83, e_X12_advance_84, e_X12_advance_85, e_X12_advance_88, e_X12_advance_91, c_143, g_143_15, g_143_16, g_143_9, p_143_16, e15, e15', e9', if_pos (show nI q < nI L from Int32.not_le.mp (nI_ge hqL2 (by omega))), hlk, Option.bind_some, Option.isSome_some, Option.toList, List.cons_append, List.nil_append, zclr_i, zclr_r, zclr_n, zfit_i, zfit_l, and_self, if_true, if_false]
    have hst2 : ∀ (n m : Nat) (g : Nat → zC) (d : Nat), zcall (d + 1) 257 [.ref 143] (mk n m g Y JY) = zexec (d + 1) 257 92 [some (.ref 143), some (.int (X 12 q &&& 255))] [] (mk n m g Y2 JY) := by
      intro n m g d
      rw [hst n m g d]
      exact hst3 n m g d
    have hle := dRun_le (I := X) 97 122 (L - q) q
    have hlz := dRun_le (I := X) 48 57 (L - q) q
    rw [dRun_row (lo := 97) (hi := 122) (dAt_12 (X := X) (q := q)), dRun_row (lo := 48) (hi := 57) (dAt_12 (X := X) (q := q))]
    obtain ⟨a, ea⟩ : ∃ a, a = dRun X 97 122 q (L - q) := ⟨_, rfl⟩
    obtain ⟨z, ez⟩ : ∃ z, z = dRun X 48 57 q (L - q) := ⟨_, rfl⟩
    rw [← ea] at hle
    rw [← ez] at hlz
    rw [← ea, ← ez]
    by_cases cW : q < a
    · have hv : dTok (dAt X q) JX L q a z = (zu (zu (zu (dAt X q) 13 5 2) 13 3 (nI a)) 13 9 (wPlace (zu JX 13 8 (dWord (dAt X q) q a)) 14 27 (dWord (dAt X q) q a)), zu JX 13 8 (dWord (dAt X q) q a)) := by
        unfold dTok
        rw [if_neg cE, if_pos cW]
      rw [hv]
      have hlt := dRun_in (I := X) 97 122 (L - q) q q (Nat.le_refl q) (by rw [← ea]; exact cW)
      have hwd : dWord (dAt X q) q a = wSo X q (a - q) := by
        unfold dWord wSo
        rw [nI_subn (by omega), dPack_row (dAt_12 (X := X) (q := q))]
        by_cases c : a - q ≤ 8
        · rw [if_pos c, if_neg (show ¬ (8 : Int32) < nI (a - q) from Int32.not_lt.mpr (nI_le (b := 8) c (by decide)))]
        · rw [if_neg c, if_pos (show (8 : Int32) < nI (a - q) from Int32.not_le.mp (nI_ge (a := 8) (b := a - q) (by omega) (by omega)))]
      obtain ⟨Y3, eY3⟩ : ∃ Y3, Y3 = zu Y2 143 14 1 := ⟨_, rfl⟩
      have k15 : Y3 143 15 = nI q := by rw [eY3, zu_row, if_neg (by decide), g15]
      have k16 : Y3 143 16 = nI q := by rw [eY3, zu_row, if_neg (by decide), g16]
      have k9 : Y3 143 9 = nI L := by rw [eY3, zu_row, if_neg (by decide), g9]
      have kA : YA Y JY Y3 JY := by rw [eY3]; exact gA.zuY (by decide) (by decide)
      have kT : TX X Y3 L := ⟨fun k hk => by rw [kA.1 147 (by decide)]; exact h1 k hk, k9, h3⟩
      have hlo := fun (n m : Nat) (g : Nat → zC) (d : Nat) => va_word (n := n) (m := m) (g := g) (JY := JY) (x1 := X 12 q &&& 255) kT hqL2 k15 ea d (a - q) 0 (by omega)
      have hw0 : wSo X q 0 = 0 := rfl
      rw [Nat.add_zero, zu_self Y3 143 16 (nI q) k16, hw0] at hlo
      refine ⟨zu (zu Y3 143 16 (nI a)) 143 18 (nI a - nI q), zu JY 143 19 (wSo X q (a - q)), ?_, ?_, ?_⟩
      · have e16 : zu Y3 143 16 (nI a) 143 16 = nI a := by rw [zu_row, if_pos rfl]
        have e15 : zu Y3 143 16 (nI a) 143 15 = nI q := by rw [zu_row, if_neg (by decide), k15]
        have hbl : (97 ≤ X 12 q &&& 255 ∧ X 12 q &&& 255 ≤ 122) = True := (byte_le hb).trans (eq_true hlt)
        intro n m g d
        rw [hst2 n m g d]
        simp only [e_X12_advance_92, e_X12_advance_93, e_X12_advance_96, e_X12_advance_99, e_X12_advance_100, e_X12_advance_101, e_X12_advance_104, e_X12_advance_105, e_X12_advance_106, v_isLetter, hbl, decide_true, bI, show ((1 : Int32) = 0) = False by decide, g_143_14, g_143_19, p_143_14, p_143_19, ← eY3, Option.bind_some, Option.isSome_some, Option.toList, List.cons_append, List.nil_append, zclr_i, zclr_r, zclr_n, zfit_i, zfit_l, and_self, if_true, if_false]
        refine (hlo n m g d).trans ?_
        simp only [e_X12_advance_182, e_X12_advance_183, e_X12_advance_184, e_X12_advance_187, e_X12_advance_188, e_X12_advance_191, e_X12_advance_192, e_X12_advance_195, e_X12_advance_330, g_143_15, g_143_16, g_143_18, p_143_18, e15, e16, Option.bind_some, Option.isSome_some, Option.toList, List.cons_append, List.nil_append, zclr_i, zclr_r, zclr_n, zfit_i, zfit_l, and_self, if_true, if_false]
      · rw [hwd]
        refine ⟨?_, ?_, ?_, .inr (.inr (.inl ⟨?_, ?_, ?_, ?_, ?_, ?_⟩))⟩
        · simp only [zu_row]
          simp [k9, z2]
        · simp only [zu_row]
          simp [k15, z4]
        · simp only [zu_row]
          simp
        · simp only [zu_row]
          simp
        · rw [eY3]
          simp only [zu_row]
          simp
        · simp only [zu_row]
          simp
        · simp only [zu_row, if_true]
          rw [nI_subn (by omega)]
          unfold wSo
          by_cases c : a - q ≤ 8
          · obtain ⟨y, hy, _, ey⟩ := dPack_lN (I := X) (q := q) (e := a) (fun k hk => (h1 k hk).2) (by omega) (fun k k1 k2 => dRun_in 97 122 (L - q) q k k1 (by rw [← ea]; exact k2)) (a - q) (by omega) c
            have hp : 32 ^ (a - q) ≤ 32 ^ 8 := Nat.pow_le_pow_right (by decide) c
            have hp8 : 32 ^ 8 < 2 ^ 63 := by decide
            rw [if_pos c, ey]
            exact propext ⟨fun _ => lL_m1 (by omega), fun _ => nI_le (b := 8) c (by decide)⟩
          · rw [if_neg c]
            exact propext ⟨fun h => absurd h (nI_ge (a := 8) (by omega) (by omega)), fun h => absurd rfl h⟩
        · simp only [zu_row]
          simp
        · simp only [zu_row, if_true]
          unfold wSo
          by_cases c : a - q ≤ 8
          · obtain ⟨y, hy, hy0, ey⟩ := dPack_lN (I := X) (q := q) (e := a) (fun k hk => (h1 k hk).2) (by omega) (fun k k1 k2 => dRun_in 97 122 (L - q) q k k1 (by rw [← ea]; exact k2)) (a - q) (by omega) c
            have hp : 32 ^ (a - q) ≤ 32 ^ 8 := Nat.pow_le_pow_right (by decide) c
            have hp8 : 32 ^ 8 < 2 ^ 63 := by decide
            rw [if_pos c, ey]
            intro _
            exact lL_pos (by have := hy0 (by omega); omega) (by omega)
          · rw [if_neg c]
            intro h
            exact absurd rfl h
      · exact ((kA.zuY (by decide) (by decide)).zuY (by decide) (by decide)).zuJ
    · have hnl := dRun_out (I := X) 97 122 (L - q) q (by rw [← ea]; omega)
      rw [← ea, show a = q by omega] at hnl
      have hbl : (97 ≤ X 12 q &&& 255 ∧ X 12 q &&& 255 ≤ 122) = False := (byte_le hb).trans (eq_false hnl)
      by_cases cN : q < z
      · have hv : dTok (dAt X q) JX L q a z = (if 4 < nI z - nI q then zu (zu (zu (dAt X q) 13 5 1) 13 6 0) 13 3 (nI z) else zu (zu (zu (dAt X q) 13 5 3) 13 6 (dNum (dAt X q) q (z - q) 0)) 13 3 (nI z), JX) := by
          unfold dTok
          rw [if_neg cE, if_neg cW, if_pos cN]
        rw [hv]
        have hlt := dRun_in (I := X) 48 57 (L - q) q q (Nat.le_refl q) (by rw [← ez]; exact cN)
        have hbd : (48 ≤ X 12 q &&& 255 ∧ X 12 q &&& 255 ≤ 57) = True := (byte_di hb).trans (eq_true hlt)
        have hlo := fun (n m : Nat) (g : Nat → zC) (d : Nat) => va_num (n := n) (m := m) (g := g) (JY := JY) (x1 := X 12 q &&& 255) gT hqL2 g15 ez d (z - q) 0 (by omega)
        have hn0 : nSo X q 0 = 0 := rfl
        rw [Nat.add_zero, hn0, zu_self (zu Y2 143 17 0) 143 16 (nI q) (by rw [zu_row, if_neg (by decide), g16])] at hlo
        have e16 : zu (zu Y2 143 17 (nSo X q (z - q))) 143 16 (nI z) 143 16 = nI z := by rw [zu_row, if_pos rfl]
        have e15 : zu (zu Y2 143 17 (nSo X q (z - q))) 143 16 (nI z) 143 15 = nI q := by rw [zu_row, if_neg (by decide), zu_row, if_neg (by decide), g15]
        by_cases c4 : z - q ≤ 4
        · have h4 : ¬ 4 < nI z - nI q := by rw [nI_subn (by omega)]; exact Int32.not_lt.mpr (nI_le (b := 4) c4 (by decide))
          rw [if_neg h4, dNum_row (dAt_12 (X := X) (q := q))]
          refine ⟨zu (zu (zu Y2 143 17 (nSo X q (z - q))) 143 16 (nI z)) 143 14 2, JY, ?_, ?_, ((gA.zuY (by decide) (by decide)).zuY (by decide) (by decide)).zuY (by decide) (by decide)⟩
          · intro n m g d
            rw [hst2 n m g d]
            simp only [e_X12_advance_92, e_X12_advance_93, e_X12_advance_96, e_X12_advance_198, e_X12_advance_199, e_X12_advance_202, e_X12_advance_205, e_X12_advance_206, e_X12_advance_207, v_isLetter, hbl, v_isDigit, hbd, decide_true, decide_false, bI, Bool.false_eq_true, show ((1 : Int32) = 0) = False by decide, g_143_17, p_143_17, Option.bind_some, Option.isSome_some, Option.toList, List.cons_append, List.nil_append, zclr_i, zclr_r, zclr_n, zfit_i, zfit_l, and_self, if_true, if_false]
            refine (hlo n m g d).trans ?_
            simp only [e_X12_advance_273, e_X12_advance_274, e_X12_advance_275, e_X12_advance_278, e_X12_advance_279, e_X12_advance_282, e_X12_advance_283, e_X12_advance_284, e_X12_advance_287, e_X12_advance_288, e_X12_advance_291, e_X12_advance_292, e_X12_advance_295, e_X12_advance_330, g_143_15, g_143_16, g_143_14, p_143_14, e15, e16, if_pos (Int32.not_lt.mp h4), Option.bind_some, Option.isSome_some, Option.toList, List.cons_append, List.nil_append, zclr_i, zclr_r, zclr_n, zfit_i, zfit_l, and_self, if_true, if_false]
          · have hn : nSo X q (z - q) = dNum X q (z - q) 0 := by
              unfold nSo
              rw [show (if z - q < 4 then z - q else 4) = z - q by split <;> omega]
            refine ⟨?_, ?_, ?_, .inr (.inr (.inr (.inl ⟨?_, ?_, ?_, ?_⟩)))⟩ <;> simp only [zu_row] <;> simp [g9, g15, z2, z4, z9, hn]
        · have h4 : 4 < nI z - nI q := by rw [nI_subn (by omega)]; exact Int32.not_le.mp (nI_ge (a := 4) (by omega) (by omega))
          rw [if_pos h4]
          refine ⟨zu (zu (zu Y2 143 17 (nSo X q (z - q))) 143 16 (nI z)) 143 14 4, JY, ?_, ?_, ((gA.zuY (by decide) (by decide)).zuY (by decide) (by decide)).zuY (by decide) (by decide)⟩
          · intro n m g d
            rw [hst2 n m g d]
            simp only [e_X12_advance_92, e_X12_advance_93, e_X12_advance_96, e_X12_advance_198, e_X12_advance_199, e_X12_advance_202, e_X12_advance_205, e_X12_advance_206, e_X12_advance_207, v_isLetter, hbl, v_isDigit, hbd, decide_true, decide_false, bI, Bool.false_eq_true, show ((1 : Int32) = 0) = False by decide, g_143_17, p_143_17, Option.bind_some, Option.isSome_some, Option.toList, List.cons_append, List.nil_append, zclr_i, zclr_r, zclr_n, zfit_i, zfit_l, and_self, if_true, if_false]
            refine (hlo n m g d).trans ?_
            simp only [e_X12_advance_273, e_X12_advance_274, e_X12_advance_275, e_X12_advance_278, e_X12_advance_279, e_X12_advance_282, e_X12_advance_283, e_X12_advance_284, e_X12_advance_287, e_X12_advance_288, e_X12_advance_291, e_X12_advance_292, e_X12_advance_295, e_X12_advance_330, g_143_15, g_143_16, g_143_14, p_143_14, e15, e16, if_neg (Int32.not_le.mpr h4), Option.bind_some, Option.isSome_some, Option.toList, List.cons_append, List.nil_append, zclr_i, zclr_r, zclr_n, zfit_i, zfit_l, and_self, if_true, if_false]
          · refine ⟨?_, ?_, ?_, .inr (.inl ⟨?_, ?_, ?_⟩)⟩ <;> simp only [zu_row] <;> simp [g9, g15, z2, z4, z9]
      · have hnd := dRun_out (I := X) 48 57 (L - q) q (by rw [← ez]; omega)
        rw [← ez, show z = q by omega] at hnd
        have hbd : (48 ≤ X 12 q &&& 255 ∧ X 12 q &&& 255 ≤ 57) = False := (byte_di hb).trans (eq_false hnd)
        have hv : dTok (dAt X q) JX L q a z = (dSign (dAt X q) q, JX) := by
          unfold dTok
          rw [if_neg cE, if_neg cW, if_neg cN]
        rw [hv]
        have hdS : dSign (dAt X q) q = zu (zu (zu (dAt X q) 13 7 (X 12 q &&& 255)) 13 5 (dSgn (X 12 q &&& 255))) 13 3 (nI (q + 1)) := by
          unfold dSign
          rw [dAt_12, byte_c hb]
        rw [hdS]
        have e15 : zu Y2 143 16 (nI (q + 1)) 143 15 = nI q := by rw [zu_row, if_neg (by decide), g15]
        refine ⟨zu (zu (zu Y2 143 16 (nI (q + 1))) 143 17 (X 12 q &&& 255)) 143 14 (if X 12 q &&& 255 = 59 ∨ X 12 q &&& 255 = 60 ∨ X 12 q &&& 255 = 62 ∨ X 12 q &&& 255 = 61 then 3 else 4), JY, ?_, ?_, ((gA.zuY (by decide) (by decide)).zuY (by decide) (by decide)).zuY (by decide) (by decide)⟩
        · intro n m g d
          rw [hst2 n m g d]
          simp only [e_X12_advance_92, e_X12_advance_93, e_X12_advance_96, e_X12_advance_198, e_X12_advance_199, e_X12_advance_202, e_X12_advance_298, e_X12_advance_299, e_X12_advance_300, e_X12_advance_303, e_X12_advance_304, e_X12_advance_305, e_X12_advance_308, e_X12_advance_309, e_X12_advance_310, e_X12_advance_313, e_X12_advance_314, e_X12_advance_315, e_X12_advance_316, e_X12_advance_319, e_X12_advance_322, e_X12_advance_323, e_X12_advance_326, e_X12_advance_327, e_X12_advance_330, c_143, v_isLetter, hbl, v_isDigit, hbd, decide_false, bI, Bool.false_eq_true, g_143_14, g_143_15, g_143_16, g_143_17, p_143_14, p_143_16, p_143_17, g15, nI_1, v_isSignByte, Option.bind_some, Option.isSome_some, Option.toList, List.cons_append, List.nil_append, zclr_i, zclr_r, zclr_n, zfit_i, zfit_l, and_self, if_true, if_false]
          by_cases cs : X 12 q &&& 255 = 59 ∨ X 12 q &&& 255 = 60 ∨ X 12 q &&& 255 = 62 ∨ X 12 q &&& 255 = 61
          · simp only [cs, decide_true, if_true, show ((1 : Int32) = 0) = False by decide, if_false]
          · simp only [cs, decide_false, if_false, Bool.false_eq_true, if_true]
        · unfold dSgn
          by_cases cs : X 12 q &&& 255 = 59 ∨ X 12 q &&& 255 = 60 ∨ X 12 q &&& 255 = 62 ∨ X 12 q &&& 255 = 61
          · rw [if_pos cs, if_pos cs]
            refine ⟨?_, ?_, ?_, .inr (.inr (.inr (.inr ⟨?_, ?_, ⟨?_, ?_⟩, ?_⟩)))⟩ <;> simp only [zu_row] <;> simp [g9, g15, z2, z4, z9]
            exact cs
          · rw [if_neg cs, if_neg cs]
            refine ⟨?_, ?_, ?_, .inr (.inl ⟨?_, ?_, ?_⟩)⟩ <;> simp only [zu_row] <;> simp [g9, g15, z2, z4, z9]
end RB
