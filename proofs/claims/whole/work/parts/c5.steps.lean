/-! READING CENTURIES: blocks -/
section CF
variable {n m : Nat} {g : Nat → zC} {I X Y X' Y' X1 Y1 X2 Y2 : Nat → Nat → Int32} {J JX JY JX' JY' JX1 JY1 JX2 JY2 : Nat → Nat → Int64} {L p p' p1 N S k k' st st' ln ln' dp q e a : Nat} {f f' c c' : Nat → Int32} {x y z v : Int32}
def HE (k dp : Nat) (f : Nat → Int32) (X : Nat → Nat → Int32) (JX : Nat → Nat → Int64) (k' dp' : Nat) (f' : Nat → Int32) (X' : Nat → Nat → Int32) (JX' : Nat → Nat → Int64) : Prop := ∀ (n m : Nat) (g : Nat → zC) (d a : Nat) (x : Option Value), 158 ≤ a → ∃ x', zexec (d + 25) 1 9 [some (.ref a), some (.int (nI k)), x] [] (mk n m (GC g a dp f) X JX) = zexec (d + 25) 1 9 [some (.ref a), some (.int (nI k')), x'] [] (mk n m (GC g a dp' f') X' JX')
def HF (k dp : Nat) (f : Nat → Int32) (X : Nat → Nat → Int32) (JX : Nat → Nat → Int64) (X' : Nat → Nat → Int32) (JX' : Nat → Nat → Int64) : Prop := ∃ dp' f', ∀ (n m : Nat) (g : Nat → zC) (d a : Nat) (x : Option Value), 158 ≤ a → zexec (d + 25) 1 9 [some (.ref a), some (.int (nI k)), x] [] (mk n m (GC g a dp f) X JX) = some (some (.int 0), mk n m (GC g a dp' f') X' JX')
theorem HE.trans {k2 dp' dp2 : Nat} {f2 : Nat → Int32} (h : HE k dp f X JX k' dp' f' X' JX') (h2 : HE k' dp' f' X' JX' k2 dp2 f2 X2 JX2) : HE k dp f X JX k2 dp2 f2 X2 JX2 := fun n m g d a x ha => by
  obtain ⟨x', e1⟩ := h n m g d a x ha
  obtain ⟨x2, e2⟩ := h2 n m g d a x' ha
  exact ⟨x2, e1.trans e2⟩
theorem HE.fail {dp' : Nat} (h : HE k dp f X JX k' dp' f' X' JX') (h2 : HF k' dp' f' X' JX' X2 JX2) : HF k dp f X JX X2 JX2 := by
  obtain ⟨dp2, f2, h2⟩ := h2
  refine ⟨dp2, f2, fun n m g d a x ha => ?_⟩
  obtain ⟨x', e1⟩ := h n m g d a x ha
  exact e1.trans (h2 n m g d a x' ha)
/-- one step with what is in it: lines ln to ln', steps st to st' -/
def Item (N S ln ln' st st' dp : Nat) (X : Nat → Nat → Int32) (c : Nat → Int32) : Prop := (ln' = ln + 1 ∧ st' = st + 1 ∧ Sim X 56 c N ln st) ∨ (dp < 3 ∧ ∃ x, ln < x ∧ ln' = x + 1 ∧ st < st' ∧ Hea X 56 c N S ln x st st' ∧ ∀ F, x ≤ F + (ln + 1) → Blk X 56 c N S F (2 - dp) (ln + 1) x (st + 1) st')
theorem Item.keep (h : Item N S ln ln' st st' dp X c) (hk : KP ln' st' X c X' c') : Item N S ln ln' st st' dp X' c' := by
  rcases h with ⟨h1, h2, h3⟩ | ⟨h1, x, h2, h3, h4, h5, h6⟩
  · exact .inl ⟨h1, h2, h3.keep hk (by omega) (by omega)⟩
  · exact .inr ⟨h1, x, h2, h3, h4, h5.keep hk (by omega) (by omega) (by omega), fun F hF => Blk.keep hk F _ _ _ _ _ (by omega) (Nat.le_refl _) (h6 F hF)⟩
theorem Item.cons (h : Item N S ln ln' st st' dp X c) (hdp : dp ≤ 3) {F e j : Nat} (hF : e ≤ F + 1 + ln) (hb : Blk X 56 c N S F (3 - dp) ln' e st' j) : Blk X 56 c N S (F + 1) (3 - dp) ln e st j := by
  have hin := Blk.in _ _ _ _ _ _ hb
  rcases h with ⟨h1, h2, h3⟩ | ⟨h1, x, h2, h3, h4, h5, h6⟩
  · subst h1 h2
    exact .inr (.inl ⟨by omega, by omega, h3, hb⟩)
  · subst h3
    exact .inr (.inr ⟨2 - dp, by omega, x, st', h2, by omega, h4, hin.2, h5, h6 F (by omega), hb⟩)
def SO (L p N S k st ln dp : Nat) (f : Nat → Int32) (X : Nat → Nat → Int32) (JX : Nat → Nat → Int64) (Y : Nat → Nat → Int32) (JY : Nat → Nat → Int64) : Prop := ∃ X' JX' Y' JY', HX X JX X' JX' ∧ GY Y JY Y' JY' ∧ (∀ (n m : Nat) (g : Nat → zC) (d : Nat), 24 ≤ d + dp → zcall d 309 [.ref 143, .int (nI dp)] (mk n m g Y JY) = some (none, mk n m g Y' JY')) ∧ ((BAD X' Y' ∧ HF k dp f X JX X' JX') ∨ (∃ k' f' p' st' ln', HE k dp f X JX k' dp f' X' JX' ∧ (∀ i, i < dp → f' i = f i) ∧ CR L p' N S st' ln' dp X' JX' Y' JY' ∧ p ≤ p' ∧ (X' 13 5 ≠ 0 → p < p' ∧ k' + 1 ≤ p') ∧ k' ≤ p' ∧ st < st' ∧ ln < ln' ∧ KP ln st X (nb Y) X' (nb Y') ∧ Item N S ln ln' st st' dp X' (nb Y')))
def LO (L p N S k st ln q : Nat) (f : Nat → Int32) (X : Nat → Nat → Int32) (JX : Nat → Nat → Int64) (Y : Nat → Nat → Int32) (JY : Nat → Nat → Int64) : Prop := ∃ X' JX' Y' JY', HX X JX X' JX' ∧ GY Y JY Y' JY' ∧ (∀ (n m : Nat) (g : Nat → zC) (d : Nat) (kind w : Int32), 24 ≤ d + q → zexec d 309 142 [some (.ref 143), some (.int (nI q)), some (.int kind), some (.int 1), some (.int w)] [] (mk n m g Y JY) = zexec d 309 170 [some (.ref 143), some (.int (nI q)), some (.int kind), some (.int 1), some (.int w)] [] (mk n m g Y' JY')) ∧ ((BAD X' Y' ∧ HF k (q + 1) f X JX X' JX') ∨ (∃ k' f' p' st' ln', HE k (q + 1) f X JX k' (q + 1) f' X' JX' ∧ X' 13 9 = 25 ∧ (∀ i, i < q + 1 → f' i = f i) ∧ CR L p' N S st' ln' (q + 1) X' JX' Y' JY' ∧ p ≤ p' ∧ k' + 1 ≤ p' ∧ st ≤ st' ∧ ln ≤ ln' ∧ KP ln st X (nb Y) X' (nb Y') ∧ ∀ F, ln' ≤ F + ln → Blk X' 56 (nb Y') N S F (2 - q) ln ln' st st'))
theorem k300 {k : Nat} (h : k ≤ 300) : ((300 : Int32) < nI k) = False := eq_false (Int32.not_lt.mpr (nI_le (b := 300) h (by decide)))
/-- the text ends within a block -/
theorem LO.end (hL : L ≤ 300) (h : CR L p N S st ln (q + 1) X JX Y JY) (hq : q + 1 ≤ 3) (h5 : X 13 5 = 0) (hk : k ≤ 300) : LO L p N S k st ln q f X JX Y JY := by
  have hB := h.rs.here
  have k9 : X 13 9 = -1 := by
    rcases h.rs.kcase with e | ⟨j, hj, e⟩
    · exact e
    · have := h.rs.kword (by rw [e]; exact nI_m1 (by omega))
      rw [h5] at this
      exact absurd this (by decide)
  have s0 := h.rs.step
  rw [k9, show sK (-1) = -1 by decide] at s0
  have qp : (nI (q + 1) ≤ 0) = False := eq_false (nI_ge (a := 0) (b := q + 1) (by omega) (by omega))
  refine ⟨dHere X, JX, vFail (kH X) (X 13 4) Y, JY, FX.here.hx, (YG.fail _ _).gy, fun n m g d kind w hd => ?_, .inl ⟨hB, q + 1, f, fun n m g d a x ha => ?_⟩⟩
  · obtain ⟨d, rfl⟩ : ∃ d', d = d' + 21 := ⟨d - 21, by omega⟩
    have rs : zcall (d + 20) 309 [.ref 143, .int (nI (q + 1))] (mk n m g Y JY) = some (none, mk n m g (vFail (kH X) (X 13 4) Y) JY) := by
      rw [m_X12_readStep]
      simp only [e_X12_readStep_0, e_X12_readStep_1, e_X12_readStep_4, e_X12_readStep_5, e_X12_readStep_6, e_X12_readStep_8, e_X12_readStep_11, e_X12_readStep_12, e_X12_readStep_14, e_X12_readStep_17, e_X12_readStep_18, e_X12_readStep_21, e_X12_readStep_22, e_X12_readStep_23, e_X12_readStep_24, e_X12_readStep_27, e_X12_readStep_28, e_X12_readStep_31, e_X12_readStep_32, e_X12_readStep_35, e_X12_readStep_38, e_X12_readStep_39, e_X12_readStep_42, e_X12_readStep_44, e_X12_readStep_47, e_X12_readStep_48, e_X12_readStep_50, e_X12_readStep_51, e_X12_readStep_54, e_X12_readStep_57, e_X12_readStep_58, e_X12_readStep_61, e_X12_readStep_64, e_X12_readStep_65, e_X12_readStep_68, e_X12_readStep_69, e_X12_readStep_70, e_X12_readStep_73, e_X12_readStep_74, e_X12_readStep_76, e_X12_readStep_77, e_X12_readStep_80, e_X12_readStep_83, e_X12_readStep_84, e_X12_readStep_87, e_X12_readStep_90, c_143, v_stepWord, s0, show ((-1 : Int32) = 7) = False by decide, show ((-1 : Int32) = 8) = False by decide, show ((0 : Int32) ≤ -1) = False by decide, v_amiss h.rs, g_143_12, hB.ne, hB.le, Option.bind_some, Option.isSome_some, Option.toList, List.cons_append, List.nil_append, zclr_i, zclr_r, zclr_n, zfit_i, zfit_l, and_self, if_true, if_false]
    rw [e_X12_readStep_142]
    simp only [e_X12_readStep_143, e_X12_readStep_146, e_X12_readStep_147, e_X12_readStep_150, e_X12_readStep_153, e_X12_readStep_154, e_X12_readStep_157, e_X12_readStep_160, e_X12_readStep_161, e_X12_readStep_162, e_X12_readStep_163, e_X12_readStep_164, e_X12_readStep_167, c_143, g_143_12, h.rs.bad, v_isEnd, h.rs.k25, k9, show decide ((-1 : Int32) = 25) = false by decide, bI, Bool.false_eq_true, show ((1 : Int32) = 0) = False by decide, nI_1, rs, Option.bind_some, Option.isSome_some, Option.toList, List.cons_append, List.nil_append, zclr_i, zclr_r, zclr_n, zfit_i, zfit_l, and_self, if_true, if_false]
    rw [e_X12_readStep_142]
    simp only [e_X12_readStep_143, e_X12_readStep_146, e_X12_readStep_147, e_X12_readStep_150, e_X12_readStep_153, e_X12_readStep_154, e_X12_readStep_157, e_X12_readStep_160, e_X12_readStep_161, e_X12_readStep_162, e_X12_readStep_163, e_X12_readStep_164, e_X12_readStep_167, g_143_12, hB.ne, show ((1 : Int32) = 0) = False by decide, Option.bind_some, Option.isSome_some, Option.toList, List.cons_append, List.nil_append, zclr_i, zclr_r, zclr_n, zfit_i, zfit_l, and_self, if_true, if_false]
  · simp only [e_X0_readAll_9, e_X0_readAll_10, e_X0_readAll_13, e_X0_readAll_16, e_X0_readAll_17, e_X0_readAll_20, e_X0_readAll_23, e_X0_readAll_26, e_X0_readAll_27, e_X0_readAll_30, e_X0_readAll_33, e_X0_readAll_35, e_X0_readAll_38, e_X0_readAll_39, e_X0_readAll_42, e_X0_readAll_45, e_X0_readAll_46, e_X0_readAll_47, e_X0_readAll_50, e_X0_readAll_53, e_X0_readAll_56, e_X0_readAll_57, e_X0_readAll_58, e_X0_readAll_61, e_X0_readAll_62, e_X0_readAll_65, e_X0_readAll_68, e_X0_readAll_71, e_X0_readAll_72, e_X0_readAll_73, e_X0_readAll_76, e_X0_readAll_79, e_X0_readAll_80, e_X0_readAll_83, e_X0_readAll_86, e_X0_readAll_87, e_X0_readAll_90, e_X0_readAll_93, e_X0_readAll_94, e_X0_readAll_95, e_X0_readAll_98, e_X0_readAll_99, e_X0_readAll_102, e_X0_readAll_103, c_13, g_ct_0 ha, g_ct_4 ha, k300 hk, d_atEnd, h5, decide_true, bI, if_true, show ((1 : Int32) = 0) = False by decide, qp, d_failHere, zfit_b0, Option.bind_some, Option.isSome_some, Option.toList, List.cons_append, List.nil_append, zclr_i, zclr_r, zclr_n, zfit_i, zfit_l, and_self, if_true, if_false]
/-- 'end' with no block open -/
theorem SO.end0 (h : CR L p N S st ln 0 X JX Y JY) (h5 : X 13 5 ≠ 0) (k9 : X 13 9 = 25) (hk : k ≤ 300) : SO L p N S k st ln 0 f X JX Y JY := by
  have hB := h.rs.here
  have s0 := h.rs.step
  rw [k9, show sK 25 = -1 by decide] at s0
  refine ⟨dHere X, JX, vFail (kH X) (X 13 4) Y, JY, FX.here.hx, (YG.fail _ _).gy, fun n m g d hd => ?_, .inl ⟨hB, 0, f, fun n m g d a x ha => ?_⟩⟩
  · obtain ⟨d, rfl⟩ : ∃ d', d = d' + 20 := ⟨d - 20, by omega⟩
    rw [m_X12_readStep]
    simp only [e_X12_readStep_0, e_X12_readStep_1, e_X12_readStep_4, e_X12_readStep_5, e_X12_readStep_6, e_X12_readStep_8, e_X12_readStep_11, e_X12_readStep_12, e_X12_readStep_14, e_X12_readStep_17, e_X12_readStep_18, e_X12_readStep_21, e_X12_readStep_22, e_X12_readStep_23, e_X12_readStep_24, e_X12_readStep_27, e_X12_readStep_28, e_X12_readStep_31, e_X12_readStep_32, e_X12_readStep_35, e_X12_readStep_38, e_X12_readStep_39, e_X12_readStep_42, e_X12_readStep_44, e_X12_readStep_47, e_X12_readStep_48, e_X12_readStep_50, e_X12_readStep_51, e_X12_readStep_54, e_X12_readStep_57, e_X12_readStep_58, e_X12_readStep_61, e_X12_readStep_64, e_X12_readStep_65, e_X12_readStep_68, e_X12_readStep_69, e_X12_readStep_70, e_X12_readStep_73, e_X12_readStep_74, e_X12_readStep_76, e_X12_readStep_77, e_X12_readStep_80, e_X12_readStep_83, e_X12_readStep_84, e_X12_readStep_87, e_X12_readStep_90, c_143, v_stepWord, s0, show ((-1 : Int32) = 7) = False by decide, show ((-1 : Int32) = 8) = False by decide, show ((0 : Int32) ≤ -1) = False by decide, v_amiss h.rs, g_143_12, hB.ne, hB.le, Option.bind_some, Option.isSome_some, Option.toList, List.cons_append, List.nil_append, zclr_i, zclr_r, zclr_n, zfit_i, zfit_l, and_self, if_true, if_false]
  · have el : zcall (d + 24) 2 [.ref a] (mk n m (GC g a 0 f) X JX) = some (some (.int 0), mk n m (GC g a 0 f) (dHere X) JX) := by
      rw [m_X0_endLine]
      simp only [e_X0_endLine_0, e_X0_endLine_1, e_X0_endLine_4, e_X0_endLine_7, e_X0_endLine_8, e_X0_endLine_11, e_X0_endLine_14, e_X0_endLine_15, e_X0_endLine_16, e_X0_endLine_17, e_X0_endLine_20, e_X0_endLine_21, e_X0_endLine_22, e_X0_endLine_25, e_X0_endLine_26, e_X0_endLine_29, e_X0_endLine_31, e_X0_endLine_32, e_X0_endLine_33, e_X0_endLine_34, e_X0_endLine_37, e_X0_endLine_38, e_X0_endLine_41, e_X0_endLine_42, e_X0_endLine_45, e_X0_endLine_46, e_X0_endLine_49, e_X0_endLine_50, e_X0_endLine_51, e_X0_endLine_54, e_X0_endLine_57, e_X0_endLine_58, e_X0_endLine_59, e_X0_endLine_62, e_X0_endLine_63, e_X0_endLine_66, e_X0_endLine_69, e_X0_endLine_70, c_13, g_ct_0 ha, g_ct_4 ha, show ((0 : Int32) < nI 0) = False by decide, d_failHere, zfit_b0, Option.bind_some, Option.isSome_some, Option.toList, List.cons_append, List.nil_append, zclr_i, zclr_r, zclr_n, zfit_i, zfit_l, and_self, if_true, if_false]
    simp only [e_X0_readAll_9, e_X0_readAll_10, e_X0_readAll_13, e_X0_readAll_16, e_X0_readAll_17, e_X0_readAll_20, e_X0_readAll_23, e_X0_readAll_26, e_X0_readAll_27, e_X0_readAll_30, e_X0_readAll_33, e_X0_readAll_35, e_X0_readAll_38, e_X0_readAll_39, e_X0_readAll_42, e_X0_readAll_45, e_X0_readAll_46, e_X0_readAll_47, e_X0_readAll_50, e_X0_readAll_53, e_X0_readAll_56, e_X0_readAll_57, e_X0_readAll_58, e_X0_readAll_61, e_X0_readAll_62, e_X0_readAll_65, e_X0_readAll_68, e_X0_readAll_71, e_X0_readAll_72, e_X0_readAll_73, e_X0_readAll_76, e_X0_readAll_79, e_X0_readAll_80, e_X0_readAll_83, e_X0_readAll_86, e_X0_readAll_87, e_X0_readAll_90, e_X0_readAll_93, e_X0_readAll_94, e_X0_readAll_95, e_X0_readAll_98, e_X0_readAll_99, e_X0_readAll_102, e_X0_readAll_103, c_13, c_ct ha, g_ct_0 ha, g_13_9, k300 hk, d_atEnd, h5, decide_false, bI, Bool.false_eq_true, k9, el, zfit_b0, Option.bind_some, Option.isSome_some, Option.toList, List.cons_append, List.nil_append, zclr_i, zclr_r, zclr_n, zfit_i, zfit_l, and_self, if_true, if_false]
theorem SimB.sim {i b : Nat} (h : SimB X 56 c N b i) (h8 : c' (236 + 9 * i + 8) = nI (i + 1)) (hc : ∀ j, j ≠ 236 + 9 * i + 8 → c' j = c j) : Sim X 56 c' N b i := by
  unfold Sim
  rw [hc (236 + 9 * i) (by omega), hc (236 + 9 * i + 1) (by omega), hc (236 + 9 * i + 2) (by omega)]
  exact ⟨h.1, h8, h.2⟩
/-- the end's line, joined -/
def endX (X : Nat → Nat → Int32) (ln b : Nat) : Nat → Nat → Int32 := zu (zu (addX X ln 25 (-1) (-1) 0) (56 + 5) b (nI ln)) (56 + 5) ln (nI b)
theorem endX_r {r l : Nat} (h1 : 1 ≤ r) (h5 : r ≤ 4) (hl : l ≠ ln) {b : Nat} : endX X ln b (56 + r) l = X (56 + r) l := by
  unfold endX
  rw [zu_far _ _ _ (by omega), zu_far _ _ _ (by omega), addX_low h1 (by omega) hl]
theorem endX_5 {l b : Nat} : endX X ln b (56 + 5) l = if l = ln then nI b else if l = b then nI ln else X (56 + 5) l := by
  unfold endX
  rw [zu_row, zu_row, addX_5]
  by_cases h : l = ln
  · rw [if_pos h, if_pos h]
  · rw [if_neg h, if_neg h, if_neg h]
theorem HX.endl {b : Nat} (h : HX X JX X' JX') : HX X JX (endX X' ln b) JX' := (h.add.wr (by decide) (by decide)).wr (by decide) (by decide)
theorem CR.endl {b : Nat} (h : CR L p N S st ln (q + 1) X JX Y JY) : CR L p N S st (ln + 1) q (endX X ln b) JX Y JY := by
  have h10 := h.hln
  have h2 := (h.dep (dp2 := q) (by omega)).add (x := 25) (y := -1) (z := -1) (v := 0) (by omega)
  obtain ⟨h1, h2, h3, h4, ⟨h6, h7, h8⟩, h9, h10⟩ := h2
  unfold endX
  exact ⟨(h1.x (by decide)).x (by decide), (h2.far (fun i hi => by rw [zu_far _ _ _ (by omega), zu_far _ _ _ (by omega)])), h3, h4, ⟨by rw [zu_far _ _ _ (by decide), zu_far _ _ _ (by decide)]; exact h6, by rw [zu_far _ _ _ (by decide), zu_far _ _ _ (by decide)]; exact h7, h8⟩, h9, h10⟩
theorem blk_in {b0 e0 i0 j0 : Nat} (hx : ∀ r l, 1 ≤ r → r ≤ 5 → b0 ≤ l → l < e0 → X' (56 + r) l = X (56 + r) l) (hc : ∀ j, 236 + 9 * i0 ≤ j → j < 236 + 9 * j0 → c' j = c j) : ∀ F d b e i j, b0 ≤ b → e ≤ e0 → i0 ≤ i → j ≤ j0 → Blk X 56 c N S F d b e i j → Blk X' 56 c' N S F d b e i j
  | 0, d, b, e, i, j, _, _, _, _, hb => hb
  | F + 1, d, b, e, i, j, h1', h2', h3', h4', hb => by
    rcases hb with hb | ⟨h1, h2, h3, h4⟩ | ⟨d', h1, x, k, h2, h3, h4, h5, h6, h7, h8⟩
    · exact Or.inl hb
    · refine Or.inr (Or.inl ⟨h1, h2, ?_, blk_in hx hc F d _ _ _ _ (by omega) h2' (by omega) h4' h4⟩)
      unfold Sim
      rw [hx 1 b (by decide) (by decide) h1' (by omega), hx 2 b (by decide) (by decide) h1' (by omega), hx 3 b (by decide) (by decide) h1' (by omega), hx 5 b (by decide) (by decide) h1' (by omega), hc _ (by omega) (by omega), hc _ (by omega) (by omega), hc _ (by omega) (by omega), hc _ (by omega) (by omega)]
      exact h3
    · refine Or.inr (Or.inr ⟨d', h1, x, k, h2, h3, h4, h5, ?_, blk_in hx hc F d' _ _ _ _ (by omega) (by omega) (by omega) (by omega) h7, blk_in hx hc F d _ _ _ _ (by omega) h2' (by omega) h4' h8⟩)
      unfold Hea
      rw [hx 1 b (by decide) (by decide) h1' (by omega), hx 2 b (by decide) (by decide) h1' (by omega), hx 3 b (by decide) (by decide) h1' (by omega), hx 4 b (by decide) (by decide) h1' (by omega), hx 5 b (by decide) (by decide) h1' (by omega), hx 1 x (by decide) (by decide) (by omega) (by omega), hx 5 x (by decide) (by decide) (by omega) (by omega), hc _ (by omega) (by omega), hc _ (by omega) (by omega), hc _ (by omega) (by omega), hc _ (by omega) (by omega), hc _ (by omega) (by omega), hc _ (by omega) (by omega)]
      exact h6
set_option maxHeartbeats 8000000 in
theorem step_loop (hL : L ≤ 300) : ∀ F, (∀ k st ln dp f p X JX Y JY, L + 1 ≤ p + F → CR L p N S st ln dp X JX Y JY → dp ≤ 3 → X 13 5 ≠ 0 → k + 1 ≤ p → (dp = 0 ∨ X 13 9 ≠ 25) → SO L p N S k st ln dp f X JX Y JY) ∧ ∀ k st ln q f p X JX Y JY, L + 1 ≤ p + F → CR L p N S st ln (q + 1) X JX Y JY → q + 1 ≤ 3 → X 13 5 ≠ 0 → k + 1 ≤ p → LO L p N S k st ln q f X JX Y JY := by
  intro F
  induction F with
  | zero =>
    refine ⟨fun k st ln dp f p X JX Y JY hf h _ _ _ _ => ?_, fun k st ln q f p X JX Y JY hf h _ _ _ => ?_⟩
    · have := h.rs.1.2.2.2.1
      omega
    · have := h.rs.1.2.2.2.1
      omega
  | succ F ih =>
    obtain ⟨_, ihL⟩ := ih
    have step : ∀ k st ln dp f p X JX Y JY, L + 1 ≤ p + (F + 1) → CR L p N S st ln dp X JX Y JY → dp ≤ 3 → X 13 5 ≠ 0 → k + 1 ≤ p → (dp = 0 ∨ X 13 9 ≠ 25) → SO L p N S k st ln dp f X JX Y JY := by
      intro k st ln dp f p X JX Y JY hf h hdp h5 hkp hend
      have hpL := h.rs.1.2.2.2.1
      have hk3 : k ≤ 300 := by omega
      by_cases k25 : X 13 9 = 25
      · have d0 := hend.resolve_right (fun q => q k25)
        subst d0
        exact SO.end0 h h5 k25 hk3
      obtain ⟨X1, JX1, Y1, JY1, hx1, gy1, o⟩ := r_line (f := f) h hdp
      rcases o with ⟨⟨dp', f', cl⟩, rl, hB⟩ | ⟨hst, cl, ⟨kind, rl⟩, ⟨p1, hp1, h1⟩, sb, kp⟩ | ⟨hd3, hst, cl, ⟨kind, rl⟩, ⟨p1, hp1, h1⟩, hb, kp⟩
      · -- a fault in the line
        refine ⟨X1, JX1, Y1, JY1, hx1, gy1, fun n m g d hd => ?_, .inl ⟨hB, dp', f', fun n m g d a x ha => ?_⟩⟩
        · obtain ⟨d, rfl⟩ : ∃ d', d = d' + 20 := ⟨d - 20, by omega⟩
          exact rl n m g d
        · simp only [e_X0_readAll_9, e_X0_readAll_10, e_X0_readAll_13, e_X0_readAll_16, e_X0_readAll_17, e_X0_readAll_20, e_X0_readAll_23, e_X0_readAll_26, e_X0_readAll_27, e_X0_readAll_30, e_X0_readAll_33, e_X0_readAll_35, e_X0_readAll_38, e_X0_readAll_39, e_X0_readAll_42, e_X0_readAll_45, e_X0_readAll_46, e_X0_readAll_47, e_X0_readAll_50, e_X0_readAll_53, e_X0_readAll_56, e_X0_readAll_57, e_X0_readAll_58, e_X0_readAll_61, e_X0_readAll_62, e_X0_readAll_65, e_X0_readAll_68, e_X0_readAll_71, e_X0_readAll_72, e_X0_readAll_73, e_X0_readAll_76, e_X0_readAll_79, e_X0_readAll_80, e_X0_readAll_83, e_X0_readAll_86, e_X0_readAll_87, e_X0_readAll_90, e_X0_readAll_93, e_X0_readAll_94, e_X0_readAll_95, e_X0_readAll_98, e_X0_readAll_99, e_X0_readAll_102, e_X0_readAll_103, c_13, c_ct ha, g_ct_0 ha, g_13_9, k300 hk3, d_atEnd, h5, decide_false, bI, Bool.false_eq_true, k25, cl _ _ _ _ _ ha, zfit_b0, Option.bind_some, Option.isSome_some, Option.toList, List.cons_append, List.nil_append, zclr_i, zclr_r, zclr_n, zfit_i, zfit_l, and_self, if_true, if_false]
      · -- a step without a block
        by_cases cs : X1 13 5 = 4 ∧ X1 13 7 = 59
        · obtain ⟨X2, JX2, Y2, JY2, p2, b1, b2, b3, b4, b45, b5, b6⟩ := r_adv h1.rs
          have h2 := (h1.move b3 b5 b6.yg).cw (j := 236 + 9 * st + 8) (v := nI (st + 1))
          have nb2 : nb (zu Y2 148 (2024 + (236 + 9 * st + 8)) (nI (st + 1))) = fu (nb Y1) (236 + 9 * st + 8) (nI (st + 1)) := by rw [nb_zu, b6.yg.blk]
          have xr : ∀ r l, 1 ≤ r → r ≤ 5 → X2 (56 + r) l = X1 (56 + r) l := fun r l _ _ => by rw [b5.1 _ (by omega)]
          refine ⟨X2, JX2, zu Y2 148 (2024 + (236 + 9 * st + 8)) (nI (st + 1)), JY2, hx1.trans b5.hx, (gy1.trans b6.yg.gy).cc, fun n m g d hd => ?_, .inr ⟨k + 1, f, p2, st + 1, ln + 1, fun n m g d a x ha => ⟨some (.int 1), ?_⟩, fun _ _ => rfl, h2, by omega, fun q => ?_, by omega, by omega, by omega, ?_, .inl ⟨rfl, rfl, ?_⟩⟩⟩
          · obtain ⟨d, rfl⟩ : ∃ d', d = d' + 20 := ⟨d - 20, by omega⟩
            rw [rl n m g d]
            simp only [e_X12_readStep_132, e_X12_readStep_133, e_X12_readStep_134, e_X12_readStep_136, e_X12_readStep_139, e_X12_readStep_142, e_X12_readStep_143, e_X12_readStep_146, e_X12_readStep_147, e_X12_readStep_150, e_X12_readStep_153, e_X12_readStep_154, e_X12_readStep_157, e_X12_readStep_160, e_X12_readStep_161, e_X12_readStep_162, e_X12_readStep_163, e_X12_readStep_164, e_X12_readStep_167, e_X12_readStep_170, e_X12_readStep_171, e_X12_readStep_174, e_X12_readStep_175, e_X12_readStep_176, e_X12_readStep_179, e_X12_readStep_182, e_X12_readStep_183, e_X12_readStep_184, e_X12_readStep_186, e_X12_readStep_189, e_X12_readStep_192, e_X12_readStep_193, e_X12_readStep_196, e_X12_readStep_198, e_X12_readStep_200, e_X12_readStep_201, e_X12_readStep_202, e_X12_readStep_205, e_X12_readStep_206, c_143, g_143_20, g_143_26, v_isSign, h1.rs.sign, decide_eq_true cs, bI, if_true, v_must_t h1.rs.bad b2, (h1.move b3 b5 b6.yg).ys, show nI (2024 + (236 + 9 * st)) + (8 : Int32) = nI (2024 + (236 + 9 * st + 8)) from eW st 8, nI_neg (show 2024 + (236 + 9 * st + 8) < 2 ^ 31 by omega), nI_clamp (show 2024 + (236 + 9 * st + 8) < 2 ^ 31 by omega), k_148 (show 2024 + (236 + 9 * st + 8) < 2530 by omega), l_148 (show 2024 + (236 + 9 * st + 8) < 2530 by omega), q_148, Option.bind_some, Option.isSome_some, Option.toList, List.cons_append, List.nil_append, zclr_i, zclr_r, zclr_n, zfit_i, zfit_l, and_self, if_true, if_false]
          · rw [e_X0_readAll_9]
            simp only [e_X0_readAll_10, e_X0_readAll_13, e_X0_readAll_16, e_X0_readAll_17, e_X0_readAll_20, e_X0_readAll_23, e_X0_readAll_26, e_X0_readAll_27, e_X0_readAll_30, e_X0_readAll_33, e_X0_readAll_35, e_X0_readAll_38, e_X0_readAll_39, e_X0_readAll_42, e_X0_readAll_45, e_X0_readAll_46, e_X0_readAll_47, e_X0_readAll_50, e_X0_readAll_53, e_X0_readAll_56, e_X0_readAll_57, e_X0_readAll_58, e_X0_readAll_61, e_X0_readAll_62, e_X0_readAll_65, e_X0_readAll_68, e_X0_readAll_71, e_X0_readAll_72, e_X0_readAll_73, e_X0_readAll_76, c_13, c_ct ha, g_ct_0 ha, g_13_9, k300 hk3, d_atEnd, h5, decide_false, bI, Bool.false_eq_true, k25, cl _ _ _ _ _ ha, d_stop_yes cs b1, show ((1 : Int32) = 0) = False by decide, nI_1, Option.bind_some, Option.isSome_some, Option.toList, List.cons_append, List.nil_append, zclr_i, zclr_r, zclr_n, zfit_i, zfit_l, and_self, if_true, if_false]
          · have := b45 q
            omega
          · refine ⟨fun r l h1' h5' hl => by rw [xr r l h1' h5', kp.1 r l h1' h5' hl], fun j hj1 hj2 => ?_⟩
            rw [nb2, fu_ne _ _ (by omega), kp.2 j hj1 hj2]
          · rw [nb2]
            have s2 : SimB X2 56 (nb Y1) N ln st := by
              unfold SimB
              rw [b5.1 (56 + 1) (by decide), b5.1 (56 + 2) (by decide), b5.1 (56 + 3) (by decide), b5.1 (56 + 5) (by decide)]
              exact sb
            exact s2.sim (by rw [fu_eq]) (fun j hj => fu_ne _ _ hj)
        · have hB := h1.rs.here
          refine ⟨dHere X1, JX1, zu (vFail (kH X1) (X1 13 4) Y1) 148 (2024 + (236 + 9 * st + 8)) (vFail (kH X1) (X1 13 4) Y1 143 26), JY1, hx1.trans FX.here.hx, (gy1.trans (YG.fail _ _).gy).cc, fun n m g d hd => ?_, .inl ⟨hB.cc, dp, f, fun n m g d a x ha => ?_⟩⟩
          · obtain ⟨d, rfl⟩ : ∃ d', d = d' + 20 := ⟨d - 20, by omega⟩
            rw [rl n m g d]
            simp only [e_X12_readStep_132, e_X12_readStep_133, e_X12_readStep_134, e_X12_readStep_136, e_X12_readStep_139, e_X12_readStep_142, e_X12_readStep_143, e_X12_readStep_146, e_X12_readStep_147, e_X12_readStep_150, e_X12_readStep_153, e_X12_readStep_154, e_X12_readStep_157, e_X12_readStep_160, e_X12_readStep_161, e_X12_readStep_162, e_X12_readStep_163, e_X12_readStep_164, e_X12_readStep_167, e_X12_readStep_170, e_X12_readStep_171, e_X12_readStep_174, e_X12_readStep_175, e_X12_readStep_176, e_X12_readStep_179, e_X12_readStep_182, e_X12_readStep_183, e_X12_readStep_184, e_X12_readStep_186, e_X12_readStep_189, e_X12_readStep_192, e_X12_readStep_193, e_X12_readStep_196, e_X12_readStep_198, e_X12_readStep_200, e_X12_readStep_201, e_X12_readStep_202, e_X12_readStep_205, e_X12_readStep_206, c_143, g_143_20, g_143_26, v_isSign, h1.rs.sign, decide_eq_false cs, bI, Bool.false_eq_true, v_must_f h1.rs, show nI (2024 + (236 + 9 * st)) + (8 : Int32) = nI (2024 + (236 + 9 * st + 8)) from eW st 8, nI_neg (show 2024 + (236 + 9 * st + 8) < 2 ^ 31 by omega), nI_clamp (show 2024 + (236 + 9 * st + 8) < 2 ^ 31 by omega), k_148 (show 2024 + (236 + 9 * st + 8) < 2530 by omega), l_148 (show 2024 + (236 + 9 * st + 8) < 2530 by omega), q_148, Option.bind_some, Option.isSome_some, Option.toList, List.cons_append, List.nil_append, zclr_i, zclr_r, zclr_n, zfit_i, zfit_l, and_self, if_true, if_false]
          · simp only [e_X0_readAll_9, e_X0_readAll_10, e_X0_readAll_13, e_X0_readAll_16, e_X0_readAll_17, e_X0_readAll_20, e_X0_readAll_23, e_X0_readAll_26, e_X0_readAll_27, e_X0_readAll_30, e_X0_readAll_33, e_X0_readAll_35, e_X0_readAll_38, e_X0_readAll_39, e_X0_readAll_42, e_X0_readAll_45, e_X0_readAll_46, e_X0_readAll_47, e_X0_readAll_50, e_X0_readAll_53, e_X0_readAll_56, e_X0_readAll_57, e_X0_readAll_58, e_X0_readAll_61, e_X0_readAll_62, e_X0_readAll_65, e_X0_readAll_68, e_X0_readAll_71, e_X0_readAll_72, e_X0_readAll_73, e_X0_readAll_76, e_X0_readAll_79, e_X0_readAll_80, e_X0_readAll_83, e_X0_readAll_86, e_X0_readAll_87, e_X0_readAll_90, e_X0_readAll_93, e_X0_readAll_94, e_X0_readAll_95, e_X0_readAll_98, e_X0_readAll_99, e_X0_readAll_102, e_X0_readAll_103, c_13, c_ct ha, g_ct_0 ha, g_13_9, k300 hk3, d_atEnd, h5, decide_false, bI, Bool.false_eq_true, k25, cl _ _ _ _ _ ha, d_stop_no cs, show ((1 : Int32) = 0) = False by decide, zfit_b0, Option.bind_some, Option.isSome_some, Option.toList, List.cons_append, List.nil_append, zclr_i, zclr_r, zclr_n, zfit_i, zfit_l, and_self, if_true, if_false]
      · -- a step with a block
        by_cases cs : X1 13 5 = 4 ∧ X1 13 7 = 59
        rotate_left
        · have hB := h1.rs.here
          refine ⟨dHere X1, JX1, zu (vFail (kH X1) (X1 13 4) Y1) 148 (2024 + (236 + 9 * st + 8)) (vFail (kH X1) (X1 13 4) Y1 143 26), JY1, hx1.trans FX.here.hx, (gy1.trans (YG.fail _ _).gy).cc, fun n m g d hd => ?_, .inl ⟨hB.cc, dp + 1, upd f dp (nI ln), fun n m g d a x ha => ?_⟩⟩
          · obtain ⟨d, rfl⟩ : ∃ d', d = d' + 20 := ⟨d - 20, by omega⟩
            rw [rl n m g d]
            simp only [e_X12_readStep_132, e_X12_readStep_133, e_X12_readStep_134, e_X12_readStep_136, e_X12_readStep_139, e_X12_readStep_142, e_X12_readStep_143, e_X12_readStep_146, e_X12_readStep_147, e_X12_readStep_150, e_X12_readStep_153, e_X12_readStep_154, e_X12_readStep_157, e_X12_readStep_160, e_X12_readStep_161, e_X12_readStep_162, e_X12_readStep_163, e_X12_readStep_164, e_X12_readStep_167, e_X12_readStep_170, e_X12_readStep_171, e_X12_readStep_174, e_X12_readStep_175, e_X12_readStep_176, e_X12_readStep_179, e_X12_readStep_182, e_X12_readStep_183, e_X12_readStep_184, e_X12_readStep_186, e_X12_readStep_189, e_X12_readStep_192, e_X12_readStep_193, e_X12_readStep_196, e_X12_readStep_198, e_X12_readStep_200, e_X12_readStep_201, e_X12_readStep_202, e_X12_readStep_205, e_X12_readStep_206, c_143, g_143_12, g_143_20, g_143_26, v_isSign, v_isEnd, h1.rs.sign, decide_eq_false cs, bI, Bool.false_eq_true, v_must_f h1.rs, hB.ne, v_must_b hB, show ((1 : Int32) = 0) = False by decide, show nI (2024 + (236 + 9 * st)) + (8 : Int32) = nI (2024 + (236 + 9 * st + 8)) from eW st 8, nI_neg (show 2024 + (236 + 9 * st + 8) < 2 ^ 31 by omega), nI_clamp (show 2024 + (236 + 9 * st + 8) < 2 ^ 31 by omega), k_148 (show 2024 + (236 + 9 * st + 8) < 2530 by omega), l_148 (show 2024 + (236 + 9 * st + 8) < 2530 by omega), q_148, Option.bind_some, Option.isSome_some, Option.toList, List.cons_append, List.nil_append, zclr_i, zclr_r, zclr_n, zfit_i, zfit_l, and_self, if_true, if_false]
          · simp only [e_X0_readAll_9, e_X0_readAll_10, e_X0_readAll_13, e_X0_readAll_16, e_X0_readAll_17, e_X0_readAll_20, e_X0_readAll_23, e_X0_readAll_26, e_X0_readAll_27, e_X0_readAll_30, e_X0_readAll_33, e_X0_readAll_35, e_X0_readAll_38, e_X0_readAll_39, e_X0_readAll_42, e_X0_readAll_45, e_X0_readAll_46, e_X0_readAll_47, e_X0_readAll_50, e_X0_readAll_53, e_X0_readAll_56, e_X0_readAll_57, e_X0_readAll_58, e_X0_readAll_61, e_X0_readAll_62, e_X0_readAll_65, e_X0_readAll_68, e_X0_readAll_71, e_X0_readAll_72, e_X0_readAll_73, e_X0_readAll_76, e_X0_readAll_79, e_X0_readAll_80, e_X0_readAll_83, e_X0_readAll_86, e_X0_readAll_87, e_X0_readAll_90, e_X0_readAll_93, e_X0_readAll_94, e_X0_readAll_95, e_X0_readAll_98, e_X0_readAll_99, e_X0_readAll_102, e_X0_readAll_103, c_13, c_ct ha, g_ct_0 ha, g_13_9, k300 hk3, d_atEnd, h5, decide_false, bI, Bool.false_eq_true, k25, cl _ _ _ _ _ ha, d_stop_no cs, show ((1 : Int32) = 0) = False by decide, zfit_b0, Option.bind_some, Option.isSome_some, Option.toList, List.cons_append, List.nil_append, zclr_i, zclr_r, zclr_n, zfit_i, zfit_l, and_self, if_true, if_false]
        obtain ⟨X2, JX2, Y2, JY2, p2, b1, b2, b3, b4, b45, b5, b6⟩ := r_adv h1.rs
        have h2 := h1.move b3 b5 b6.yg
        have hlo : LO L p2 N S (k + 1) (st + 1) (ln + 1) dp (upd f dp (nI ln)) X2 JX2 Y2 JY2 := by
          by_cases c0 : X2 13 5 = 0
          · exact LO.end hL h2 (by omega) c0 (by omega)
          · have := b45 c0
            exact ihL (k + 1) (st + 1) (ln + 1) dp _ p2 X2 JX2 Y2 JY2 (by omega) h2 (by omega) c0 (by omega)
        have he1 : HE k dp f X JX (k + 1) (dp + 1) (upd f dp (nI ln)) X2 JX2 := fun n m g d a x ha => ⟨some (.int 1), by
          rw [e_X0_readAll_9]
          simp only [e_X0_readAll_10, e_X0_readAll_13, e_X0_readAll_16, e_X0_readAll_17, e_X0_readAll_20, e_X0_readAll_23, e_X0_readAll_26, e_X0_readAll_27, e_X0_readAll_30, e_X0_readAll_33, e_X0_readAll_35, e_X0_readAll_38, e_X0_readAll_39, e_X0_readAll_42, e_X0_readAll_45, e_X0_readAll_46, e_X0_readAll_47, e_X0_readAll_50, e_X0_readAll_53, e_X0_readAll_56, e_X0_readAll_57, e_X0_readAll_58, e_X0_readAll_61, e_X0_readAll_62, e_X0_readAll_65, e_X0_readAll_68, e_X0_readAll_71, e_X0_readAll_72, e_X0_readAll_73, e_X0_readAll_76, c_13, c_ct ha, g_ct_0 ha, g_13_9, k300 hk3, d_atEnd, h5, decide_false, bI, Bool.false_eq_true, k25, cl _ _ _ _ _ ha, d_stop_yes cs b1, show ((1 : Int32) = 0) = False by decide, nI_1, Option.bind_some, Option.isSome_some, Option.toList, List.cons_append, List.nil_append, zclr_i, zclr_r, zclr_n, zfit_i, zfit_l, and_self, if_true, if_false]⟩
        have rl2 : ∀ (n m : Nat) (g : Nat → zC) (d : Nat), 24 ≤ d + dp → zcall d 309 [.ref 143, .int (nI dp)] (mk n m g Y JY) = zexec d 309 142 [some (.ref 143), some (.int (nI dp)), some (.int kind), some (.int 1), some (.int (nI (2024 + (236 + 9 * st))))] [] (mk n m g Y2 JY2) := fun n m g d hd => by
          obtain ⟨d, rfl⟩ : ∃ d', d = d' + 20 := ⟨d - 20, by omega⟩
          rw [rl n m g d]
          simp only [e_X12_readStep_132, e_X12_readStep_133, e_X12_readStep_134, e_X12_readStep_136, e_X12_readStep_139, c_143, v_isSign, h1.rs.sign, decide_eq_true cs, bI, if_true, v_must_t h1.rs.bad b2, Option.bind_some, Option.isSome_some, Option.toList, List.cons_append, List.nil_append, zclr_i, zclr_r, zclr_n, zfit_i, zfit_l, and_self, if_true, if_false]
        obtain ⟨X3, JX3, Y3, JY3, hx3, gy3, r3, o3⟩ := hlo
        have hxx := (hx1.trans b5.hx).trans hx3
        have gyy := (gy1.trans b6.yg.gy).trans gy3
        rcases o3 with ⟨hB, hF⟩ | ⟨k3, f3, p3, st3, ln3, e3, k9, ff, h3, hp3, hk3', hs3, hl3, kp3, bl⟩
        · -- a fault in the block
          refine ⟨X3, JX3, zu Y3 148 (2024 + (236 + 9 * st + 8)) (Y3 143 26), JY3, hxx, gyy.cc, fun n m g d hd => ?_, .inl ⟨hB.cc, he1.fail hF⟩⟩
          rw [rl2 n m g d hd, r3 n m g d kind _ hd]
          obtain ⟨d, rfl⟩ : ∃ d', d = d' + 20 := ⟨d - 20, by omega⟩
          simp only [e_X12_readStep_170, e_X12_readStep_171, e_X12_readStep_174, e_X12_readStep_175, e_X12_readStep_176, e_X12_readStep_179, e_X12_readStep_182, e_X12_readStep_183, e_X12_readStep_184, e_X12_readStep_186, e_X12_readStep_189, e_X12_readStep_192, e_X12_readStep_193, e_X12_readStep_196, e_X12_readStep_198, e_X12_readStep_200, e_X12_readStep_201, e_X12_readStep_202, e_X12_readStep_205, e_X12_readStep_206, c_143, g_143_20, g_143_26, v_isSign, v_isEnd, v_must_b hB, show ((1 : Int32) = 0) = False by decide, show nI (2024 + (236 + 9 * st)) + (8 : Int32) = nI (2024 + (236 + 9 * st + 8)) from eW st 8, nI_neg (show 2024 + (236 + 9 * st + 8) < 2 ^ 31 by omega), nI_clamp (show 2024 + (236 + 9 * st + 8) < 2 ^ 31 by omega), k_148 (show 2024 + (236 + 9 * st + 8) < 2530 by omega), l_148 (show 2024 + (236 + 9 * st + 8) < 2530 by omega), q_148, Option.bind_some, Option.isSome_some, Option.toList, List.cons_append, List.nil_append, zclr_i, zclr_r, zclr_n, zfit_i, zfit_l, and_self, if_true, if_false]
        · -- its end
          have h3L := h3.rs.1.2.2.2.1
          have h35 : X3 13 5 ≠ 0 := by rw [h3.rs.kword (by rw [k9]; decide)]; decide
          have hln3 := h3.hln
          have h30 := h3.h30
          have fdp : f3 dp = nI ln := by rw [ff dp (by omega)]; simp [upd]
          -- the class adds before it reads on
          have hE := h3.endl (b := ln)
          obtain ⟨X4, JX4, Y4, JY4, p4, c1, c2, c3, c4, c45, c5, c6⟩ := r_adv hE.rs
          have h4 := hE.move c3 c5 c6.yg
          have el : ∀ (n m : Nat) (g : Nat → zC) (d a : Nat), 158 ≤ a → zcall (d + 24) 2 [.ref a] (mk n m (GC g a (dp + 1) f3) X3 JX3) = some (some (.int 1), mk n m (GC g a dp f3) X4 JX4) := fun n m g d a ha => by
            have sa := s_add (n := n) (m := m) (g := GC g a dp f3) (J := JX3) (x := 25) (y := -1) (z := -1) (w := 0) s56 h3.xl (show ln3 < 60 by omega) (d + 23)
            have l1 : addX X3 ln3 25 (-1) (-1) 0 56 2 = nI (ln3 + 1) := by rw [addX_0, if_pos rfl]
            have sj := s_join (n := n) (m := m) (g := GC g a dp f3) (I := addX X3 ln3 25 (-1) (-1) 0) (J := JX3) s56 (show ln < 60 by omega) (show ln3 < 60 by omega) (d + 23)
            have sa' : zcall (d + 23) 73 [.ref 56, .int 25, .int (-1), .int (-1), .int 0] (mk n m (GC g a dp f3) X3 JX3) = some (none, mk n m (GC g a dp f3) (addX X3 ln3 25 (-1) (-1) 0) JX3) := sa
            have sj' : zcall (d + 23) 74 [.ref 56, .int (nI ln), .int (nI ln3)] (mk n m (GC g a dp f3) (addX X3 ln3 25 (-1) (-1) 0) JX3) = some (none, mk n m (GC g a dp f3) (endX X3 ln3 ln) JX3) := sj
            rw [m_X0_endLine]
            simp only [e_X0_endLine_0, e_X0_endLine_1, e_X0_endLine_4, e_X0_endLine_7, e_X0_endLine_8, e_X0_endLine_11, e_X0_endLine_14, e_X0_endLine_15, e_X0_endLine_16, e_X0_endLine_17, e_X0_endLine_20, e_X0_endLine_21, e_X0_endLine_22, e_X0_endLine_25, e_X0_endLine_26, e_X0_endLine_29, e_X0_endLine_31, e_X0_endLine_32, e_X0_endLine_33, e_X0_endLine_34, e_X0_endLine_37, e_X0_endLine_38, e_X0_endLine_41, e_X0_endLine_42, e_X0_endLine_45, e_X0_endLine_46, e_X0_endLine_49, e_X0_endLine_50, e_X0_endLine_51, e_X0_endLine_54, e_X0_endLine_57, e_X0_endLine_58, e_X0_endLine_59, e_X0_endLine_62, e_X0_endLine_63, e_X0_endLine_66, e_X0_endLine_69, e_X0_endLine_70, c_13, c_S0 s56, g_ct_0 ha, g_ct_2 ha, g_ct_3 ha, g_ct_4 ha, eq_true (show (0 : Int32) < nI (dp + 1) from Int32.not_le.mp (nI_ge (a := 0) (b := dp + 1) (by omega) (by omega))), show nI (dp + 1) - 1 = nI dp from nI_sub1 (by omega), p_ct_4 ha, sa', l_co ha hd3, fdp, g_S0_2 s56, l1, show nI (ln3 + 1) - 1 = nI ln3 from nI_sub1 (by omega), sj', c1, zfit_b1, Option.bind_some, Option.isSome_some, Option.toList, List.cons_append, List.nil_append, zclr_i, zclr_r, zclr_n, zfit_i, zfit_l, and_self, if_true, if_false]
          by_cases ct : X4 13 5 = 4 ∧ X4 13 7 = 59
          · obtain ⟨X5, JX5, Y5, JY5, p5, i1, i2, i3, i4, i45, i5, i6⟩ := r_adv h4.rs
            have h5' := (h4.move i3 i5 i6.yg).cw (j := 236 + 9 * st + 8) (v := nI st3)
            have nb5 : nb (zu Y5 148 (2024 + (236 + 9 * st + 8)) (nI st3)) = fu (nb Y3) (236 + 9 * st + 8) (nI st3) := by rw [nb_zu, i6.yg.blk, c6.yg.blk]
            have xr : ∀ r, 1 ≤ r → r ≤ 5 → X5 (56 + r) = endX X3 ln3 ln (56 + r) := fun r _ _ => by rw [i5.1 _ (by omega), c5.1 _ (by omega)]
            have he2 : HE k3 (dp + 1) f3 X3 JX3 (k3 + 1) dp f3 X5 JX5 := fun n m g d a x ha => ⟨some (.int 1), by
              rw [e_X0_readAll_9]
              simp only [e_X0_readAll_10, e_X0_readAll_13, e_X0_readAll_16, e_X0_readAll_17, e_X0_readAll_20, e_X0_readAll_23, e_X0_readAll_26, e_X0_readAll_27, e_X0_readAll_30, e_X0_readAll_33, e_X0_readAll_35, e_X0_readAll_38, e_X0_readAll_39, e_X0_readAll_42, e_X0_readAll_45, e_X0_readAll_46, e_X0_readAll_47, e_X0_readAll_50, e_X0_readAll_53, e_X0_readAll_56, e_X0_readAll_57, e_X0_readAll_58, e_X0_readAll_61, e_X0_readAll_62, e_X0_readAll_65, e_X0_readAll_68, e_X0_readAll_71, e_X0_readAll_72, e_X0_readAll_73, e_X0_readAll_76, c_13, c_ct ha, g_ct_0 ha, g_13_9, k300 (show k3 ≤ 300 by omega), d_atEnd, h35, decide_false, bI, Bool.false_eq_true, k9, el _ _ _ _ _ ha, d_stop_yes ct i1, show ((1 : Int32) = 0) = False by decide, nI_1, Option.bind_some, Option.isSome_some, Option.toList, List.cons_append, List.nil_append, zclr_i, zclr_r, zclr_n, zfit_i, zfit_l, and_self, if_true, if_false]⟩
            -- what stays of lines and steps
            have kpA : KP (ln + 1) (st + 1) X2 (nb Y2) X3 (nb Y3) := kp3
            have kpE : ∀ l r, 1 ≤ r → r ≤ 5 → l < ln3 → l ≠ ln → X5 (56 + r) l = X3 (56 + r) l := fun l r r1 r5 hl hne => by
              rw [xr r r1 r5]
              by_cases e : r = 5
              · subst e
                rw [endX_5, if_neg (by omega), if_neg hne]
              · exact endX_r r1 (by omega) (by omega)
            have kpI : KP ln st X (nb Y) X5 (fu (nb Y3) (236 + 9 * st + 8) (nI st3)) := by
              refine ⟨fun r l r1 r5 hl => ?_, fun j j1 j2 => ?_⟩
              · rw [kpE l r r1 r5 (by omega) (by omega), kp3.1 r l r1 r5 (by omega), b5.1 _ (by omega), kp.1 r l r1 r5 hl]
              · rw [fu_ne _ _ (by omega), kp3.2 j j1 (by omega), b6.yg.blk, kp.2 j j1 j2]
            refine ⟨X5, JX5, zu Y5 148 (2024 + (236 + 9 * st + 8)) (nI st3), JY5, ((hxx.endl).trans c5.hx).trans i5.hx, ((gyy.trans c6.yg.gy).trans i6.yg.gy).cc, fun n m g d hd => ?_, .inr ⟨k3 + 1, f3, p5, st3, ln3 + 1, he1.trans (e3.trans he2), fun i hi => ?_, h5', by omega, fun q => ?_, by omega, by omega, by omega, by rw [nb5]; exact kpI, .inr ⟨hd3, ln3, by omega, rfl, by omega, ?_, fun F' hF' => ?_⟩⟩⟩
            · rw [rl2 n m g d hd, r3 n m g d kind _ hd]
              obtain ⟨d, rfl⟩ : ∃ d', d = d' + 20 := ⟨d - 20, by omega⟩
              simp only [e_X12_readStep_170, e_X12_readStep_171, e_X12_readStep_174, e_X12_readStep_175, e_X12_readStep_176, e_X12_readStep_179, e_X12_readStep_182, e_X12_readStep_183, e_X12_readStep_184, e_X12_readStep_186, e_X12_readStep_189, e_X12_readStep_192, e_X12_readStep_193, e_X12_readStep_196, e_X12_readStep_198, e_X12_readStep_200, e_X12_readStep_201, e_X12_readStep_202, e_X12_readStep_205, e_X12_readStep_206, c_143, g_143_20, g_143_26, v_isSign, v_isEnd, h3.rs.k25, k9, decide_true, v_must_t h3.rs.bad c2, h4.rs.sign, decide_eq_true ct, bI, if_true, v_must_t h4.rs.bad i2, (h4.move i3 i5 i6.yg).ys, show ((1 : Int32) = 0) = False by decide, show nI (2024 + (236 + 9 * st)) + (8 : Int32) = nI (2024 + (236 + 9 * st + 8)) from eW st 8, nI_neg (show 2024 + (236 + 9 * st + 8) < 2 ^ 31 by omega), nI_clamp (show 2024 + (236 + 9 * st + 8) < 2 ^ 31 by omega), k_148 (show 2024 + (236 + 9 * st + 8) < 2530 by omega), l_148 (show 2024 + (236 + 9 * st + 8) < 2530 by omega), q_148, Option.bind_some, Option.isSome_some, Option.toList, List.cons_append, List.nil_append, zclr_i, zclr_r, zclr_n, zfit_i, zfit_l, and_self, if_true, if_false]
            · rw [ff i (by omega)]
              simp only [upd]
              rw [if_neg (by omega)]
            · have := i45 q
              omega
            · -- the head
              have hbX : HeaB X5 56 (fu (nb Y3) (236 + 9 * st + 8) (nI st3)) N S ln st := by
                have x1 : ∀ r, 1 ≤ r → r ≤ 4 → X5 (56 + r) ln = X1 (56 + r) ln := fun r r1 r4 => by
                  rw [xr r r1 (by omega), endX_r r1 r4 (by omega), kp3.1 r ln r1 (by omega) (by omega), b5.1 _ (by omega)]
                have cc : ∀ j, 236 + 9 * st ≤ j → j < 236 + 9 * st + 8 → fu (nb Y3) (236 + 9 * st + 8) (nI st3) j = nb Y1 j := fun j j1 j2 => by
                  rw [fu_ne _ _ (by omega), kp3.2 j (by omega) (by omega), b6.yg.blk]
                unfold HeaB
                rw [x1 1 (by decide) (by decide), x1 2 (by decide) (by decide), x1 3 (by decide) (by decide), x1 4 (by decide) (by decide), cc _ (by omega) (by omega), cc _ (by omega) (by omega), cc _ (by omega) (by omega), cc _ (by omega) (by omega), cc _ (by omega) (by omega)]
                exact hb
              rw [nb5]
              refine ⟨?_, ?_, ?_, by rw [fu_eq], hbX⟩
              · rw [xr 5 (by decide) (by decide), endX_5, if_neg (by omega), if_pos rfl]
              · rw [xr 1 (by decide) (by decide)]
                unfold endX
                rw [zu_far _ _ _ (by decide), zu_far _ _ _ (by decide), addX_1, if_pos rfl]
              · rw [xr 5 (by decide) (by decide), endX_5, if_pos rfl]
            · -- what is in it
              rw [nb5]
              have hbl := bl F' (by omega)
              refine blk_in ?_ ?_ F' _ _ _ _ _ (Nat.le_refl _) (Nat.le_refl _) (Nat.le_refl _) (Nat.le_refl _) hbl
              · exact fun r l r1 r5 h1 h2 => kpE l r r1 r5 h2 (by omega)
              · exact fun j j1 j2 => fu_ne _ _ (by omega)
          · have hB := h4.rs.here
            refine ⟨dHere X4, JX4, zu (vFail (kH X4) (X4 13 4) Y4) 148 (2024 + (236 + 9 * st + 8)) (vFail (kH X4) (X4 13 4) Y4 143 26), JY4, ((hxx.endl).trans c5.hx).trans FX.here.hx, ((gyy.trans c6.yg.gy).trans (YG.fail _ _).gy).cc, fun n m g d hd => ?_, .inl ⟨hB.cc, (he1.trans e3).fail ⟨dp, f3, fun n m g d a x ha => ?_⟩⟩⟩
            · rw [rl2 n m g d hd, r3 n m g d kind _ hd]
              obtain ⟨d, rfl⟩ : ∃ d', d = d' + 20 := ⟨d - 20, by omega⟩
              simp only [e_X12_readStep_170, e_X12_readStep_171, e_X12_readStep_174, e_X12_readStep_175, e_X12_readStep_176, e_X12_readStep_179, e_X12_readStep_182, e_X12_readStep_183, e_X12_readStep_184, e_X12_readStep_186, e_X12_readStep_189, e_X12_readStep_192, e_X12_readStep_193, e_X12_readStep_196, e_X12_readStep_198, e_X12_readStep_200, e_X12_readStep_201, e_X12_readStep_202, e_X12_readStep_205, e_X12_readStep_206, c_143, g_143_20, g_143_26, v_isSign, v_isEnd, h3.rs.k25, k9, decide_true, v_must_t h3.rs.bad c2, h4.rs.sign, decide_eq_false ct, bI, if_true, Bool.false_eq_true, v_must_f h4.rs, show ((1 : Int32) = 0) = False by decide, show nI (2024 + (236 + 9 * st)) + (8 : Int32) = nI (2024 + (236 + 9 * st + 8)) from eW st 8, nI_neg (show 2024 + (236 + 9 * st + 8) < 2 ^ 31 by omega), nI_clamp (show 2024 + (236 + 9 * st + 8) < 2 ^ 31 by omega), k_148 (show 2024 + (236 + 9 * st + 8) < 2530 by omega), l_148 (show 2024 + (236 + 9 * st + 8) < 2530 by omega), q_148, Option.bind_some, Option.isSome_some, Option.toList, List.cons_append, List.nil_append, zclr_i, zclr_r, zclr_n, zfit_i, zfit_l, and_self, if_true, if_false]
            · simp only [e_X0_readAll_9, e_X0_readAll_10, e_X0_readAll_13, e_X0_readAll_16, e_X0_readAll_17, e_X0_readAll_20, e_X0_readAll_23, e_X0_readAll_26, e_X0_readAll_27, e_X0_readAll_30, e_X0_readAll_33, e_X0_readAll_35, e_X0_readAll_38, e_X0_readAll_39, e_X0_readAll_42, e_X0_readAll_45, e_X0_readAll_46, e_X0_readAll_47, e_X0_readAll_50, e_X0_readAll_53, e_X0_readAll_56, e_X0_readAll_57, e_X0_readAll_58, e_X0_readAll_61, e_X0_readAll_62, e_X0_readAll_65, e_X0_readAll_68, e_X0_readAll_71, e_X0_readAll_72, e_X0_readAll_73, e_X0_readAll_76, e_X0_readAll_79, e_X0_readAll_80, e_X0_readAll_83, e_X0_readAll_86, e_X0_readAll_87, e_X0_readAll_90, e_X0_readAll_93, e_X0_readAll_94, e_X0_readAll_95, e_X0_readAll_98, e_X0_readAll_99, e_X0_readAll_102, e_X0_readAll_103, c_13, c_ct ha, g_ct_0 ha, g_13_9, k300 (show k3 ≤ 300 by omega), d_atEnd, h35, decide_false, bI, Bool.false_eq_true, k9, el _ _ _ _ _ ha, d_stop_no ct, show ((1 : Int32) = 0) = False by decide, zfit_b0, Option.bind_some, Option.isSome_some, Option.toList, List.cons_append, List.nil_append, zclr_i, zclr_r, zclr_n, zfit_i, zfit_l, and_self, if_true, if_false]
    refine ⟨step, ?_⟩
    intro k st ln q f p X JX Y JY hf h hq h5 hkp
    have hpL := h.rs.1.2.2.2.1
    by_cases k25 : X 13 9 = 25
    · refine ⟨X, JX, Y, JY, HX.rfl', GY.rfl', fun n m g d kind w hd => ?_, .inr ⟨k, f, p, st, ln, fun n m g d a x _ => ⟨x, rfl⟩, k25, fun _ _ => rfl, h, Nat.le_refl p, hkp, Nat.le_refl _, Nat.le_refl _, KP.rfl', fun F' hF' => ?_⟩⟩
      · obtain ⟨d, rfl⟩ : ∃ d', d = d' + 20 := ⟨d - 20, by omega⟩
        simp only [e_X12_readStep_142, e_X12_readStep_143, e_X12_readStep_146, e_X12_readStep_147, e_X12_readStep_150, e_X12_readStep_153, e_X12_readStep_154, e_X12_readStep_157, e_X12_readStep_160, e_X12_readStep_161, e_X12_readStep_162, e_X12_readStep_163, e_X12_readStep_164, e_X12_readStep_167, c_143, g_143_12, h.rs.bad, v_isEnd, h.rs.k25, k25, decide_true, bI, if_true, show ((1 : Int32) = 0) = False by decide, Option.bind_some, Option.isSome_some, Option.toList, List.cons_append, List.nil_append, zclr_i, zclr_r, zclr_n, zfit_i, zfit_l, and_self, if_true, if_false]
      · cases F' with
        | zero => exact ⟨rfl, rfl⟩
        | succ F' => exact .inl ⟨rfl, rfl⟩
    · obtain ⟨X1, JX1, Y1, JY1, hx1, gy1, r1, o1⟩ := step k st ln (q + 1) f p X JX Y JY hf h hq h5 hkp (.inr k25)
      have rl : ∀ (n m : Nat) (g : Nat → zC) (d : Nat) (kind w : Int32), 24 ≤ d + q → zexec d 309 142 [some (.ref 143), some (.int (nI q)), some (.int kind), some (.int 1), some (.int w)] [] (mk n m g Y JY) = zexec d 309 142 [some (.ref 143), some (.int (nI q)), some (.int kind), some (.int 1), some (.int w)] [] (mk n m g Y1 JY1) := fun n m g d kind w hd => by
        obtain ⟨d, rfl⟩ : ∃ d', d = d' + 1 + 19 := ⟨d - 20, by omega⟩
        have r1' := r1 n m g (d + 19) (by omega)
        rw [e_X12_readStep_142]
        simp only [e_X12_readStep_143, e_X12_readStep_146, e_X12_readStep_147, e_X12_readStep_150, e_X12_readStep_153, e_X12_readStep_154, e_X12_readStep_157, e_X12_readStep_160, e_X12_readStep_161, e_X12_readStep_162, e_X12_readStep_163, e_X12_readStep_164, e_X12_readStep_167, c_143, g_143_12, h.rs.bad, v_isEnd, h.rs.k25, decide_eq_false k25, bI, Bool.false_eq_true, show ((1 : Int32) = 0) = False by decide, nI_1, r1', Option.bind_some, Option.isSome_some, Option.toList, List.cons_append, List.nil_append, zclr_i, zclr_r, zclr_n, zfit_i, zfit_l, and_self, if_true, if_false]
      rcases o1 with ⟨hB, hF⟩ | ⟨k2, f2, p2, st2, ln2, e2, ff, h2, hp2, hn2, hk2, hs2, hl2, kp2, it⟩
      · refine ⟨X1, JX1, Y1, JY1, hx1, gy1, fun n m g d kind w hd => ?_, .inl ⟨hB, hF⟩⟩
        rw [rl n m g d kind w hd]
        obtain ⟨d, rfl⟩ : ∃ d', d = d' + 20 := ⟨d - 20, by omega⟩
        simp only [e_X12_readStep_142, e_X12_readStep_143, e_X12_readStep_146, e_X12_readStep_147, e_X12_readStep_150, e_X12_readStep_153, e_X12_readStep_154, e_X12_readStep_157, e_X12_readStep_160, e_X12_readStep_161, e_X12_readStep_162, e_X12_readStep_163, e_X12_readStep_164, e_X12_readStep_167, g_143_12, hB.ne, show ((1 : Int32) = 0) = False by decide, Option.bind_some, Option.isSome_some, Option.toList, List.cons_append, List.nil_append, zclr_i, zclr_r, zclr_n, zfit_i, zfit_l, and_self, if_true, if_false]
      · have hlo : LO L p2 N S k2 st2 ln2 q f2 X1 JX1 Y1 JY1 := by
          have := h2.rs.1.2.2.2.1
          by_cases c0 : X1 13 5 = 0
          · exact LO.end hL h2 hq c0 (by omega)
          · have := hn2 c0
            exact ihL k2 st2 ln2 q f2 p2 X1 JX1 Y1 JY1 (by omega) h2 hq c0 (by omega)
        obtain ⟨X3, JX3, Y3, JY3, hx3, gy3, r3, o3⟩ := hlo
        refine ⟨X3, JX3, Y3, JY3, hx1.trans hx3, gy1.trans gy3, fun n m g d kind w hd => (rl n m g d kind w hd).trans (r3 n m g d kind w hd), ?_⟩
        rcases o3 with ⟨hB, hF⟩ | ⟨k3, f3, p3, st3, ln3, e3, k9, ff3, h3, hp3, hk3', hs3, hl3, kp3, bl⟩
        · exact .inl ⟨hB, e2.fail hF⟩
        · refine .inr ⟨k3, f3, p3, st3, ln3, e2.trans e3, k9, fun i hi => (ff3 i hi).trans (ff i hi), h3, by omega, hk3', by omega, by omega, kp2.trans kp3 (by omega) (by omega), fun F' hF' => ?_⟩
          have it3 := it.keep kp3
          obtain ⟨F', rfl⟩ : ∃ F2, F' = F2 + 1 := ⟨F' - 1, by omega⟩
          have e1 : 2 - q = 3 - (q + 1) := by omega
          have hbl := bl F' (by omega)
          rw [e1] at hbl ⊢
          exact it3.cons hq (by omega) hbl
end CF
