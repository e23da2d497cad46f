/-! READING A TOWN: its heads (written by wip/whole/gen_h.py) -/
section TE
variable {n m : Nat} {g : Nat → zC} {A X Y : Nat → Nat → Int32} {JX JY : Nat → Nat → Int64} {L p N S q b : Nat} {t x : Int32} {c c' : Nat → Int32} {X' Y' : Nat → Nat → Int32} {JX' JY' : Nat → Nat → Int64}
theorem RT.lifeF (h : RT A b c N S) (h12 : N ≤ 12) (h6 : S ≤ 6) (hp : p < 12) : RT (zu A b 2 x) b (fu c (4) x) N S := by
  have hK : pK (zu A b 2 x) b = pK A b := pK_far (by rw [zu_0o (j := 12) (by decide)])
  have hQ : qN (zu A b 2 x) b = qN A b := qN_far (by rw [zu_0o (j := 14) (by decide)])
  apply RT.intro
  · have := h.n0 ; rw [fu_ne _ _ (by omega)]; rw [this]; simp only [zu_row]; rw [if_neg (by omega)]
  · have := h.n1 ; rw [fu_ne _ _ (by omega)]; rw [this]; simp only [zu_row]; rw [if_neg (by omega)]
  · have := h.n2 ; rw [fu_ne _ _ (by omega)]; rw [this]; simp only [zu_row]; rw [if_neg (by omega)]
  · have := h.n3 ; rw [fu_ne _ _ (by omega)]; rw [this]; simp only [zu_row]; rw [if_neg (by omega)]
  · simp [fu, zu]
  · rw [fu_ne _ _ (by omega), zu_0o (j := 14) (by decide)]; exact h.n5 
  · intro a0 a1; rw [fu_ne _ _ (by omega), zu_0o (j := 2) (by decide)]; exact h.worth a0 a1
  · intro a0 a1; rw [fu_ne _ _ (by omega), zu_0o (j := 3) (by decide)]; exact h.sold a0 a1
  · intro a0 a1; rw [fu_ne _ _ (by omega), zu_0o (j := 5) (by decide)]; exact h.born a0 a1
  · intro a0 a1; rw [fu_ne _ _ (by omega), zu_0o (j := 7) (by decide)]; exact h.bears a0 a1
  · intro a0 a1; rw [fu_ne _ _ (by omega), zu_0o (j := 8) (by decide)]; exact h.coins a0 a1
  · intro a0 a1; have := h.miser a0 a1; rw [fu_ne _ _ (by omega)]; rw [this]; simp only [zu_row]; rw [if_neg (by omega)]
  · intro a0 a1; rw [fu_ne _ _ (by omega), zu_0o (j := 6) (by decide)]; exact h.died a0 a1
  · intro a0 a1; rw [fu_ne _ _ (by omega), zu_0o (j := 9) (by decide)]; exact h.wed a0 a1
  · intro a0 a1; rw [fu_ne _ _ (by omega), zu_0o (j := 10) (by decide)]; exact h.one a0 a1
  · intro a0 a1; rw [fu_ne _ _ (by omega), zu_0o (j := 10) (by decide)]; exact h.two a0 a1
  · intro a0 a1; rw [fu_ne _ _ (by omega), zu_0o (j := 11) (by decide)]; exact h.away a0 a1
  · intro a0 a1; rw [fu_ne _ _ (by omega), zu_0o (j := 12) (by decide)]; exact h.likes a0 a1
  · intro a0 a1 a2 a3; rw [hK] at a3; rw [fu_ne _ _ (by omega), zu_0o (j := 13) (by decide)]; exact h.like a0 a1 a2 a3
  · intro a0 a1; rw [hQ] at a1; rw [fu_ne _ _ (by omega), zu_0o (j := 15) (by decide)]; exact h.who a0 a1
  · intro a0 a1; rw [hQ] at a1; rw [fu_ne _ _ (by omega), zu_0o (j := 16) (by decide)]; exact h.want a0 a1
abbrev Ch (t t' : Int32) (k y : Nat) (as : List Value) (X : Nat → Nat → Int32) (JX : Nat → Nat → Int64) (v : Option Value) (X' : Nat → Nat → Int32) (JX' : Nat → Nat → Int64) : Prop := ∀ (n m : Nat) (g : Nat → zC) (d a : Nat), 158 ≤ a → g a = tto t → zcall (d + k) y (.ref a :: as) (mk n m g X JX) = some (v, mk n m (zup g a (tto t')) X' JX')
def OutP (L p : Nat) (t : Int32) (yc : Nat) (ac : List Value) (yr : Nat) (ar : List Value) (X : Nat → Nat → Int32) (JX : Nat → Nat → Int64) (Y : Nat → Nat → Int32) (JY : Nat → Nat → Int64) : Prop := ∃ t' X' JX' Y' JY', ((Ch t t' 20 yc ac X JX (some (.int 0)) X' JX' ∧ BAD X' Y') ∨ (Ch t t' 20 yc ac X JX (some (.int 1)) X' JX' ∧ ∃ p' N' S', p ≤ p' ∧ TS L p' t' N' S' X' JX' Y' JY') ∨ (Ch t t' 20 yc ac X JX (some (.int 1)) X' JX' ∧ X' 13 5 ≠ 4 ∧ BAD (dHere X') Y')) ∧ Ca 20 yr (.ref 143 :: ar) Y JY none Y' JY' ∧ GX X JX X' JX' ∧ GY Y JY Y' JY'
theorem Out.toP {yc yr : Nat} (h : Out L p t yc yr X JX Y JY) : OutP L p t yc [] yr [] X JX Y JY := by
  obtain ⟨X', JX', Y', JY', h1, h2, h3, h4⟩ := h
  have e : ∀ v, Ct t 20 yc [] X JX v X' JX' → Ch t t 20 yc [] X JX v X' JX' := fun v hv n m g d a ha hg => by
    rw [zup_self hg]
    exact hv n m g d a ha hg
  refine ⟨t, X', JX', Y', JY', ?_, h2, h3, h4⟩
  rcases h1 with ⟨c1, c2⟩ | ⟨c1, c2⟩ | ⟨c1, c2⟩
  · exact .inl ⟨e _ c1, c2⟩
  · exact .inr (.inl ⟨e _ c1, c2⟩)
  · exact .inr (.inr ⟨e _ c1, c2⟩)
theorem RDS.kword (h : RDS L p X JX Y JY) (hk : X 13 9 ≠ -1) : X 13 5 = 2 := by
  obtain ⟨_, _, ⟨_, _, _, h3⟩, _, _, hr⟩ := h
  rcases h3 with h3 | h3 | h3 | h3 | h3
  · exact absurd h3.2.2 hk
  · exact absurd h3.2.2 hk
  · exact h3.1
  · exact absurd h3.2.2.2 hk
  · exact absurd h3.2.2.2 hk
theorem RDS.kH2 (h : RDS L p X JX Y JY) (hk : X 13 9 ≠ -1) : kH X = 2 := by
  unfold kH
  rw [h.kword hk]
  rfl
theorem TS.tell (h : TS L p t N S X JX Y JY) (t' : Int32) : TS L p t' N S X JX (zu Y 143 25 t') JY := by
  obtain ⟨z1, z2, z3, z4, z5, z6, z7, z8⟩ := h
  unfold TS nb
  rw [zu_far _ _ _ (by decide)]
  exact ⟨z1.f (by decide), z2, z3, z4, z5, z6, z7, by rw [zu_row, if_pos rfl]⟩
theorem TS.row0 (h : TS L p t N S X JX Y JY) {f j : Nat} {v : Int32} (hj : j < 6) (hj0 : 1 < j) (hW : WT (zu X 33 f v) 33 N S 2999) (hR : RT (zu X 33 f v) 33 (fu (nb Y) j v) N S) : TS L p t N S (zu X 33 f v) JX (zu Y 148 (2024 + j) v) JY := by
  obtain ⟨z1, z2, z3, z4, z5, z6, z7, z8⟩ := h
  unfold TS
  rw [nb_zu]
  refine ⟨(z1.x (by decide)).cc, hW, hR, z4, z5.keep (fun r s h1 h2 h3 => fu_ne _ _ (by omega)) (fun r r' h1 h2 h3 => fu_ne _ _ (by omega)), fun r hr => ?_, ?_, ?_⟩
  · rw [zu_far _ _ _ (by decide)]
    exact z6 r hr
  · rw [fu_ne _ _ (by omega)]
    exact z7
  · rw [zu_far _ _ _ (by decide)]
    exact z8
set_option maxHeartbeats 4000000 in
theorem r_head0 (h : TS L p t N S X JX Y JY) (hk : X 13 9 = 0) : OutP L p t 123 [.int 0] 296 [.int 0, .int 2, .int 1000, .int 2999] X JX Y JY := by
  have h12 := h.W.h12
  have hN1 : Y 148 (2024 + 1) = nI N := h.R.n1.trans h.W.hN
  have hkm : X 13 9 ≠ -1 := by rw [hk]; decide
  by_cases cN : N = 0
  rotate_left
  · have nle : (nI N ≤ 0) = False := eq_false (nI_ge (a := 0) (by omega) (by omega))
    have hB := h.rs.fails 2 (by decide) (by decide)
    rw [show nI 2 = 2 from rfl] at hB
    refine ⟨t, dFail 2 X, JX, vFail 2 (X 13 4) Y, JY, .inl ⟨fun n m g d a ha hg => ?_, hB⟩, fun n m g d => ?_, (FX.fail _).gx, (YG.fail _ _).gy⟩
    · rw [m_X8_head, zup_self hg]
      simp only [e_X8_head_0, e_X8_head_1, e_X8_head_4, e_X8_head_7, e_X8_head_10, e_X8_head_11, e_X8_head_14, e_X8_head_15, e_X8_head_18, e_X8_head_19, e_X8_head_20, e_X8_head_23, e_X8_head_24, e_X8_head_25, e_X8_head_26, e_X8_head_27, e_X8_head_30, e_X8_head_31, e_X8_head_34, e_X8_head_35, e_X8_head_38, e_X8_head_39, e_X8_head_40, e_X8_head_41, e_X8_head_44, e_X8_head_45, e_X8_head_46, e_X8_head_47, e_X8_head_48, e_X8_head_51, e_X8_head_52, e_X8_head_55, e_X8_head_58, e_X8_head_59, e_X8_head_62, e_X8_head_63, e_X8_head_66, e_X8_head_67, e_X8_head_70, e_X8_head_73, e_X8_head_76, e_X8_head_79, e_X8_head_82, e_X8_head_83, e_X8_head_86, e_X8_head_89, e_X8_head_90, e_X8_head_93, e_X8_head_94, e_X8_head_97, e_X8_head_98, e_X8_head_99, e_X8_head_100, e_X8_head_101, e_X8_head_104, e_X8_head_105, e_X8_head_108, e_X8_head_109, e_X8_head_112, e_X8_head_113, e_X8_head_115, e_X8_head_118, e_X8_head_121, e_X8_head_122, e_X8_head_125, e_X8_head_128, e_X8_head_129, e_X8_head_132, e_X8_head_133, e_X8_head_136, e_X8_head_137, e_X8_head_138, e_X8_head_139, e_X8_head_142, e_X8_head_143, e_X8_head_146, e_X8_head_148, e_X8_head_150, e_X8_head_153, e_X8_head_156, e_X8_head_157, e_X8_head_160, e_X8_head_163, e_X8_head_164, e_X8_head_167, e_X8_head_168, e_X8_head_171, e_X8_head_172, c_13, g_tt_0 ha hg, g_tt_1 ha hg, g_T0_4 t33, h.W.hN, nle, d_fail, zfit_b0, Option.bind_some, Option.isSome_some, Option.toList, List.cons_append, List.nil_append, zclr_i, zclr_r, zclr_n, zfit_i, zfit_l, and_self, if_true, if_false]
    · have am := fun n m g d => v_amiss (n := n) (m := m) (g := g) h.rs d
      rw [h.rs.kH2 hkm] at am
      rw [m_X12_readOnce]
      simp only [e_X12_readOnce_0, e_X12_readOnce_1, e_X12_readOnce_4, e_X12_readOnce_7, e_X12_readOnce_8, e_X12_readOnce_11, e_X12_readOnce_12, e_X12_readOnce_15, e_X12_readOnce_16, e_X12_readOnce_19, e_X12_readOnce_22, e_X12_readOnce_23, e_X12_readOnce_26, e_X12_readOnce_27, e_X12_readOnce_30, e_X12_readOnce_33, e_X12_readOnce_34, e_X12_readOnce_35, e_X12_readOnce_36, e_X12_readOnce_39, e_X12_readOnce_42, e_X12_readOnce_43, e_X12_readOnce_46, e_X12_readOnce_49, e_X12_readOnce_50, e_X12_readOnce_51, e_X12_readOnce_52, e_X12_readOnce_55, e_X12_readOnce_56, e_X12_readOnce_57, e_X12_readOnce_58, e_X12_readOnce_59, e_X12_readOnce_62, e_X12_readOnce_63, e_X12_readOnce_66, e_X12_readOnce_67, e_X12_readOnce_70, e_X12_readOnce_73, e_X12_readOnce_74, e_X12_readOnce_75, e_X12_readOnce_76, e_X12_readOnce_77, e_X12_readOnce_79, e_X12_readOnce_82, e_X12_readOnce_83, c_143, g_143_12, g_143_20, lW_1, hN1, nle, am, hB.ne, hB.le, Option.bind_some, Option.isSome_some, Option.toList, List.cons_append, List.nil_append, zclr_i, zclr_r, zclr_n, zfit_i, zfit_l, and_self, if_true, if_false]
  have nle : (nI N ≤ 0) = True := by rw [cN]; decide
  have ht := TQ.told h
  rcases and1_case (t >>> ((0 : Int32) &&& 31)) with e0 | e1
  rotate_left
  · have hB := h.rs.fails 5 (by decide) (by decide)
    rw [show nI 5 = 5 from rfl] at hB
    refine ⟨t, dFail 5 X, JX, vFail 5 (X 13 4) Y, JY, .inl ⟨fun n m g d a ha hg => ?_, hB⟩, fun n m g d => ?_, (FX.fail _).gx, (YG.fail _ _).gy⟩
    · rw [m_X8_head, zup_self hg]
      simp only [e_X8_head_0, e_X8_head_1, e_X8_head_4, e_X8_head_7, e_X8_head_10, e_X8_head_11, e_X8_head_14, e_X8_head_15, e_X8_head_18, e_X8_head_19, e_X8_head_20, e_X8_head_23, e_X8_head_24, e_X8_head_25, e_X8_head_26, e_X8_head_27, e_X8_head_30, e_X8_head_31, e_X8_head_34, e_X8_head_35, e_X8_head_38, e_X8_head_39, e_X8_head_40, e_X8_head_41, e_X8_head_44, e_X8_head_45, e_X8_head_46, e_X8_head_47, e_X8_head_48, e_X8_head_51, e_X8_head_52, e_X8_head_55, e_X8_head_58, e_X8_head_59, e_X8_head_62, e_X8_head_63, e_X8_head_66, e_X8_head_67, e_X8_head_70, e_X8_head_73, e_X8_head_76, e_X8_head_79, e_X8_head_82, e_X8_head_83, e_X8_head_86, e_X8_head_89, e_X8_head_90, e_X8_head_93, e_X8_head_94, e_X8_head_97, e_X8_head_98, e_X8_head_99, e_X8_head_100, e_X8_head_101, e_X8_head_104, e_X8_head_105, e_X8_head_108, e_X8_head_109, e_X8_head_112, e_X8_head_113, e_X8_head_115, e_X8_head_118, e_X8_head_121, e_X8_head_122, e_X8_head_125, e_X8_head_128, e_X8_head_129, e_X8_head_132, e_X8_head_133, e_X8_head_136, e_X8_head_137, e_X8_head_138, e_X8_head_139, e_X8_head_142, e_X8_head_143, e_X8_head_146, e_X8_head_148, e_X8_head_150, e_X8_head_153, e_X8_head_156, e_X8_head_157, e_X8_head_160, e_X8_head_163, e_X8_head_164, e_X8_head_167, e_X8_head_168, e_X8_head_171, e_X8_head_172, c_13, g_tt_0 ha hg, g_tt_1 ha hg, g_tt_2 ha hg, g_T0_4 t33, h.W.hN, nle, e1, show ((1 : Int32) = 0) = False by decide, d_fail, zfit_b0, Option.bind_some, Option.isSome_some, Option.toList, List.cons_append, List.nil_append, zclr_i, zclr_r, zclr_n, zfit_i, zfit_l, and_self, if_true, if_false]
    · rw [m_X12_readOnce]
      simp only [e_X12_readOnce_0, e_X12_readOnce_1, e_X12_readOnce_4, e_X12_readOnce_7, e_X12_readOnce_8, e_X12_readOnce_11, e_X12_readOnce_12, e_X12_readOnce_15, e_X12_readOnce_16, e_X12_readOnce_19, e_X12_readOnce_22, e_X12_readOnce_23, e_X12_readOnce_26, e_X12_readOnce_27, e_X12_readOnce_30, e_X12_readOnce_33, e_X12_readOnce_34, e_X12_readOnce_35, e_X12_readOnce_36, e_X12_readOnce_39, e_X12_readOnce_42, e_X12_readOnce_43, e_X12_readOnce_46, e_X12_readOnce_49, e_X12_readOnce_50, e_X12_readOnce_51, e_X12_readOnce_52, e_X12_readOnce_55, e_X12_readOnce_56, e_X12_readOnce_57, e_X12_readOnce_58, e_X12_readOnce_59, e_X12_readOnce_62, e_X12_readOnce_63, e_X12_readOnce_66, e_X12_readOnce_67, e_X12_readOnce_70, e_X12_readOnce_73, e_X12_readOnce_74, e_X12_readOnce_75, e_X12_readOnce_76, e_X12_readOnce_77, e_X12_readOnce_79, e_X12_readOnce_82, e_X12_readOnce_83, c_143, g_143_12, g_143_15, g_143_20, g_143_25, lW_1, hN1, nle, h.rs.bad, h.rs.at, ht, v_has, e1, decide_true, bI, if_true, show ((1 : Int32) = 0) = False by decide, v_fail h.rs.bad, hB.ne, hB.le, Option.bind_some, Option.isSome_some, Option.toList, List.cons_append, List.nil_append, zclr_i, zclr_r, zclr_n, zfit_i, zfit_l, and_self, if_true, if_false]
  obtain ⟨t', et⟩ : ∃ t' : Int32, t' = t ||| 1 <<< ((0 : Int32) &&& 31) := ⟨_, rfl⟩
  have h1 := h.tell t'
  obtain ⟨X1, JX1, Y1, JY1, p1, a1, a2, a3, a4, _, a5, a6⟩ := r_adv h1.rs
  have h2 := h1.move a3 a5 a6.yg
  have gy1 : GY Y JY Y1 JY1 := (GY.rfl'.f (k := 25) (v := t') (by decide)).trans a6.yg.gy
  have e01 : ((0 : Int32) = 1) = False := by decide
  rcases r_number h2.rs 1000 2999 (by decide) (by decide) with ⟨y, X2, JX2, Y2, JY2, p2, y1, y2, b1, b2, b3, b4, b5, b6⟩ | ⟨X2, Y2, b1, b2, hB, b5, b6⟩
  · have b1' : Ca 2 57 [.ref 13, .int 1000, .int 2999] X1 JX1 (some (.int (nI y))) X2 JX2 := b1
    have b2' : Ca 2 282 [.ref 143, .int 1000, .int 2999] Y1 JY1 (some (.int (nI y))) Y2 JY2 := b2
    have h3 := h2.move b3 b5 b6
    have yr : ∀ k, zu X2 33 0 (nI y) 33 k = if k = 0 then nI y else X2 33 k := fun k => zu_row _ _ _ _ _
    have hW : WT (zu X2 33 0 (nI y)) 33 N S 2999 := by
      refine h3.W.row0 (fun j _ hj => zu_far _ _ _ (by omega)) ?_ ?_ ?_ ?_ ?_ ?_
      · rw [yr, if_neg (by decide)]; exact h3.W.hN
      · rw [yr, if_neg (by decide)]; exact h3.W.hS
      · rw [yr, if_pos rfl]; exact ⟨y, y1, y2, rfl⟩
      · rw [yr, if_neg (by decide)]; exact h3.W.hM
      · rw [yr, if_neg (by decide)]; exact h3.W.hL
      · intro r h1 h2; rw [yr, if_neg (by decide)]; exact h3.W.mis r h1 h2
    have hR := RT.year (x := nI y) (p := 0) (TQ.R h3) h12 h3.W.h6 (by decide)
    have h4 := h3.row0 (f := 0) (j := 2) (v := nI y) (by decide) (by decide) hW hR
    refine ⟨t', zu X2 33 0 (nI y), JX2, zu Y2 148 (2024 + 2) (nI y), JY2, .inr (.inl ⟨fun n m g d a ha hg => ?_, p2, N, S, by omega, h4⟩), fun n m g d => ?_, (a5.gx.trans b5.gx).wr (by decide) (by decide), (gy1.trans b6.gy).cc⟩
    · have hg2 : zup g a (tto t') a = tto t' := zup_at
      have y33 : zu X2 33 0 (nI y) 33 0 = nI y := by rw [yr, if_pos rfl]
      rw [m_X8_head]
      simp only [e_X8_head_0, e_X8_head_1, e_X8_head_4, e_X8_head_7, e_X8_head_10, e_X8_head_11, e_X8_head_14, e_X8_head_15, e_X8_head_18, e_X8_head_19, e_X8_head_20, e_X8_head_23, e_X8_head_24, e_X8_head_25, e_X8_head_26, e_X8_head_27, e_X8_head_30, e_X8_head_31, e_X8_head_34, e_X8_head_35, e_X8_head_38, e_X8_head_39, e_X8_head_40, e_X8_head_41, e_X8_head_44, e_X8_head_45, e_X8_head_46, e_X8_head_47, e_X8_head_48, e_X8_head_51, e_X8_head_52, e_X8_head_55, e_X8_head_58, e_X8_head_59, e_X8_head_62, e_X8_head_63, e_X8_head_66, e_X8_head_67, e_X8_head_70, e_X8_head_73, e_X8_head_76, e_X8_head_79, e_X8_head_82, e_X8_head_83, e_X8_head_86, e_X8_head_89, e_X8_head_90, e_X8_head_93, e_X8_head_94, e_X8_head_97, e_X8_head_98, e_X8_head_99, e_X8_head_100, e_X8_head_101, e_X8_head_104, e_X8_head_105, e_X8_head_108, e_X8_head_109, e_X8_head_112, e_X8_head_113, e_X8_head_115, e_X8_head_118, e_X8_head_121, e_X8_head_122, e_X8_head_125, e_X8_head_128, e_X8_head_129, e_X8_head_132, e_X8_head_133, e_X8_head_136, e_X8_head_137, e_X8_head_138, e_X8_head_139, e_X8_head_142, e_X8_head_143, e_X8_head_146, e_X8_head_148, e_X8_head_150, e_X8_head_153, e_X8_head_156, e_X8_head_157, e_X8_head_160, e_X8_head_163, e_X8_head_164, e_X8_head_167, e_X8_head_168, e_X8_head_171, e_X8_head_172, c_13, g_tt_0 ha hg, g_tt_1 ha hg, g_tt_2 ha hg, p_tt_2 ha hg, ← et, g_tt_0 ha hg2, g_tt_1 ha hg2, g_T0_4 t33, g_T0_0 t33, p_T0_0 t33, h.W.hN, nle, e0, a1, b1', y33, eq_false (nI_m1 (show y < 2 ^ 31 by omega)), zfit_b1, Option.bind_some, Option.isSome_some, Option.toList, List.cons_append, List.nil_append, zclr_i, zclr_r, zclr_n, zfit_i, zfit_l, and_self, if_true, if_false]
    · rw [m_X12_readOnce]
      simp only [e_X12_readOnce_0, e_X12_readOnce_1, e_X12_readOnce_4, e_X12_readOnce_7, e_X12_readOnce_8, e_X12_readOnce_11, e_X12_readOnce_12, e_X12_readOnce_15, e_X12_readOnce_16, e_X12_readOnce_19, e_X12_readOnce_22, e_X12_readOnce_23, e_X12_readOnce_26, e_X12_readOnce_27, e_X12_readOnce_30, e_X12_readOnce_33, e_X12_readOnce_34, e_X12_readOnce_35, e_X12_readOnce_36, e_X12_readOnce_39, e_X12_readOnce_42, e_X12_readOnce_43, e_X12_readOnce_46, e_X12_readOnce_49, e_X12_readOnce_50, e_X12_readOnce_51, e_X12_readOnce_52, e_X12_readOnce_55, e_X12_readOnce_56, e_X12_readOnce_57, e_X12_readOnce_58, e_X12_readOnce_59, e_X12_readOnce_62, e_X12_readOnce_63, e_X12_readOnce_66, e_X12_readOnce_67, e_X12_readOnce_70, e_X12_readOnce_73, e_X12_readOnce_74, e_X12_readOnce_75, e_X12_readOnce_76, e_X12_readOnce_77, e_X12_readOnce_79, e_X12_readOnce_82, e_X12_readOnce_83, c_143, g_143_12, g_143_15, g_143_20, g_143_25, p_143_25, lW_1, hN1, nle, h.rs.bad, ht, v_has, e0, e01, decide_false, bI, Bool.false_eq_true, z00, ← et, a2, b2', show (2024 : Int32) + 2 = 2026 by decide, ltn_2, cln_2, kW_2, q_148, Option.bind_some, Option.isSome_some, Option.toList, List.cons_append, List.nil_append, zclr_i, zclr_r, zclr_n, zfit_i, zfit_l, and_self, if_true, if_false]
  · have b1' : Ca 2 57 [.ref 13, .int 1000, .int 2999] X1 JX1 (some (.int (-1))) X2 JX1 := b1
    have b2' : Ca 2 282 [.ref 143, .int 1000, .int 2999] Y1 JY1 (some (.int 0)) Y2 JY1 := b2
    have yr : zu X2 33 0 (-1) 33 0 = -1 := by rw [zu_row, if_pos rfl]
    refine ⟨t', zu X2 33 0 (-1), JX1, zu Y2 148 (2024 + 2) 0, JY1, .inl ⟨fun n m g d a ha hg => ?_, (hB.x (by decide)).cc⟩, fun n m g d => ?_, (a5.gx.trans b5.gx).wr (by decide) (by decide), (gy1.trans b6.gy).cc⟩
    · have hg2 : zup g a (tto t') a = tto t' := zup_at
      rw [m_X8_head]
      simp only [e_X8_head_0, e_X8_head_1, e_X8_head_4, e_X8_head_7, e_X8_head_10, e_X8_head_11, e_X8_head_14, e_X8_head_15, e_X8_head_18, e_X8_head_19, e_X8_head_20, e_X8_head_23, e_X8_head_24, e_X8_head_25, e_X8_head_26, e_X8_head_27, e_X8_head_30, e_X8_head_31, e_X8_head_34, e_X8_head_35, e_X8_head_38, e_X8_head_39, e_X8_head_40, e_X8_head_41, e_X8_head_44, e_X8_head_45, e_X8_head_46, e_X8_head_47, e_X8_head_48, e_X8_head_51, e_X8_head_52, e_X8_head_55, e_X8_head_58, e_X8_head_59, e_X8_head_62, e_X8_head_63, e_X8_head_66, e_X8_head_67, e_X8_head_70, e_X8_head_73, e_X8_head_76, e_X8_head_79, e_X8_head_82, e_X8_head_83, e_X8_head_86, e_X8_head_89, e_X8_head_90, e_X8_head_93, e_X8_head_94, e_X8_head_97, e_X8_head_98, e_X8_head_99, e_X8_head_100, e_X8_head_101, e_X8_head_104, e_X8_head_105, e_X8_head_108, e_X8_head_109, e_X8_head_112, e_X8_head_113, e_X8_head_115, e_X8_head_118, e_X8_head_121, e_X8_head_122, e_X8_head_125, e_X8_head_128, e_X8_head_129, e_X8_head_132, e_X8_head_133, e_X8_head_136, e_X8_head_137, e_X8_head_138, e_X8_head_139, e_X8_head_142, e_X8_head_143, e_X8_head_146, e_X8_head_148, e_X8_head_150, e_X8_head_153, e_X8_head_156, e_X8_head_157, e_X8_head_160, e_X8_head_163, e_X8_head_164, e_X8_head_167, e_X8_head_168, e_X8_head_171, e_X8_head_172, c_13, g_tt_0 ha hg, g_tt_1 ha hg, g_tt_2 ha hg, p_tt_2 ha hg, ← et, g_tt_0 ha hg2, g_tt_1 ha hg2, g_T0_4 t33, g_T0_0 t33, p_T0_0 t33, h.W.hN, nle, e0, a1, b1', yr, zfit_b0, Option.bind_some, Option.isSome_some, Option.toList, List.cons_append, List.nil_append, zclr_i, zclr_r, zclr_n, zfit_i, zfit_l, and_self, if_true, if_false]
    · rw [m_X12_readOnce]
      simp only [e_X12_readOnce_0, e_X12_readOnce_1, e_X12_readOnce_4, e_X12_readOnce_7, e_X12_readOnce_8, e_X12_readOnce_11, e_X12_readOnce_12, e_X12_readOnce_15, e_X12_readOnce_16, e_X12_readOnce_19, e_X12_readOnce_22, e_X12_readOnce_23, e_X12_readOnce_26, e_X12_readOnce_27, e_X12_readOnce_30, e_X12_readOnce_33, e_X12_readOnce_34, e_X12_readOnce_35, e_X12_readOnce_36, e_X12_readOnce_39, e_X12_readOnce_42, e_X12_readOnce_43, e_X12_readOnce_46, e_X12_readOnce_49, e_X12_readOnce_50, e_X12_readOnce_51, e_X12_readOnce_52, e_X12_readOnce_55, e_X12_readOnce_56, e_X12_readOnce_57, e_X12_readOnce_58, e_X12_readOnce_59, e_X12_readOnce_62, e_X12_readOnce_63, e_X12_readOnce_66, e_X12_readOnce_67, e_X12_readOnce_70, e_X12_readOnce_73, e_X12_readOnce_74, e_X12_readOnce_75, e_X12_readOnce_76, e_X12_readOnce_77, e_X12_readOnce_79, e_X12_readOnce_82, e_X12_readOnce_83, c_143, g_143_12, g_143_15, g_143_20, g_143_25, p_143_25, lW_1, hN1, nle, h.rs.bad, ht, v_has, e0, e01, decide_false, bI, Bool.false_eq_true, z00, ← et, a2, b2', show (2024 : Int32) + 2 = 2026 by decide, ltn_2, cln_2, kW_2, q_148, Option.bind_some, Option.isSome_some, Option.toList, List.cons_append, List.nil_append, zclr_i, zclr_r, zclr_n, zfit_i, zfit_l, and_self, if_true, if_false]
set_option maxHeartbeats 4000000 in
theorem r_head1 (h : TS L p t N S X JX Y JY) (hk : X 13 9 = 1) : OutP L p t 123 [.int 1] 296 [.int 1, .int 3, .int 1, .int 9] X JX Y JY := by
  have h12 := h.W.h12
  have hN1 : Y 148 (2024 + 1) = nI N := h.R.n1.trans h.W.hN
  have hkm : X 13 9 ≠ -1 := by rw [hk]; decide
  by_cases cN : N = 0
  rotate_left
  · have nle : (nI N ≤ 0) = False := eq_false (nI_ge (a := 0) (by omega) (by omega))
    have hB := h.rs.fails 2 (by decide) (by decide)
    rw [show nI 2 = 2 from rfl] at hB
    refine ⟨t, dFail 2 X, JX, vFail 2 (X 13 4) Y, JY, .inl ⟨fun n m g d a ha hg => ?_, hB⟩, fun n m g d => ?_, (FX.fail _).gx, (YG.fail _ _).gy⟩
    · rw [m_X8_head, zup_self hg]
      simp only [e_X8_head_0, e_X8_head_1, e_X8_head_4, e_X8_head_7, e_X8_head_10, e_X8_head_11, e_X8_head_14, e_X8_head_15, e_X8_head_18, e_X8_head_19, e_X8_head_20, e_X8_head_23, e_X8_head_24, e_X8_head_25, e_X8_head_26, e_X8_head_27, e_X8_head_30, e_X8_head_31, e_X8_head_34, e_X8_head_35, e_X8_head_38, e_X8_head_39, e_X8_head_40, e_X8_head_41, e_X8_head_44, e_X8_head_45, e_X8_head_46, e_X8_head_47, e_X8_head_48, e_X8_head_51, e_X8_head_52, e_X8_head_55, e_X8_head_58, e_X8_head_59, e_X8_head_62, e_X8_head_63, e_X8_head_66, e_X8_head_67, e_X8_head_70, e_X8_head_73, e_X8_head_76, e_X8_head_79, e_X8_head_82, e_X8_head_83, e_X8_head_86, e_X8_head_89, e_X8_head_90, e_X8_head_93, e_X8_head_94, e_X8_head_97, e_X8_head_98, e_X8_head_99, e_X8_head_100, e_X8_head_101, e_X8_head_104, e_X8_head_105, e_X8_head_108, e_X8_head_109, e_X8_head_112, e_X8_head_113, e_X8_head_115, e_X8_head_118, e_X8_head_121, e_X8_head_122, e_X8_head_125, e_X8_head_128, e_X8_head_129, e_X8_head_132, e_X8_head_133, e_X8_head_136, e_X8_head_137, e_X8_head_138, e_X8_head_139, e_X8_head_142, e_X8_head_143, e_X8_head_146, e_X8_head_148, e_X8_head_150, e_X8_head_153, e_X8_head_156, e_X8_head_157, e_X8_head_160, e_X8_head_163, e_X8_head_164, e_X8_head_167, e_X8_head_168, e_X8_head_171, e_X8_head_172, c_13, g_tt_0 ha hg, g_tt_1 ha hg, g_T0_4 t33, h.W.hN, nle, d_fail, zfit_b0, Option.bind_some, Option.isSome_some, Option.toList, List.cons_append, List.nil_append, zclr_i, zclr_r, zclr_n, zfit_i, zfit_l, and_self, if_true, if_false]
    · have am := fun n m g d => v_amiss (n := n) (m := m) (g := g) h.rs d
      rw [h.rs.kH2 hkm] at am
      rw [m_X12_readOnce]
      simp only [e_X12_readOnce_0, e_X12_readOnce_1, e_X12_readOnce_4, e_X12_readOnce_7, e_X12_readOnce_8, e_X12_readOnce_11, e_X12_readOnce_12, e_X12_readOnce_15, e_X12_readOnce_16, e_X12_readOnce_19, e_X12_readOnce_22, e_X12_readOnce_23, e_X12_readOnce_26, e_X12_readOnce_27, e_X12_readOnce_30, e_X12_readOnce_33, e_X12_readOnce_34, e_X12_readOnce_35, e_X12_readOnce_36, e_X12_readOnce_39, e_X12_readOnce_42, e_X12_readOnce_43, e_X12_readOnce_46, e_X12_readOnce_49, e_X12_readOnce_50, e_X12_readOnce_51, e_X12_readOnce_52, e_X12_readOnce_55, e_X12_readOnce_56, e_X12_readOnce_57, e_X12_readOnce_58, e_X12_readOnce_59, e_X12_readOnce_62, e_X12_readOnce_63, e_X12_readOnce_66, e_X12_readOnce_67, e_X12_readOnce_70, e_X12_readOnce_73, e_X12_readOnce_74, e_X12_readOnce_75, e_X12_readOnce_76, e_X12_readOnce_77, e_X12_readOnce_79, e_X12_readOnce_82, e_X12_readOnce_83, c_143, g_143_12, g_143_20, lW_1, hN1, nle, am, hB.ne, hB.le, Option.bind_some, Option.isSome_some, Option.toList, List.cons_append, List.nil_append, zclr_i, zclr_r, zclr_n, zfit_i, zfit_l, and_self, if_true, if_false]
  have nle : (nI N ≤ 0) = True := by rw [cN]; decide
  have ht := TQ.told h
  rcases and1_case (t >>> ((1 : Int32) &&& 31)) with e0 | e1
  rotate_left
  · have hB := h.rs.fails 5 (by decide) (by decide)
    rw [show nI 5 = 5 from rfl] at hB
    refine ⟨t, dFail 5 X, JX, vFail 5 (X 13 4) Y, JY, .inl ⟨fun n m g d a ha hg => ?_, hB⟩, fun n m g d => ?_, (FX.fail _).gx, (YG.fail _ _).gy⟩
    · rw [m_X8_head, zup_self hg]
      simp only [e_X8_head_0, e_X8_head_1, e_X8_head_4, e_X8_head_7, e_X8_head_10, e_X8_head_11, e_X8_head_14, e_X8_head_15, e_X8_head_18, e_X8_head_19, e_X8_head_20, e_X8_head_23, e_X8_head_24, e_X8_head_25, e_X8_head_26, e_X8_head_27, e_X8_head_30, e_X8_head_31, e_X8_head_34, e_X8_head_35, e_X8_head_38, e_X8_head_39, e_X8_head_40, e_X8_head_41, e_X8_head_44, e_X8_head_45, e_X8_head_46, e_X8_head_47, e_X8_head_48, e_X8_head_51, e_X8_head_52, e_X8_head_55, e_X8_head_58, e_X8_head_59, e_X8_head_62, e_X8_head_63, e_X8_head_66, e_X8_head_67, e_X8_head_70, e_X8_head_73, e_X8_head_76, e_X8_head_79, e_X8_head_82, e_X8_head_83, e_X8_head_86, e_X8_head_89, e_X8_head_90, e_X8_head_93, e_X8_head_94, e_X8_head_97, e_X8_head_98, e_X8_head_99, e_X8_head_100, e_X8_head_101, e_X8_head_104, e_X8_head_105, e_X8_head_108, e_X8_head_109, e_X8_head_112, e_X8_head_113, e_X8_head_115, e_X8_head_118, e_X8_head_121, e_X8_head_122, e_X8_head_125, e_X8_head_128, e_X8_head_129, e_X8_head_132, e_X8_head_133, e_X8_head_136, e_X8_head_137, e_X8_head_138, e_X8_head_139, e_X8_head_142, e_X8_head_143, e_X8_head_146, e_X8_head_148, e_X8_head_150, e_X8_head_153, e_X8_head_156, e_X8_head_157, e_X8_head_160, e_X8_head_163, e_X8_head_164, e_X8_head_167, e_X8_head_168, e_X8_head_171, e_X8_head_172, c_13, g_tt_0 ha hg, g_tt_1 ha hg, g_tt_2 ha hg, g_T0_4 t33, h.W.hN, nle, e1, show ((1 : Int32) = 0) = False by decide, d_fail, zfit_b0, Option.bind_some, Option.isSome_some, Option.toList, List.cons_append, List.nil_append, zclr_i, zclr_r, zclr_n, zfit_i, zfit_l, and_self, if_true, if_false]
    · rw [m_X12_readOnce]
      simp only [e_X12_readOnce_0, e_X12_readOnce_1, e_X12_readOnce_4, e_X12_readOnce_7, e_X12_readOnce_8, e_X12_readOnce_11, e_X12_readOnce_12, e_X12_readOnce_15, e_X12_readOnce_16, e_X12_readOnce_19, e_X12_readOnce_22, e_X12_readOnce_23, e_X12_readOnce_26, e_X12_readOnce_27, e_X12_readOnce_30, e_X12_readOnce_33, e_X12_readOnce_34, e_X12_readOnce_35, e_X12_readOnce_36, e_X12_readOnce_39, e_X12_readOnce_42, e_X12_readOnce_43, e_X12_readOnce_46, e_X12_readOnce_49, e_X12_readOnce_50, e_X12_readOnce_51, e_X12_readOnce_52, e_X12_readOnce_55, e_X12_readOnce_56, e_X12_readOnce_57, e_X12_readOnce_58, e_X12_readOnce_59, e_X12_readOnce_62, e_X12_readOnce_63, e_X12_readOnce_66, e_X12_readOnce_67, e_X12_readOnce_70, e_X12_readOnce_73, e_X12_readOnce_74, e_X12_readOnce_75, e_X12_readOnce_76, e_X12_readOnce_77, e_X12_readOnce_79, e_X12_readOnce_82, e_X12_readOnce_83, c_143, g_143_12, g_143_15, g_143_20, g_143_25, lW_1, hN1, nle, h.rs.bad, h.rs.at, ht, v_has, e1, decide_true, bI, if_true, show ((1 : Int32) = 0) = False by decide, v_fail h.rs.bad, hB.ne, hB.le, Option.bind_some, Option.isSome_some, Option.toList, List.cons_append, List.nil_append, zclr_i, zclr_r, zclr_n, zfit_i, zfit_l, and_self, if_true, if_false]
  obtain ⟨t', et⟩ : ∃ t' : Int32, t' = t ||| 1 <<< ((1 : Int32) &&& 31) := ⟨_, rfl⟩
  have h1 := h.tell t'
  obtain ⟨X1, JX1, Y1, JY1, p1, a1, a2, a3, a4, _, a5, a6⟩ := r_adv h1.rs
  have h2 := h1.move a3 a5 a6.yg
  have gy1 : GY Y JY Y1 JY1 := (GY.rfl'.f (k := 25) (v := t') (by decide)).trans a6.yg.gy
  have e01 : ((0 : Int32) = 1) = False := by decide
  rcases r_number h2.rs 1 9 (by decide) (by decide) with ⟨y, X2, JX2, Y2, JY2, p2, y1, y2, b1, b2, b3, b4, b5, b6⟩ | ⟨X2, Y2, b1, b2, hB, b5, b6⟩
  · have b1' : Ca 2 57 [.ref 13, .int 1, .int 9] X1 JX1 (some (.int (nI y))) X2 JX2 := b1
    have b2' : Ca 2 282 [.ref 143, .int 1, .int 9] Y1 JY1 (some (.int (nI y))) Y2 JY2 := b2
    have h3 := h2.move b3 b5 b6
    have yr : ∀ k, zu X2 33 1 (nI y) 33 k = if k = 1 then nI y else X2 33 k := fun k => zu_row _ _ _ _ _
    have hW : WT (zu X2 33 1 (nI y)) 33 N S 2999 := by
      refine h3.W.row0 (fun j _ hj => zu_far _ _ _ (by omega)) ?_ ?_ ?_ ?_ ?_ ?_
      · rw [yr, if_neg (by decide)]; exact h3.W.hN
      · rw [yr, if_neg (by decide)]; exact h3.W.hS
      · rw [yr, if_neg (by decide)]; exact h3.W.hY
      · rw [yr, if_pos rfl]; exact ⟨y, y1, y2, rfl⟩
      · rw [yr, if_neg (by decide)]; exact h3.W.hL
      · intro r h1 h2; rw [yr, if_neg (by decide)]; exact h3.W.mis r h1 h2
    have hR := RT.most (x := nI y) (p := 0) (TQ.R h3) h12 h3.W.h6 (by decide)
    have h4 := h3.row0 (f := 1) (j := 3) (v := nI y) (by decide) (by decide) hW hR
    refine ⟨t', zu X2 33 1 (nI y), JX2, zu Y2 148 (2024 + 3) (nI y), JY2, .inr (.inl ⟨fun n m g d a ha hg => ?_, p2, N, S, by omega, h4⟩), fun n m g d => ?_, (a5.gx.trans b5.gx).wr (by decide) (by decide), (gy1.trans b6.gy).cc⟩
    · have hg2 : zup g a (tto t') a = tto t' := zup_at
      have y33 : zu X2 33 1 (nI y) 33 1 = nI y := by rw [yr, if_pos rfl]
      rw [m_X8_head]
      simp only [e_X8_head_0, e_X8_head_1, e_X8_head_4, e_X8_head_7, e_X8_head_10, e_X8_head_11, e_X8_head_14, e_X8_head_15, e_X8_head_18, e_X8_head_19, e_X8_head_20, e_X8_head_23, e_X8_head_24, e_X8_head_25, e_X8_head_26, e_X8_head_27, e_X8_head_30, e_X8_head_31, e_X8_head_34, e_X8_head_35, e_X8_head_38, e_X8_head_39, e_X8_head_40, e_X8_head_41, e_X8_head_44, e_X8_head_45, e_X8_head_46, e_X8_head_47, e_X8_head_48, e_X8_head_51, e_X8_head_52, e_X8_head_55, e_X8_head_58, e_X8_head_59, e_X8_head_62, e_X8_head_63, e_X8_head_66, e_X8_head_67, e_X8_head_70, e_X8_head_73, e_X8_head_76, e_X8_head_79, e_X8_head_82, e_X8_head_83, e_X8_head_86, e_X8_head_89, e_X8_head_90, e_X8_head_93, e_X8_head_94, e_X8_head_97, e_X8_head_98, e_X8_head_99, e_X8_head_100, e_X8_head_101, e_X8_head_104, e_X8_head_105, e_X8_head_108, e_X8_head_109, e_X8_head_112, e_X8_head_113, e_X8_head_115, e_X8_head_118, e_X8_head_121, e_X8_head_122, e_X8_head_125, e_X8_head_128, e_X8_head_129, e_X8_head_132, e_X8_head_133, e_X8_head_136, e_X8_head_137, e_X8_head_138, e_X8_head_139, e_X8_head_142, e_X8_head_143, e_X8_head_146, e_X8_head_148, e_X8_head_150, e_X8_head_153, e_X8_head_156, e_X8_head_157, e_X8_head_160, e_X8_head_163, e_X8_head_164, e_X8_head_167, e_X8_head_168, e_X8_head_171, e_X8_head_172, c_13, g_tt_0 ha hg, g_tt_1 ha hg, g_tt_2 ha hg, p_tt_2 ha hg, ← et, g_tt_0 ha hg2, g_tt_1 ha hg2, g_T0_4 t33, g_T0_1 t33, p_T0_1 t33, h.W.hN, nle, e0, a1, show ((1 : Int32) = 0) = False by decide, b1', y33, eq_false (nI_m1 (show y < 2 ^ 31 by omega)), zfit_b1, Option.bind_some, Option.isSome_some, Option.toList, List.cons_append, List.nil_append, zclr_i, zclr_r, zclr_n, zfit_i, zfit_l, and_self, if_true, if_false]
    · rw [m_X12_readOnce]
      simp only [e_X12_readOnce_0, e_X12_readOnce_1, e_X12_readOnce_4, e_X12_readOnce_7, e_X12_readOnce_8, e_X12_readOnce_11, e_X12_readOnce_12, e_X12_readOnce_15, e_X12_readOnce_16, e_X12_readOnce_19, e_X12_readOnce_22, e_X12_readOnce_23, e_X12_readOnce_26, e_X12_readOnce_27, e_X12_readOnce_30, e_X12_readOnce_33, e_X12_readOnce_34, e_X12_readOnce_35, e_X12_readOnce_36, e_X12_readOnce_39, e_X12_readOnce_42, e_X12_readOnce_43, e_X12_readOnce_46, e_X12_readOnce_49, e_X12_readOnce_50, e_X12_readOnce_51, e_X12_readOnce_52, e_X12_readOnce_55, e_X12_readOnce_56, e_X12_readOnce_57, e_X12_readOnce_58, e_X12_readOnce_59, e_X12_readOnce_62, e_X12_readOnce_63, e_X12_readOnce_66, e_X12_readOnce_67, e_X12_readOnce_70, e_X12_readOnce_73, e_X12_readOnce_74, e_X12_readOnce_75, e_X12_readOnce_76, e_X12_readOnce_77, e_X12_readOnce_79, e_X12_readOnce_82, e_X12_readOnce_83, c_143, g_143_12, g_143_15, g_143_20, g_143_25, p_143_25, lW_1, hN1, nle, h.rs.bad, ht, v_has, e0, e01, decide_false, bI, Bool.false_eq_true, z00, ← et, a2, b2', show (2024 : Int32) + 3 = 2027 by decide, ltn_3, cln_3, kW_3, q_148, Option.bind_some, Option.isSome_some, Option.toList, List.cons_append, List.nil_append, zclr_i, zclr_r, zclr_n, zfit_i, zfit_l, and_self, if_true, if_false]
  · have b1' : Ca 2 57 [.ref 13, .int 1, .int 9] X1 JX1 (some (.int (-1))) X2 JX1 := b1
    have b2' : Ca 2 282 [.ref 143, .int 1, .int 9] Y1 JY1 (some (.int 0)) Y2 JY1 := b2
    have yr : zu X2 33 1 (-1) 33 1 = -1 := by rw [zu_row, if_pos rfl]
    refine ⟨t', zu X2 33 1 (-1), JX1, zu Y2 148 (2024 + 3) 0, JY1, .inl ⟨fun n m g d a ha hg => ?_, (hB.x (by decide)).cc⟩, fun n m g d => ?_, (a5.gx.trans b5.gx).wr (by decide) (by decide), (gy1.trans b6.gy).cc⟩
    · have hg2 : zup g a (tto t') a = tto t' := zup_at
      rw [m_X8_head]
      simp only [e_X8_head_0, e_X8_head_1, e_X8_head_4, e_X8_head_7, e_X8_head_10, e_X8_head_11, e_X8_head_14, e_X8_head_15, e_X8_head_18, e_X8_head_19, e_X8_head_20, e_X8_head_23, e_X8_head_24, e_X8_head_25, e_X8_head_26, e_X8_head_27, e_X8_head_30, e_X8_head_31, e_X8_head_34, e_X8_head_35, e_X8_head_38, e_X8_head_39, e_X8_head_40, e_X8_head_41, e_X8_head_44, e_X8_head_45, e_X8_head_46, e_X8_head_47, e_X8_head_48, e_X8_head_51, e_X8_head_52, e_X8_head_55, e_X8_head_58, e_X8_head_59, e_X8_head_62, e_X8_head_63, e_X8_head_66, e_X8_head_67, e_X8_head_70, e_X8_head_73, e_X8_head_76, e_X8_head_79, e_X8_head_82, e_X8_head_83, e_X8_head_86, e_X8_head_89, e_X8_head_90, e_X8_head_93, e_X8_head_94, e_X8_head_97, e_X8_head_98, e_X8_head_99, e_X8_head_100, e_X8_head_101, e_X8_head_104, e_X8_head_105, e_X8_head_108, e_X8_head_109, e_X8_head_112, e_X8_head_113, e_X8_head_115, e_X8_head_118, e_X8_head_121, e_X8_head_122, e_X8_head_125, e_X8_head_128, e_X8_head_129, e_X8_head_132, e_X8_head_133, e_X8_head_136, e_X8_head_137, e_X8_head_138, e_X8_head_139, e_X8_head_142, e_X8_head_143, e_X8_head_146, e_X8_head_148, e_X8_head_150, e_X8_head_153, e_X8_head_156, e_X8_head_157, e_X8_head_160, e_X8_head_163, e_X8_head_164, e_X8_head_167, e_X8_head_168, e_X8_head_171, e_X8_head_172, c_13, g_tt_0 ha hg, g_tt_1 ha hg, g_tt_2 ha hg, p_tt_2 ha hg, ← et, g_tt_0 ha hg2, g_tt_1 ha hg2, g_T0_4 t33, g_T0_1 t33, p_T0_1 t33, h.W.hN, nle, e0, a1, show ((1 : Int32) = 0) = False by decide, b1', yr, zfit_b0, Option.bind_some, Option.isSome_some, Option.toList, List.cons_append, List.nil_append, zclr_i, zclr_r, zclr_n, zfit_i, zfit_l, and_self, if_true, if_false]
    · rw [m_X12_readOnce]
      simp only [e_X12_readOnce_0, e_X12_readOnce_1, e_X12_readOnce_4, e_X12_readOnce_7, e_X12_readOnce_8, e_X12_readOnce_11, e_X12_readOnce_12, e_X12_readOnce_15, e_X12_readOnce_16, e_X12_readOnce_19, e_X12_readOnce_22, e_X12_readOnce_23, e_X12_readOnce_26, e_X12_readOnce_27, e_X12_readOnce_30, e_X12_readOnce_33, e_X12_readOnce_34, e_X12_readOnce_35, e_X12_readOnce_36, e_X12_readOnce_39, e_X12_readOnce_42, e_X12_readOnce_43, e_X12_readOnce_46, e_X12_readOnce_49, e_X12_readOnce_50, e_X12_readOnce_51, e_X12_readOnce_52, e_X12_readOnce_55, e_X12_readOnce_56, e_X12_readOnce_57, e_X12_readOnce_58, e_X12_readOnce_59, e_X12_readOnce_62, e_X12_readOnce_63, e_X12_readOnce_66, e_X12_readOnce_67, e_X12_readOnce_70, e_X12_readOnce_73, e_X12_readOnce_74, e_X12_readOnce_75, e_X12_readOnce_76, e_X12_readOnce_77, e_X12_readOnce_79, e_X12_readOnce_82, e_X12_readOnce_83, c_143, g_143_12, g_143_15, g_143_20, g_143_25, p_143_25, lW_1, hN1, nle, h.rs.bad, ht, v_has, e0, e01, decide_false, bI, Bool.false_eq_true, z00, ← et, a2, b2', show (2024 : Int32) + 3 = 2027 by decide, ltn_3, cln_3, kW_3, q_148, Option.bind_some, Option.isSome_some, Option.toList, List.cons_append, List.nil_append, zclr_i, zclr_r, zclr_n, zfit_i, zfit_l, and_self, if_true, if_false]
set_option maxHeartbeats 4000000 in
theorem r_head2 (h : TS L p t N S X JX Y JY) (hk : X 13 9 = 2) : OutP L p t 123 [.int 2] 296 [.int 2, .int 4, .int 17, .int 120] X JX Y JY := by
  have h12 := h.W.h12
  have hN1 : Y 148 (2024 + 1) = nI N := h.R.n1.trans h.W.hN
  have hkm : X 13 9 ≠ -1 := by rw [hk]; decide
  by_cases cN : N = 0
  rotate_left
  · have nle : (nI N ≤ 0) = False := eq_false (nI_ge (a := 0) (by omega) (by omega))
    have hB := h.rs.fails 2 (by decide) (by decide)
    rw [show nI 2 = 2 from rfl] at hB
    refine ⟨t, dFail 2 X, JX, vFail 2 (X 13 4) Y, JY, .inl ⟨fun n m g d a ha hg => ?_, hB⟩, fun n m g d => ?_, (FX.fail _).gx, (YG.fail _ _).gy⟩
    · rw [m_X8_head, zup_self hg]
      simp only [e_X8_head_0, e_X8_head_1, e_X8_head_4, e_X8_head_7, e_X8_head_10, e_X8_head_11, e_X8_head_14, e_X8_head_15, e_X8_head_18, e_X8_head_19, e_X8_head_20, e_X8_head_23, e_X8_head_24, e_X8_head_25, e_X8_head_26, e_X8_head_27, e_X8_head_30, e_X8_head_31, e_X8_head_34, e_X8_head_35, e_X8_head_38, e_X8_head_39, e_X8_head_40, e_X8_head_41, e_X8_head_44, e_X8_head_45, e_X8_head_46, e_X8_head_47, e_X8_head_48, e_X8_head_51, e_X8_head_52, e_X8_head_55, e_X8_head_58, e_X8_head_59, e_X8_head_62, e_X8_head_63, e_X8_head_66, e_X8_head_67, e_X8_head_70, e_X8_head_73, e_X8_head_76, e_X8_head_79, e_X8_head_82, e_X8_head_83, e_X8_head_86, e_X8_head_89, e_X8_head_90, e_X8_head_93, e_X8_head_94, e_X8_head_97, e_X8_head_98, e_X8_head_99, e_X8_head_100, e_X8_head_101, e_X8_head_104, e_X8_head_105, e_X8_head_108, e_X8_head_109, e_X8_head_112, e_X8_head_113, e_X8_head_115, e_X8_head_118, e_X8_head_121, e_X8_head_122, e_X8_head_125, e_X8_head_128, e_X8_head_129, e_X8_head_132, e_X8_head_133, e_X8_head_136, e_X8_head_137, e_X8_head_138, e_X8_head_139, e_X8_head_142, e_X8_head_143, e_X8_head_146, e_X8_head_148, e_X8_head_150, e_X8_head_153, e_X8_head_156, e_X8_head_157, e_X8_head_160, e_X8_head_163, e_X8_head_164, e_X8_head_167, e_X8_head_168, e_X8_head_171, e_X8_head_172, c_13, g_tt_0 ha hg, g_tt_1 ha hg, g_T0_4 t33, h.W.hN, nle, d_fail, zfit_b0, Option.bind_some, Option.isSome_some, Option.toList, List.cons_append, List.nil_append, zclr_i, zclr_r, zclr_n, zfit_i, zfit_l, and_self, if_true, if_false]
    · have am := fun n m g d => v_amiss (n := n) (m := m) (g := g) h.rs d
      rw [h.rs.kH2 hkm] at am
      rw [m_X12_readOnce]
      simp only [e_X12_readOnce_0, e_X12_readOnce_1, e_X12_readOnce_4, e_X12_readOnce_7, e_X12_readOnce_8, e_X12_readOnce_11, e_X12_readOnce_12, e_X12_readOnce_15, e_X12_readOnce_16, e_X12_readOnce_19, e_X12_readOnce_22, e_X12_readOnce_23, e_X12_readOnce_26, e_X12_readOnce_27, e_X12_readOnce_30, e_X12_readOnce_33, e_X12_readOnce_34, e_X12_readOnce_35, e_X12_readOnce_36, e_X12_readOnce_39, e_X12_readOnce_42, e_X12_readOnce_43, e_X12_readOnce_46, e_X12_readOnce_49, e_X12_readOnce_50, e_X12_readOnce_51, e_X12_readOnce_52, e_X12_readOnce_55, e_X12_readOnce_56, e_X12_readOnce_57, e_X12_readOnce_58, e_X12_readOnce_59, e_X12_readOnce_62, e_X12_readOnce_63, e_X12_readOnce_66, e_X12_readOnce_67, e_X12_readOnce_70, e_X12_readOnce_73, e_X12_readOnce_74, e_X12_readOnce_75, e_X12_readOnce_76, e_X12_readOnce_77, e_X12_readOnce_79, e_X12_readOnce_82, e_X12_readOnce_83, c_143, g_143_12, g_143_20, lW_1, hN1, nle, am, hB.ne, hB.le, Option.bind_some, Option.isSome_some, Option.toList, List.cons_append, List.nil_append, zclr_i, zclr_r, zclr_n, zfit_i, zfit_l, and_self, if_true, if_false]
  have nle : (nI N ≤ 0) = True := by rw [cN]; decide
  have ht := TQ.told h
  rcases and1_case (t >>> ((2 : Int32) &&& 31)) with e0 | e1
  rotate_left
  · have hB := h.rs.fails 5 (by decide) (by decide)
    rw [show nI 5 = 5 from rfl] at hB
    refine ⟨t, dFail 5 X, JX, vFail 5 (X 13 4) Y, JY, .inl ⟨fun n m g d a ha hg => ?_, hB⟩, fun n m g d => ?_, (FX.fail _).gx, (YG.fail _ _).gy⟩
    · rw [m_X8_head, zup_self hg]
      simp only [e_X8_head_0, e_X8_head_1, e_X8_head_4, e_X8_head_7, e_X8_head_10, e_X8_head_11, e_X8_head_14, e_X8_head_15, e_X8_head_18, e_X8_head_19, e_X8_head_20, e_X8_head_23, e_X8_head_24, e_X8_head_25, e_X8_head_26, e_X8_head_27, e_X8_head_30, e_X8_head_31, e_X8_head_34, e_X8_head_35, e_X8_head_38, e_X8_head_39, e_X8_head_40, e_X8_head_41, e_X8_head_44, e_X8_head_45, e_X8_head_46, e_X8_head_47, e_X8_head_48, e_X8_head_51, e_X8_head_52, e_X8_head_55, e_X8_head_58, e_X8_head_59, e_X8_head_62, e_X8_head_63, e_X8_head_66, e_X8_head_67, e_X8_head_70, e_X8_head_73, e_X8_head_76, e_X8_head_79, e_X8_head_82, e_X8_head_83, e_X8_head_86, e_X8_head_89, e_X8_head_90, e_X8_head_93, e_X8_head_94, e_X8_head_97, e_X8_head_98, e_X8_head_99, e_X8_head_100, e_X8_head_101, e_X8_head_104, e_X8_head_105, e_X8_head_108, e_X8_head_109, e_X8_head_112, e_X8_head_113, e_X8_head_115, e_X8_head_118, e_X8_head_121, e_X8_head_122, e_X8_head_125, e_X8_head_128, e_X8_head_129, e_X8_head_132, e_X8_head_133, e_X8_head_136, e_X8_head_137, e_X8_head_138, e_X8_head_139, e_X8_head_142, e_X8_head_143, e_X8_head_146, e_X8_head_148, e_X8_head_150, e_X8_head_153, e_X8_head_156, e_X8_head_157, e_X8_head_160, e_X8_head_163, e_X8_head_164, e_X8_head_167, e_X8_head_168, e_X8_head_171, e_X8_head_172, c_13, g_tt_0 ha hg, g_tt_1 ha hg, g_tt_2 ha hg, g_T0_4 t33, h.W.hN, nle, e1, show ((1 : Int32) = 0) = False by decide, d_fail, zfit_b0, Option.bind_some, Option.isSome_some, Option.toList, List.cons_append, List.nil_append, zclr_i, zclr_r, zclr_n, zfit_i, zfit_l, and_self, if_true, if_false]
    · rw [m_X12_readOnce]
      simp only [e_X12_readOnce_0, e_X12_readOnce_1, e_X12_readOnce_4, e_X12_readOnce_7, e_X12_readOnce_8, e_X12_readOnce_11, e_X12_readOnce_12, e_X12_readOnce_15, e_X12_readOnce_16, e_X12_readOnce_19, e_X12_readOnce_22, e_X12_readOnce_23, e_X12_readOnce_26, e_X12_readOnce_27, e_X12_readOnce_30, e_X12_readOnce_33, e_X12_readOnce_34, e_X12_readOnce_35, e_X12_readOnce_36, e_X12_readOnce_39, e_X12_readOnce_42, e_X12_readOnce_43, e_X12_readOnce_46, e_X12_readOnce_49, e_X12_readOnce_50, e_X12_readOnce_51, e_X12_readOnce_52, e_X12_readOnce_55, e_X12_readOnce_56, e_X12_readOnce_57, e_X12_readOnce_58, e_X12_readOnce_59, e_X12_readOnce_62, e_X12_readOnce_63, e_X12_readOnce_66, e_X12_readOnce_67, e_X12_readOnce_70, e_X12_readOnce_73, e_X12_readOnce_74, e_X12_readOnce_75, e_X12_readOnce_76, e_X12_readOnce_77, e_X12_readOnce_79, e_X12_readOnce_82, e_X12_readOnce_83, c_143, g_143_12, g_143_15, g_143_20, g_143_25, lW_1, hN1, nle, h.rs.bad, h.rs.at, ht, v_has, e1, decide_true, bI, if_true, show ((1 : Int32) = 0) = False by decide, v_fail h.rs.bad, hB.ne, hB.le, Option.bind_some, Option.isSome_some, Option.toList, List.cons_append, List.nil_append, zclr_i, zclr_r, zclr_n, zfit_i, zfit_l, and_self, if_true, if_false]
  obtain ⟨t', et⟩ : ∃ t' : Int32, t' = t ||| 1 <<< ((2 : Int32) &&& 31) := ⟨_, rfl⟩
  have h1 := h.tell t'
  obtain ⟨X1, JX1, Y1, JY1, p1, a1, a2, a3, a4, _, a5, a6⟩ := r_adv h1.rs
  have h2 := h1.move a3 a5 a6.yg
  have gy1 : GY Y JY Y1 JY1 := (GY.rfl'.f (k := 25) (v := t') (by decide)).trans a6.yg.gy
  have e01 : ((0 : Int32) = 1) = False := by decide
  rcases r_number h2.rs 17 120 (by decide) (by decide) with ⟨y, X2, JX2, Y2, JY2, p2, y1, y2, b1, b2, b3, b4, b5, b6⟩ | ⟨X2, Y2, b1, b2, hB, b5, b6⟩
  · have b1' : Ca 2 57 [.ref 13, .int 17, .int 120] X1 JX1 (some (.int (nI y))) X2 JX2 := b1
    have b2' : Ca 2 282 [.ref 143, .int 17, .int 120] Y1 JY1 (some (.int (nI y))) Y2 JY2 := b2
    have h3 := h2.move b3 b5 b6
    have yr : ∀ k, zu X2 33 2 (nI y) 33 k = if k = 2 then nI y else X2 33 k := fun k => zu_row _ _ _ _ _
    have hW : WT (zu X2 33 2 (nI y)) 33 N S 2999 := by
      refine h3.W.row0 (fun j _ hj => zu_far _ _ _ (by omega)) ?_ ?_ ?_ ?_ ?_ ?_
      · rw [yr, if_neg (by decide)]; exact h3.W.hN
      · rw [yr, if_neg (by decide)]; exact h3.W.hS
      · rw [yr, if_neg (by decide)]; exact h3.W.hY
      · rw [yr, if_neg (by decide)]; exact h3.W.hM
      · rw [yr, if_pos rfl]; exact ⟨y, y1, y2, rfl⟩
      · intro r h1 h2; rw [yr, if_neg (by decide)]; exact h3.W.mis r h1 h2
    have hR := RT.lifeF (x := nI y) (p := 0) (TQ.R h3) h12 h3.W.h6 (by decide)
    have h4 := h3.row0 (f := 2) (j := 4) (v := nI y) (by decide) (by decide) hW hR
    refine ⟨t', zu X2 33 2 (nI y), JX2, zu Y2 148 (2024 + 4) (nI y), JY2, .inr (.inl ⟨fun n m g d a ha hg => ?_, p2, N, S, by omega, h4⟩), fun n m g d => ?_, (a5.gx.trans b5.gx).wr (by decide) (by decide), (gy1.trans b6.gy).cc⟩
    · have hg2 : zup g a (tto t') a = tto t' := zup_at
      have y33 : zu X2 33 2 (nI y) 33 2 = nI y := by rw [yr, if_pos rfl]
      rw [m_X8_head]
      simp only [e_X8_head_0, e_X8_head_1, e_X8_head_4, e_X8_head_7, e_X8_head_10, e_X8_head_11, e_X8_head_14, e_X8_head_15, e_X8_head_18, e_X8_head_19, e_X8_head_20, e_X8_head_23, e_X8_head_24, e_X8_head_25, e_X8_head_26, e_X8_head_27, e_X8_head_30, e_X8_head_31, e_X8_head_34, e_X8_head_35, e_X8_head_38, e_X8_head_39, e_X8_head_40, e_X8_head_41, e_X8_head_44, e_X8_head_45, e_X8_head_46, e_X8_head_47, e_X8_head_48, e_X8_head_51, e_X8_head_52, e_X8_head_55, e_X8_head_58, e_X8_head_59, e_X8_head_62, e_X8_head_63, e_X8_head_66, e_X8_head_67, e_X8_head_70, e_X8_head_73, e_X8_head_76, e_X8_head_79, e_X8_head_82, e_X8_head_83, e_X8_head_86, e_X8_head_89, e_X8_head_90, e_X8_head_93, e_X8_head_94, e_X8_head_97, e_X8_head_98, e_X8_head_99, e_X8_head_100, e_X8_head_101, e_X8_head_104, e_X8_head_105, e_X8_head_108, e_X8_head_109, e_X8_head_112, e_X8_head_113, e_X8_head_115, e_X8_head_118, e_X8_head_121, e_X8_head_122, e_X8_head_125, e_X8_head_128, e_X8_head_129, e_X8_head_132, e_X8_head_133, e_X8_head_136, e_X8_head_137, e_X8_head_138, e_X8_head_139, e_X8_head_142, e_X8_head_143, e_X8_head_146, e_X8_head_148, e_X8_head_150, e_X8_head_153, e_X8_head_156, e_X8_head_157, e_X8_head_160, e_X8_head_163, e_X8_head_164, e_X8_head_167, e_X8_head_168, e_X8_head_171, e_X8_head_172, c_13, g_tt_0 ha hg, g_tt_1 ha hg, g_tt_2 ha hg, p_tt_2 ha hg, ← et, g_tt_0 ha hg2, g_tt_1 ha hg2, g_T0_4 t33, g_T0_2 t33, p_T0_2 t33, h.W.hN, nle, e0, a1, show ((2 : Int32) = 0) = False by decide, show ((2 : Int32) = 1) = False by decide, b1', y33, eq_false (nI_m1 (show y < 2 ^ 31 by omega)), zfit_b1, Option.bind_some, Option.isSome_some, Option.toList, List.cons_append, List.nil_append, zclr_i, zclr_r, zclr_n, zfit_i, zfit_l, and_self, if_true, if_false]
    · rw [m_X12_readOnce]
      simp only [e_X12_readOnce_0, e_X12_readOnce_1, e_X12_readOnce_4, e_X12_readOnce_7, e_X12_readOnce_8, e_X12_readOnce_11, e_X12_readOnce_12, e_X12_readOnce_15, e_X12_readOnce_16, e_X12_readOnce_19, e_X12_readOnce_22, e_X12_readOnce_23, e_X12_readOnce_26, e_X12_readOnce_27, e_X12_readOnce_30, e_X12_readOnce_33, e_X12_readOnce_34, e_X12_readOnce_35, e_X12_readOnce_36, e_X12_readOnce_39, e_X12_readOnce_42, e_X12_readOnce_43, e_X12_readOnce_46, e_X12_readOnce_49, e_X12_readOnce_50, e_X12_readOnce_51, e_X12_readOnce_52, e_X12_readOnce_55, e_X12_readOnce_56, e_X12_readOnce_57, e_X12_readOnce_58, e_X12_readOnce_59, e_X12_readOnce_62, e_X12_readOnce_63, e_X12_readOnce_66, e_X12_readOnce_67, e_X12_readOnce_70, e_X12_readOnce_73, e_X12_readOnce_74, e_X12_readOnce_75, e_X12_readOnce_76, e_X12_readOnce_77, e_X12_readOnce_79, e_X12_readOnce_82, e_X12_readOnce_83, c_143, g_143_12, g_143_15, g_143_20, g_143_25, p_143_25, lW_1, hN1, nle, h.rs.bad, ht, v_has, e0, e01, decide_false, bI, Bool.false_eq_true, z00, ← et, a2, b2', show (2024 : Int32) + 4 = 2028 by decide, ltn_4, cln_4, kW_4, q_148, Option.bind_some, Option.isSome_some, Option.toList, List.cons_append, List.nil_append, zclr_i, zclr_r, zclr_n, zfit_i, zfit_l, and_self, if_true, if_false]
  · have b1' : Ca 2 57 [.ref 13, .int 17, .int 120] X1 JX1 (some (.int (-1))) X2 JX1 := b1
    have b2' : Ca 2 282 [.ref 143, .int 17, .int 120] Y1 JY1 (some (.int 0)) Y2 JY1 := b2
    have yr : zu X2 33 2 (-1) 33 2 = -1 := by rw [zu_row, if_pos rfl]
    refine ⟨t', zu X2 33 2 (-1), JX1, zu Y2 148 (2024 + 4) 0, JY1, .inl ⟨fun n m g d a ha hg => ?_, (hB.x (by decide)).cc⟩, fun n m g d => ?_, (a5.gx.trans b5.gx).wr (by decide) (by decide), (gy1.trans b6.gy).cc⟩
    · have hg2 : zup g a (tto t') a = tto t' := zup_at
      rw [m_X8_head]
      simp only [e_X8_head_0, e_X8_head_1, e_X8_head_4, e_X8_head_7, e_X8_head_10, e_X8_head_11, e_X8_head_14, e_X8_head_15, e_X8_head_18, e_X8_head_19, e_X8_head_20, e_X8_head_23, e_X8_head_24, e_X8_head_25, e_X8_head_26, e_X8_head_27, e_X8_head_30, e_X8_head_31, e_X8_head_34, e_X8_head_35, e_X8_head_38, e_X8_head_39, e_X8_head_40, e_X8_head_41, e_X8_head_44, e_X8_head_45, e_X8_head_46, e_X8_head_47, e_X8_head_48, e_X8_head_51, e_X8_head_52, e_X8_head_55, e_X8_head_58, e_X8_head_59, e_X8_head_62, e_X8_head_63, e_X8_head_66, e_X8_head_67, e_X8_head_70, e_X8_head_73, e_X8_head_76, e_X8_head_79, e_X8_head_82, e_X8_head_83, e_X8_head_86, e_X8_head_89, e_X8_head_90, e_X8_head_93, e_X8_head_94, e_X8_head_97, e_X8_head_98, e_X8_head_99, e_X8_head_100, e_X8_head_101, e_X8_head_104, e_X8_head_105, e_X8_head_108, e_X8_head_109, e_X8_head_112, e_X8_head_113, e_X8_head_115, e_X8_head_118, e_X8_head_121, e_X8_head_122, e_X8_head_125, e_X8_head_128, e_X8_head_129, e_X8_head_132, e_X8_head_133, e_X8_head_136, e_X8_head_137, e_X8_head_138, e_X8_head_139, e_X8_head_142, e_X8_head_143, e_X8_head_146, e_X8_head_148, e_X8_head_150, e_X8_head_153, e_X8_head_156, e_X8_head_157, e_X8_head_160, e_X8_head_163, e_X8_head_164, e_X8_head_167, e_X8_head_168, e_X8_head_171, e_X8_head_172, c_13, g_tt_0 ha hg, g_tt_1 ha hg, g_tt_2 ha hg, p_tt_2 ha hg, ← et, g_tt_0 ha hg2, g_tt_1 ha hg2, g_T0_4 t33, g_T0_2 t33, p_T0_2 t33, h.W.hN, nle, e0, a1, show ((2 : Int32) = 0) = False by decide, show ((2 : Int32) = 1) = False by decide, b1', yr, zfit_b0, Option.bind_some, Option.isSome_some, Option.toList, List.cons_append, List.nil_append, zclr_i, zclr_r, zclr_n, zfit_i, zfit_l, and_self, if_true, if_false]
    · rw [m_X12_readOnce]
      simp only [e_X12_readOnce_0, e_X12_readOnce_1, e_X12_readOnce_4, e_X12_readOnce_7, e_X12_readOnce_8, e_X12_readOnce_11, e_X12_readOnce_12, e_X12_readOnce_15, e_X12_readOnce_16, e_X12_readOnce_19, e_X12_readOnce_22, e_X12_readOnce_23, e_X12_readOnce_26, e_X12_readOnce_27, e_X12_readOnce_30, e_X12_readOnce_33, e_X12_readOnce_34, e_X12_readOnce_35, e_X12_readOnce_36, e_X12_readOnce_39, e_X12_readOnce_42, e_X12_readOnce_43, e_X12_readOnce_46, e_X12_readOnce_49, e_X12_readOnce_50, e_X12_readOnce_51, e_X12_readOnce_52, e_X12_readOnce_55, e_X12_readOnce_56, e_X12_readOnce_57, e_X12_readOnce_58, e_X12_readOnce_59, e_X12_readOnce_62, e_X12_readOnce_63, e_X12_readOnce_66, e_X12_readOnce_67, e_X12_readOnce_70, e_X12_readOnce_73, e_X12_readOnce_74, e_X12_readOnce_75, e_X12_readOnce_76, e_X12_readOnce_77, e_X12_readOnce_79, e_X12_readOnce_82, e_X12_readOnce_83, c_143, g_143_12, g_143_15, g_143_20, g_143_25, p_143_25, lW_1, hN1, nle, h.rs.bad, ht, v_has, e0, e01, decide_false, bI, Bool.false_eq_true, z00, ← et, a2, b2', show (2024 : Int32) + 4 = 2028 by decide, ltn_4, cln_4, kW_4, q_148, Option.bind_some, Option.isSome_some, Option.toList, List.cons_append, List.nil_append, zclr_i, zclr_r, zclr_n, zfit_i, zfit_l, and_self, if_true, if_false]
end TE
