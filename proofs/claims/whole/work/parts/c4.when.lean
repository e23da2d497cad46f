/-! READING CENTURIES: a line that begins with 'when'; any line -/
section CE
variable {n m : Nat} {g : Nat → zC} {I X Y X' Y' X1 Y1 X2 Y2 : Nat → Nat → Int32} {J JX JY JX' JY' JX1 JY1 JX2 JY2 : Nat → Nat → Int64} {L p p' p1 N S st ln dp e a k : Nat} {f f' c c' : Nat → Int32} {x y z v : Int32}
theorem v_rest7 {M : zH} (hk : Y 148 (2024 + (236 + 9 * st)) = 7) (hst : st < 30) {d : Nat} (ht : zcall d 307 [.ref 143, .int (nI (2024 + (236 + 9 * st)))] (mk n m g Y JY) = some (none, M)) : zcall (d + 1) 308 [.ref 143, .int (nI (2024 + (236 + 9 * st)))] (mk n m g Y JY) = some (none, M) := by
  rw [m_X12_readRest]
  simp only [e_X12_readRest_0, e_X12_readRest_1, e_X12_readRest_4, e_X12_readRest_5, e_X12_readRest_6, e_X12_readRest_7, e_X12_readRest_8, e_X12_readRest_11, e_X12_readRest_12, e_X12_readRest_15, e_X12_readRest_16, e_X12_readRest_17, e_X12_readRest_18, e_X12_readRest_19, e_X12_readRest_20, e_X12_readRest_22, e_X12_readRest_25, e_X12_readRest_26, e_X12_readRest_29, e_X12_readRest_30, e_X12_readRest_32, e_X12_readRest_35, e_X12_readRest_36, e_X12_readRest_39, e_X12_readRest_40, e_X12_readRest_41, e_X12_readRest_42, e_X12_readRest_43, e_X12_readRest_44, e_X12_readRest_46, e_X12_readRest_49, e_X12_readRest_50, e_X12_readRest_53, e_X12_readRest_54, e_X12_readRest_56, e_X12_readRest_59, e_X12_readRest_60, e_X12_readRest_61, e_X12_readRest_64, e_X12_readRest_67, e_X12_readRest_68, e_X12_readRest_70, e_X12_readRest_73, e_X12_readRest_74, e_X12_readRest_77, e_X12_readRest_78, e_X12_readRest_79, e_X12_readRest_80, e_X12_readRest_81, e_X12_readRest_82, e_X12_readRest_83, e_X12_readRest_86, e_X12_readRest_87, e_X12_readRest_88, e_X12_readRest_89, e_X12_readRest_92, e_X12_readRest_93, e_X12_readRest_95, e_X12_readRest_98, e_X12_readRest_99, e_X12_readRest_102, e_X12_readRest_103, e_X12_readRest_104, e_X12_readRest_105, e_X12_readRest_106, e_X12_readRest_107, e_X12_readRest_108, e_X12_readRest_111, e_X12_readRest_112, c_143, g_143_20, nI_neg (show 2024 + (236 + 9 * st) < 2 ^ 31 by omega), nI_clamp (show 2024 + (236 + 9 * st) < 2 ^ 31 by omega), k_148 (show 2024 + (236 + 9 * st) < 2530 by omega), l_148 (show 2024 + (236 + 9 * st) < 2530 by omega), hk, show ((7 : Int32) = 0) = False by decide, show ((7 : Int32) = 8) = False by decide, ht, show ((7 : Int32) ≤ 1) = False by decide, show ((6 : Int32) ≤ 7) = True by decide, Option.bind_some, Option.isSome_some, Option.toList, List.cons_append, List.nil_append, zclr_i, zclr_r, zclr_n, zfit_i, zfit_l, and_self, if_true, if_false]
theorem tK_no {x : Int32} (h1 : x ≠ 21) (h2 : x ≠ 22) (h3 : x ≠ 23) : tK x = -1 := by
  unfold tK
  rw [if_neg h1, if_neg h2, if_neg h3]
set_option maxHeartbeats 4000000 in
theorem line_20 (h : CR L p N S st ln dp X JX Y JY) (hdp : dp ≤ 3) (hk : X 13 9 = 20) : Line L p N S st ln dp f X JX Y JY := by
  by_cases hs : st = 30
  · exact line_full h hs (fun d hh => by rw [hk]; exact isStep_20 d hh) (by rw [hk]; decide)
  have hst : st < 30 := by have := h.h30; omega
  by_cases hd : dp < 3
  rotate_left
  · exact line_deep (kind := 7) h (.inl ⟨rfl, rfl⟩) hk hst (by omega)
  have s30 : (nI st < 30) = True := eq_true (Int32.not_le.mp (nI_ge (b := 30) hst (by decide)))
  have d3 : (nI dp < 3) = True := eq_true (Int32.not_le.mp (nI_ge (b := 3) hd (by decide)))
  obtain ⟨X1, JX1, Y1, JY1, p1, a1, a2, a3, a4, _, a5, a6⟩ := r_adv (h.rs.f (k := 26) (v := nI (st + 1)) (by decide))
  have r1 : RDS L p1 X1 JX1 (zu Y1 148 (2024 + (236 + 9 * st)) 7) JY1 := a3.cc
  have y0 : zu Y1 148 (2024 + (236 + 9 * st)) 7 148 (2024 + (236 + 9 * st)) = 7 := by rw [zu_row, if_pos rfl]
  have gy1 : GY Y JY (zu Y1 148 (2024 + (236 + 9 * st)) 7) JY1 := ((GY.rfl'.f (k := 26) (v := nI (st + 1)) (by decide)).trans a6.yg.gy).cc
  have nb1 : ∀ j, j < 236 + 9 * st → nb (zu Y1 148 (2024 + (236 + 9 * st)) 7) j = nb Y j := fun j hj => by
    rw [nb_zu, fu_ne _ _ (by omega), a6.yg.blk]
    unfold nb
    rw [zu_far _ _ _ (by decide)]
  have t1 := r1.test
  have dup := zx_dup_r 5 156 157 (by decide +kernel)
  by_cases ct : X1 13 9 = 21 ∨ X1 13 9 = 22 ∨ X1 13 9 = 23
  rotate_left
  · have n1 : X1 13 9 ≠ 21 := fun q => ct (.inl q)
    have n2 : X1 13 9 ≠ 22 := fun q => ct (.inr (.inl q))
    have n3 : X1 13 9 ≠ 23 := fun q => ct (.inr (.inr q))
    rw [tK_no n1 n2 n3] at t1
    have hB := r1.here
    have hB1 := hB.cc (j := 2024 + (236 + 9 * st + 6)) (v := -1)
    have hB2 := hB1.cc (j := 2024 + (236 + 9 * st + 1)) (v := 0)
    obtain ⟨Y3, eY3⟩ : ∃ Y3, Y3 = zu (zu (vFail (kH X1) (X1 13 4) (zu Y1 148 (2024 + (236 + 9 * st)) 7)) 148 (2024 + (236 + 9 * st + 6)) (-1)) 148 (2024 + (236 + 9 * st + 1)) 0 := ⟨_, rfl⟩
    have gy3 : GY Y JY Y3 JY1 := by
      rw [eY3]
      exact (gy1.trans (YG.fail _ _).gy).cc.cc
    refine ⟨dHere X1, JX1, zu Y3 148 (2024 + (236 + 9 * st + 8)) (Y3 143 26), JY1, a5.hx.trans FX.here.hx, gy3.cc, .inl ⟨⟨dp, f, fun n m g d a ha => ?_⟩, fun n m g d => ?_, ?_⟩⟩
    · rw [m_X0_stepLine, hk]
      simp only [e_X0_stepLine_0, e_X0_stepLine_1, e_X0_stepLine_4, e_X0_stepLine_7, e_X0_stepLine_8, e_X0_stepLine_11, e_X0_stepLine_14, e_X0_stepLine_15, e_X0_stepLine_16, e_X0_stepLine_19, e_X0_stepLine_22, e_X0_stepLine_24, e_X0_stepLine_27, e_X0_stepLine_28, e_X0_stepLine_31, e_X0_stepLine_33, e_X0_stepLine_36, e_X0_stepLine_37, e_X0_stepLine_38, e_X0_stepLine_40, e_X0_stepLine_43, e_X0_stepLine_44, e_X0_stepLine_46, e_X0_stepLine_49, e_X0_stepLine_50, e_X0_stepLine_53, e_X0_stepLine_54, e_X0_stepLine_55, e_X0_stepLine_56, e_X0_stepLine_59, e_X0_stepLine_60, e_X0_stepLine_63, e_X0_stepLine_64, e_X0_stepLine_67, e_X0_stepLine_68, e_X0_stepLine_71, e_X0_stepLine_73, e_X0_stepLine_76, e_X0_stepLine_77, e_X0_stepLine_78, e_X0_stepLine_81, e_X0_stepLine_84, e_X0_stepLine_85, e_X0_stepLine_86, e_X0_stepLine_87, e_X0_stepLine_89, e_X0_stepLine_92, e_X0_stepLine_93, e_X0_stepLine_96, e_X0_stepLine_99, e_X0_stepLine_100, e_X0_stepLine_101, e_X0_stepLine_104, e_X0_stepLine_107, e_X0_stepLine_108, e_X0_stepLine_111, e_X0_stepLine_114, e_X0_stepLine_115, e_X0_stepLine_116, e_X0_stepLine_119, e_X0_stepLine_122, e_X0_stepLine_123, e_X0_stepLine_126, e_X0_stepLine_127, e_X0_stepLine_130, e_X0_stepLine_131, e_X0_stepLine_134, e_X0_stepLine_135, e_X0_stepLine_138, e_X0_stepLine_141, e_X0_stepLine_142, e_X0_stepLine_143, e_X0_stepLine_144, e_X0_stepLine_147, e_X0_stepLine_148, e_X0_stepLine_149, e_X0_stepLine_152, e_X0_stepLine_153, e_X0_stepLine_156, e_X0_stepLine_157, e_X0_stepLine_160, e_X0_stepLine_161, e_X0_stepLine_162, e_X0_stepLine_165, e_X0_stepLine_166, e_X0_stepLine_167, e_X0_stepLine_170, c_13, c_ct ha, g_ct_0 ha, g_ct_2 ha, g_ct_4 ha, g_S0_1 s56, g_13_9, isStep_20, h.xs, s30, d3, show ((1 : Int32) = 0) = False by decide, a1, isTest_n n1 n2 n3, d_failHere, zfit_b0, Option.bind_some, Option.isSome_some, Option.toList, List.cons_append, List.nil_append, zclr_i, zclr_r, zclr_n, zfit_i, zfit_l, and_self, if_true, if_false]
    · have rt : ∀ d, zcall (d + 14) 307 [.ref 143, .int (nI (2024 + (236 + 9 * st)))] (mk n m g (zu Y1 148 (2024 + (236 + 9 * st)) 7) JY1) = some (none, mk n m g Y3 JY1) := fun d => by
        rw [m_X12_readTest, eY3]
        simp only [e_X12_readTest_0, e_X12_readTest_1, e_X12_readTest_4, e_X12_readTest_5, e_X12_readTest_6, e_X12_readTest_7, e_X12_readTest_10, e_X12_readTest_11, e_X12_readTest_14, e_X12_readTest_15, e_X12_readTest_18, e_X12_readTest_19, e_X12_readTest_22, e_X12_readTest_23, e_X12_readTest_25, e_X12_readTest_26, e_X12_readTest_27, e_X12_readTest_28, e_X12_readTest_29, e_X12_readTest_32, e_X12_readTest_33, e_X12_readTest_34, e_X12_readTest_35, e_X12_readTest_36, e_X12_readTest_37, e_X12_readTest_38, e_X12_readTest_39, e_X12_readTest_42, e_X12_readTest_43, e_X12_readTest_46, e_X12_readTest_47, e_X12_readTest_50, e_X12_readTest_51, e_X12_readTest_52, e_X12_readTest_55, e_X12_readTest_56, e_X12_readTest_59, e_X12_readTest_60, e_X12_readTest_61, e_X12_readTest_62, e_X12_readTest_63, e_X12_readTest_64, e_X12_readTest_65, e_X12_readTest_68, e_X12_readTest_69, e_X12_readTest_70, e_X12_readTest_73, e_X12_readTest_76, e_X12_readTest_77, e_X12_readTest_78, e_X12_readTest_81, e_X12_readTest_82, e_X12_readTest_83, e_X12_readTest_86, e_X12_readTest_87, e_X12_readTest_89, e_X12_readTest_90, e_X12_readTest_91, e_X12_readTest_94, e_X12_readTest_95, e_X12_readTest_98, e_X12_readTest_99, e_X12_readTest_102, e_X12_readTest_105, e_X12_readTest_106, e_X12_readTest_107, e_X12_readTest_108, e_X12_readTest_109, e_X12_readTest_111, e_X12_readTest_114, e_X12_readTest_117, e_X12_readTest_118, e_X12_readTest_120, e_X12_readTest_123, e_X12_readTest_126, e_X12_readTest_127, e_X12_readTest_129, e_X12_readTest_132, e_X12_readTest_135, e_X12_readTest_136, e_X12_readTest_139, e_X12_readTest_140, e_X12_readTest_143, e_X12_readTest_144, e_X12_readTest_147, e_X12_readTest_148, e_X12_readTest_149, e_X12_readTest_150, e_X12_readTest_151, e_X12_readTest_152, e_X12_readTest_154, e_X12_readTest_157, e_X12_readTest_158, c_143, g_143_12, g_143_20, v_testWord, t1, show ((-1 : Int32) < 0) = True by decide, v_must_f r1, show nI (2024 + (236 + 9 * st)) + (6 : Int32) = nI (2024 + (236 + 9 * st + 6)) from eW st 6, show nI (2024 + (236 + 9 * st)) + (1 : Int32) = nI (2024 + (236 + 9 * st + 1)) from eW st 1, nI_neg (show 2024 + (236 + 9 * st + 6) < 2 ^ 31 by omega), nI_clamp (show 2024 + (236 + 9 * st + 6) < 2 ^ 31 by omega), k_148 (show 2024 + (236 + 9 * st + 6) < 2530 by omega), l_148 (show 2024 + (236 + 9 * st + 6) < 2530 by omega), nI_neg (show 2024 + (236 + 9 * st + 1) < 2 ^ 31 by omega), nI_clamp (show 2024 + (236 + 9 * st + 1) < 2 ^ 31 by omega), k_148 (show 2024 + (236 + 9 * st + 1) < 2530 by omega), l_148 (show 2024 + (236 + 9 * st + 1) < 2530 by omega), q_148, show ((-1 : Int32) = 2) = False by decide, show ((-1 : Int32) = 0) = False by decide, v_readTold_b hB1, hB2.lt, Option.bind_some, Option.isSome_some, Option.toList, List.cons_append, List.nil_append, zclr_i, zclr_r, zclr_n, zfit_i, zfit_l, and_self, if_true, if_false]
      have rr := v_rest7 y0 hst (rt (d + 4))
      rw [pre_20 h hk hst hd a2 n m g d]
      have e1 : zexec (d + 20) 309 126 [some (.ref 143), some (.int (nI dp)), some (.int 7), some (.int 1), some (.int (nI (2024 + (236 + 9 * st))))] [] (mk n m g (zu Y1 148 (2024 + (236 + 9 * st)) 7) JY1) = zexec (d + 20) 309 132 [some (.ref 143), some (.int (nI dp)), some (.int 7), some (.int 1), some (.int (nI (2024 + (236 + 9 * st))))] [] (mk n m g Y3 JY1) := by
        simp only [e_X12_readStep_126, e_X12_readStep_127, e_X12_readStep_129, c_143, rr, Option.bind_some, Option.isSome_some, Option.toList, List.cons_append, List.nil_append, zclr_i, zclr_r, zclr_n, zfit_i, zfit_l, and_self, if_true, if_false]
      rw [e1]
      exact bad132 (.inr rfl) (by rw [eY3]; exact hB2) hst d
    · rw [eY3]
      exact hB2.cc
  obtain ⟨X2, JX2, Y2, JY2, p2, b1, b2, b3, b4, _, b5, b6⟩ := r_adv r1
  have c1 := h.pre hst b3 (a5.trans b5) (by rw [b6.2.1 26 (by decide), zu_far _ _ _ (by decide), a6.2.1 26 (by decide), zu_row, if_pos rfl]) (by rw [b6.1 148 (by decide), zu_row, if_neg (by omega), a6.1 148 (by decide), zu_far _ _ _ (by decide)]) (by rw [b6.1 148 (by decide), zu_row, if_neg (by omega), a6.1 148 (by decide), zu_far _ _ _ (by decide)]) (by rw [b6.2.2.1 151 (by decide), a6.2.2.1 151 (by decide)])
  have y2 : Y2 148 (2024 + (236 + 9 * st)) = 7 := by rw [b6.1 148 (by decide)]; exact y0
  have x56 : X2 56 1 = nI st := by rw [b5.1 56 (by decide), a5.1 56 (by decide)]; exact h.xs
  have x562 : X2 56 2 = nI ln := by rw [b5.1 56 (by decide), a5.1 56 (by decide)]; exact h.xl
  have hln := h.hln
  have kp2 : KP ln st X (nb Y) (zu X2 56 1 (nI (st + 1))) (nb Y2) := KP.pre (a5.trans b5) (fun j hj => by rw [b6.yg.blk, nb1 j hj])
  have hx2 : HX X JX (zu X2 56 1 (nI (st + 1))) JX2 := (a5.hx.trans b5.hx).wr (by decide) (by decide)
  have gy2 := gy1.trans b6.yg.gy
  have main : ∀ (K test : Int32), (K = 21 ∧ test = 0) ∨ (K = 22 ∧ test = 1) ∨ (K = 23 ∧ test = 2) → X1 13 9 = K → RstL L p2 N S st ln (dp + 1) K (RT2 st test) (fun X c => HeaB X 56 c N S ln st) (zu X2 56 1 (nI (st + 1))) JX2 Y2 JY2 → Line L p N S st ln dp f X JX Y JY := fun K test hKt hK hR => by
    obtain ⟨X3, JX3, Y3, JY3, o1, o2, o3, o4⟩ := hR
    have tk : tW (zu Y1 148 (2024 + (236 + 9 * st)) 7) JY1 = test := by
      rw [t1, hK]
      rcases hKt with ⟨rfl, rfl⟩ | ⟨rfl, rfl⟩ | ⟨rfl, rfl⟩ <;> decide
    have t0 : (test < 0) = False := by rcases hKt with ⟨rfl, rfl⟩ | ⟨rfl, rfl⟩ | ⟨rfl, rfl⟩ <;> decide
    have isT : ∀ d hh, zcall d 4 [.int (X1 13 9)] hh = some (some (.int 1), hh) := fun d hh => isTest_y ct d hh
    have hcl : ∀ v, v = 0 ∨ v = 1 → (∀ dp f, Cc dp f dp f 15 6 [.int K] (zu X2 56 1 (nI (st + 1))) JX2 (some (.int v)) X3 JX3) → Cc dp f (dp + 1) (upd f dp (nI ln)) 20 5 [.int (X 13 9)] X JX (some (.int v)) X3 JX3 := fun v hv hc n m g d a ha => by
      rw [m_X0_stepLine, hk]
      have hc' : ∀ dp f, Cc dp f dp f 15 6 [.int (X1 13 9)] (zu X2 56 1 (nI (st + 1))) JX2 (some (.int v)) X3 JX3 := by rw [hK]; exact hc
      rcases hv with rfl | rfl <;> simp only [e_X0_stepLine_0, e_X0_stepLine_1, e_X0_stepLine_4, e_X0_stepLine_7, e_X0_stepLine_8, e_X0_stepLine_11, e_X0_stepLine_14, e_X0_stepLine_15, e_X0_stepLine_16, e_X0_stepLine_19, e_X0_stepLine_22, e_X0_stepLine_24, e_X0_stepLine_27, e_X0_stepLine_28, e_X0_stepLine_31, e_X0_stepLine_33, e_X0_stepLine_36, e_X0_stepLine_37, e_X0_stepLine_38, e_X0_stepLine_40, e_X0_stepLine_43, e_X0_stepLine_44, e_X0_stepLine_46, e_X0_stepLine_49, e_X0_stepLine_50, e_X0_stepLine_53, e_X0_stepLine_54, e_X0_stepLine_55, e_X0_stepLine_56, e_X0_stepLine_59, e_X0_stepLine_60, e_X0_stepLine_63, e_X0_stepLine_64, e_X0_stepLine_67, e_X0_stepLine_68, e_X0_stepLine_71, e_X0_stepLine_73, e_X0_stepLine_76, e_X0_stepLine_77, e_X0_stepLine_78, e_X0_stepLine_81, e_X0_stepLine_84, e_X0_stepLine_85, e_X0_stepLine_86, e_X0_stepLine_87, e_X0_stepLine_89, e_X0_stepLine_92, e_X0_stepLine_93, e_X0_stepLine_96, e_X0_stepLine_99, e_X0_stepLine_100, e_X0_stepLine_101, e_X0_stepLine_104, e_X0_stepLine_107, e_X0_stepLine_108, e_X0_stepLine_111, e_X0_stepLine_114, e_X0_stepLine_115, e_X0_stepLine_116, e_X0_stepLine_119, e_X0_stepLine_122, e_X0_stepLine_123, e_X0_stepLine_126, e_X0_stepLine_127, e_X0_stepLine_130, e_X0_stepLine_131, e_X0_stepLine_134, e_X0_stepLine_135, e_X0_stepLine_138, e_X0_stepLine_141, e_X0_stepLine_142, e_X0_stepLine_143, e_X0_stepLine_144, e_X0_stepLine_147, e_X0_stepLine_148, e_X0_stepLine_149, e_X0_stepLine_152, e_X0_stepLine_153, e_X0_stepLine_156, e_X0_stepLine_157, e_X0_stepLine_160, e_X0_stepLine_161, e_X0_stepLine_162, e_X0_stepLine_165, e_X0_stepLine_166, e_X0_stepLine_167, e_X0_stepLine_170, dup, c_13, c_ct ha, g_ct_0 ha, g_ct_2 ha, g_ct_3 ha, g_ct_4 ha, p_ct_4 ha, q_co ha, k_co ha hd, nI_neg (show dp < 2 ^ 31 by omega), nI_clamp (show dp < 2 ^ 31 by omega), d3, x562, g_S0_1 s56, g_S0_2 s56, p_S0_1 s56, g_13_9, isStep_20, h.xs, s30, show ((1 : Int32) = 0) = False by decide, a1, isT, b1, x56, nI_1, hc' _ _ _ _ _ _ _ ha, zfit_b0, zfit_b1, Option.bind_some, Option.isSome_some, Option.toList, List.cons_append, List.nil_append, zclr_i, zclr_r, zclr_n, zfit_i, zfit_l, and_self, if_true, if_false]
    have hrl : ∀ (n m : Nat) (g : Nat → zC) (d : Nat), zcall (d + 20) 309 [.ref 143, .int (nI dp)] (mk n m g Y JY) = zexec (d + 20) 309 132 [some (.ref 143), some (.int (nI dp)), some (.int 7), some (.int 1), some (.int (nI (2024 + (236 + 9 * st))))] [] (mk n m g Y3 JY3) := fun n m g d => by
      have rt : ∀ d, zcall (d + 14) 307 [.ref 143, .int (nI (2024 + (236 + 9 * st)))] (mk n m g (zu Y1 148 (2024 + (236 + 9 * st)) 7) JY1) = some (none, mk n m g Y3 JY3) := fun d => by
        have o2' := o2 n m g d
        rw [m_X12_readTest]
        simp only [e_X12_readTest_0, e_X12_readTest_1, e_X12_readTest_4, e_X12_readTest_5, e_X12_readTest_6, e_X12_readTest_7, e_X12_readTest_10, e_X12_readTest_11, e_X12_readTest_14, e_X12_readTest_15, c_143, v_testWord, tk, t0, v_must_t r1.bad b2, Option.bind_some, Option.isSome_some, Option.toList, List.cons_append, List.nil_append, zclr_i, zclr_r, zclr_n, zfit_i, zfit_l, and_self, if_true, if_false]
        exact o2'
      have rr := v_rest7 y0 hst (rt (d + 4))
      rw [pre_20 h hk hst hd a2 n m g d]
      simp only [e_X12_readStep_126, e_X12_readStep_127, e_X12_readStep_129, c_143, rr, Option.bind_some, Option.isSome_some, Option.toList, List.cons_append, List.nil_append, zclr_i, zclr_r, zclr_n, zfit_i, zfit_l, and_self, if_true, if_false]
    rcases o1 with ⟨q1, hB⟩ | ⟨q1, ⟨p3, q2, q3⟩, q4, q5⟩
    · refine ⟨X3, JX3, zu Y3 148 (2024 + (236 + 9 * st + 8)) (Y3 143 26), JY3, hx2.trans o3, (gy2.trans o4).cc, .inl ⟨⟨_, _, hcl 0 (.inl rfl) q1⟩, fun n m g d => ?_, hB.cc⟩⟩
      rw [hrl n m g d]
      exact bad132 (.inr rfl) hB hst d
    · exact ⟨X3, JX3, Y3, JY3, hx2.trans o3, gy2.trans o4, .inr (.inr ⟨hd, hst, hcl 1 (.inr rfl) q1, ⟨7, hrl⟩, ⟨p3, by omega, q3⟩, q4, kp2.trans q5 (Nat.le_refl _) (Nat.le_refl _)⟩)⟩
  rcases ct with c | c | c
  · exact main 21 0 (.inl ⟨rfl, rfl⟩) c (rt_21 c1 (by omega) hst y2)
  · exact main 22 1 (.inr (.inl ⟨rfl, rfl⟩)) c (rt_22 c1 (by omega) hst y2)
  · exact main 23 2 (.inr (.inr ⟨rfl, rfl⟩)) c (rt_23 c1 (by omega) hst y2)
theorem r_line (h : CR L p N S st ln dp X JX Y JY) (hdp : dp ≤ 3) : Line L p N S st ln dp f X JX Y JY := by
  by_cases k0 : X 13 9 = 0
  · exact line_0 h k0
  by_cases k15 : X 13 9 = 15
  · exact line_15 h k15
  by_cases k16 : X 13 9 = 16
  · exact line_16 h k16
  by_cases k11 : X 13 9 = 11
  · exact line_11 h k11
  by_cases k17 : X 13 9 = 17
  · exact line_17 h k17
  by_cases k18 : X 13 9 = 18
  · exact line_18 h k18
  by_cases k19 : X 13 9 = 19
  · exact line_19 h k19
  by_cases k20 : X 13 9 = 20
  · exact line_20 h hdp k20
  by_cases k24 : X 13 9 = 24
  · exact line_24 h hdp k24
  by_cases k26 : X 13 9 = 26
  · exact line_26 h k26
  have hB := h.rs.here
  have s0 := h.rs.step
  rw [sK_no k0 k15 k16 k11 k17 k18 k19 k20 k24 k26] at s0
  refine ⟨dHere X, JX, vFail (kH X) (X 13 4) Y, JY, FX.here.hx, (YG.fail _ _).gy, .inl ⟨⟨dp, f, fun n m g d a ha => ?_⟩, fun n m g d => ?_, hB⟩⟩
  · rw [m_X0_stepLine]
    simp only [e_X0_stepLine_0, e_X0_stepLine_1, e_X0_stepLine_4, e_X0_stepLine_7, e_X0_stepLine_8, e_X0_stepLine_11, e_X0_stepLine_14, e_X0_stepLine_15, e_X0_stepLine_16, e_X0_stepLine_19, e_X0_stepLine_22, e_X0_stepLine_24, e_X0_stepLine_27, e_X0_stepLine_28, e_X0_stepLine_31, e_X0_stepLine_33, e_X0_stepLine_36, e_X0_stepLine_37, e_X0_stepLine_38, e_X0_stepLine_40, e_X0_stepLine_43, e_X0_stepLine_44, e_X0_stepLine_46, e_X0_stepLine_49, e_X0_stepLine_50, e_X0_stepLine_53, e_X0_stepLine_54, e_X0_stepLine_55, e_X0_stepLine_56, e_X0_stepLine_59, e_X0_stepLine_60, e_X0_stepLine_63, e_X0_stepLine_64, e_X0_stepLine_67, e_X0_stepLine_68, e_X0_stepLine_71, e_X0_stepLine_73, e_X0_stepLine_76, e_X0_stepLine_77, e_X0_stepLine_78, e_X0_stepLine_81, e_X0_stepLine_84, e_X0_stepLine_85, e_X0_stepLine_86, e_X0_stepLine_87, e_X0_stepLine_89, e_X0_stepLine_92, e_X0_stepLine_93, e_X0_stepLine_96, e_X0_stepLine_99, e_X0_stepLine_100, e_X0_stepLine_101, e_X0_stepLine_104, e_X0_stepLine_107, e_X0_stepLine_108, e_X0_stepLine_111, e_X0_stepLine_114, e_X0_stepLine_115, e_X0_stepLine_116, e_X0_stepLine_119, e_X0_stepLine_122, e_X0_stepLine_123, e_X0_stepLine_126, e_X0_stepLine_127, e_X0_stepLine_130, e_X0_stepLine_131, e_X0_stepLine_134, e_X0_stepLine_135, e_X0_stepLine_138, e_X0_stepLine_141, e_X0_stepLine_142, e_X0_stepLine_143, e_X0_stepLine_144, e_X0_stepLine_147, e_X0_stepLine_148, e_X0_stepLine_149, e_X0_stepLine_152, e_X0_stepLine_153, e_X0_stepLine_156, e_X0_stepLine_157, e_X0_stepLine_160, e_X0_stepLine_161, e_X0_stepLine_162, e_X0_stepLine_165, e_X0_stepLine_166, e_X0_stepLine_167, e_X0_stepLine_170, c_13, g_ct_0 ha, isStep_n h.rs k0 k15 k16 k11 k17 k18 k19 k20 k24 k26, d_failHere, zfit_b0, Option.bind_some, Option.isSome_some, Option.toList, List.cons_append, List.nil_append, zclr_i, zclr_r, zclr_n, zfit_i, zfit_l, and_self, if_true, if_false]
  · rw [m_X12_readStep]
    simp only [e_X12_readStep_0, e_X12_readStep_1, e_X12_readStep_4, e_X12_readStep_5, e_X12_readStep_6, e_X12_readStep_8, e_X12_readStep_11, e_X12_readStep_12, e_X12_readStep_14, e_X12_readStep_17, e_X12_readStep_18, e_X12_readStep_21, e_X12_readStep_22, e_X12_readStep_23, e_X12_readStep_24, e_X12_readStep_27, e_X12_readStep_28, e_X12_readStep_31, e_X12_readStep_32, e_X12_readStep_35, e_X12_readStep_38, e_X12_readStep_39, e_X12_readStep_42, e_X12_readStep_44, e_X12_readStep_47, e_X12_readStep_48, e_X12_readStep_50, e_X12_readStep_51, e_X12_readStep_54, e_X12_readStep_57, e_X12_readStep_58, e_X12_readStep_61, e_X12_readStep_64, e_X12_readStep_65, e_X12_readStep_68, e_X12_readStep_69, e_X12_readStep_70, e_X12_readStep_73, e_X12_readStep_74, e_X12_readStep_76, e_X12_readStep_77, e_X12_readStep_80, e_X12_readStep_83, e_X12_readStep_84, e_X12_readStep_87, e_X12_readStep_90, c_143, v_stepWord, s0, show ((-1 : Int32) = 7) = False by decide, show ((-1 : Int32) = 8) = False by decide, show ((0 : Int32) ≤ -1) = False by decide, v_amiss h.rs, g_143_12, hB.ne, hB.le, Option.bind_some, Option.isSome_some, Option.toList, List.cons_append, List.nil_append, zclr_i, zclr_r, zclr_n, zfit_i, zfit_l, and_self, if_true, if_false]
end CE
