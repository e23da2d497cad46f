/-! READING A TOWN: one part (written by wip/whole/gen_p.py) -/
section TJ
variable {n m : Nat} {g : Nat → zC} {A X Y X1 Y1 : Nat → Nat → Int32} {JX JY JX1 JY1 : Nat → Nat → Int64} {L p p' p1 N S q b U : Nat} {t x : Int32} {c c' : Nat → Int32} {X' Y' : Nat → Nat → Int32} {JX' JY' : Nat → Nat → Int64}
theorem sK0 {x : Int32} : (sK x = 0) = (x = 0) := by
  unfold sK
  by_cases h : x = 0
  · simp [h]
  · rw [if_neg h]
    refine propext ⟨fun q => ?_, fun q => absurd q h⟩
    exfalso
    revert q
    repeat' split
    all_goals decide
theorem sK3 {x : Int32} : (sK x = 3) = (x = 11) := by
  unfold sK
  by_cases h : x = 11
  · simp [h]
  · refine propext ⟨fun q => ?_, fun q => absurd q h⟩
    exfalso
    rw [if_neg h] at q
    revert q
    repeat' split
    all_goals decide
def OutR (L p : Nat) (t : Int32) (X : Nat → Nat → Int32) (JX : Nat → Nat → Int64) (Y : Nat → Nat → Int32) (JY : Nat → Nat → Int64) : Prop := ∃ t' X' JX' Y' JY', ((Ch t t' 22 122 [] X JX (some (.int 0)) X' JX' ∧ BAD X' Y') ∨ (Ch t t' 22 122 [] X JX (some (.int 1)) X' JX' ∧ ∃ p' N' S', p ≤ p' ∧ TS L p' t' N' S' X' JX' Y' JY') ∨ (Ch t t' 22 122 [] X JX (some (.int 1)) X' JX' ∧ X' 13 5 ≠ 4 ∧ BAD (dHere X') Y')) ∧ Ca 22 305 [.ref 143] Y JY none Y' JY' ∧ GX X JX X' JX' ∧ GY Y JY Y' JY'
theorem OutP.up {yc yr : Nat} {ac ar : List Value} (o : OutP L p t yc ac yr ar X JX Y JY) (hc : ∀ (v t' : Int32) X' JX', v = 0 ∨ v = 1 → Ch t t' 20 yc ac X JX (some (.int v)) X' JX' → Ch t t' 22 122 [] X JX (some (.int v)) X' JX') (hr : ∀ Y' JY', Ca 20 yr (.ref 143 :: ar) Y JY none Y' JY' → Ca 22 305 [.ref 143] Y JY none Y' JY') : OutR L p t X JX Y JY := by
  obtain ⟨t', X', JX', Y', JY', h1, h2, h3, h4⟩ := o
  refine ⟨t', X', JX', Y', JY', ?_, hr _ _ h2, h3, h4⟩
  rcases h1 with ⟨c1, c2⟩ | ⟨c1, c2⟩ | ⟨c1, c2⟩
  · exact .inl ⟨hc 0 t' X' JX' (.inl rfl) c1, c2⟩
  · exact .inr (.inl ⟨hc 1 t' X' JX' (.inr rfl) c1, c2⟩)
  · exact .inr (.inr ⟨hc 1 t' X' JX' (.inr rfl) c1, c2⟩)
theorem r_part0 (h : TS L p t N S X JX Y JY) (hk : X 13 9 = 0) : OutR L p t X JX Y JY := by
  have p0 : (X 13 9 = 0) = True := eq_true hk
  have p1 : (X 13 9 = 1) = False := by rw [hk]; decide
  have p2 : (X 13 9 = 2) = False := by rw [hk]; decide
  have p3 : (X 13 9 = 3) = False := by rw [hk]; decide
  have p5 : (X 13 9 = 5) = False := by rw [hk]; decide
  have p10 : (X 13 9 = 10) = False := by rw [hk]; decide
  have p11 : (X 13 9 = 11) = False := by rw [hk]; decide
  have p12 : (X 13 9 = 12) = False := by rw [hk]; decide
  have p13 : (X 13 9 = 13) = False := by rw [hk]; decide
  refine (r_head0 h hk).up (fun v t' X' JX' hv hC n m g d a ha hg => ?_) (fun Y' JY' hR n m g d => ?_)
  · have hs : zcall (d + 22) 122 [.ref a] (mk n m g X JX) = zexec (d + 22) 122 76 [some (.ref a)] [] (mk n m g X JX) := by
      rw [m_X8_readPart]
      simp only [e_X8_readPart_0, e_X8_readPart_1, e_X8_readPart_4, g_tt_0 ha hg, g_13_9, hk, Option.bind_some, Option.isSome_some, Option.toList, List.cons_append, List.nil_append, zclr_i, zclr_r, zclr_n, zfit_i, zfit_l, and_self, if_true, if_false]
      rw [e_X8_readPart_7, zsx_to 76 _ _ rfl]
    rw [hs]
    rcases hv with rfl | rfl <;> simp only [e_X8_readPart_76, e_X8_readPart_77, e_X8_readPart_78, e_X8_readPart_81, e_X8_readPart_84, e_X8_readPart_87, e_X8_readPart_88, e_X8_readPart_89, e_X8_readPart_92, e_X8_readPart_93, e_X8_readPart_94, e_X8_readPart_97, e_X8_readPart_98, e_X8_readPart_99, e_X8_readPart_102, e_X8_readPart_103, e_X8_readPart_104, e_X8_readPart_107, e_X8_readPart_108, e_X8_readPart_109, e_X8_readPart_112, e_X8_readPart_113, e_X8_readPart_114, e_X8_readPart_117, c_tt ha hg, g_tt_0 ha hg, g_13_9, hk, hC _ _ _ _ _ ha hg, zfit_b0, zfit_b1, Option.bind_some, Option.isSome_some, Option.toList, List.cons_append, List.nil_append, zclr_i, zclr_r, zclr_n, zfit_i, zfit_l, and_self, if_true, if_false]
  · rw [m_X12_readPart]
    simp only [e_X12_readPart_0, e_X12_readPart_1, e_X12_readPart_4, e_X12_readPart_7, e_X12_readPart_8, e_X12_readPart_9, e_X12_readPart_10, e_X12_readPart_13, e_X12_readPart_16, e_X12_readPart_19, e_X12_readPart_22, e_X12_readPart_23, e_X12_readPart_26, e_X12_readPart_29, e_X12_readPart_30, e_X12_readPart_31, e_X12_readPart_32, e_X12_readPart_33, e_X12_readPart_35, e_X12_readPart_38, e_X12_readPart_41, e_X12_readPart_42, e_X12_readPart_45, e_X12_readPart_48, e_X12_readPart_49, e_X12_readPart_50, e_X12_readPart_51, e_X12_readPart_53, e_X12_readPart_55, e_X12_readPart_58, e_X12_readPart_61, e_X12_readPart_62, e_X12_readPart_65, e_X12_readPart_68, e_X12_readPart_69, e_X12_readPart_72, e_X12_readPart_75, e_X12_readPart_76, e_X12_readPart_79, e_X12_readPart_82, e_X12_readPart_83, e_X12_readPart_86, e_X12_readPart_89, e_X12_readPart_90, e_X12_readPart_93, e_X12_readPart_96, e_X12_readPart_97, e_X12_readPart_100, e_X12_readPart_103, e_X12_readPart_104, e_X12_readPart_107, e_X12_readPart_108, e_X12_readPart_111, e_X12_readPart_112, e_X12_readPart_115, e_X12_readPart_118, e_X12_readPart_119, e_X12_readPart_122, e_X12_readPart_125, e_X12_readPart_126, e_X12_readPart_129, e_X12_readPart_132, e_X12_readPart_133, e_X12_readPart_136, e_X12_readPart_139, e_X12_readPart_140, e_X12_readPart_143, e_X12_readPart_146, e_X12_readPart_147, e_X12_readPart_150, c_143, v_stepWord, h.rs.step, sK0, sK3, v_isMost, v_isLife, v_isNameWord, v_isPerson, v_isChild, v_isLikes, v_isWaits, h.rs.k1, h.rs.k2, h.rs.k3, h.rs.k5, h.rs.k10, h.rs.k12, h.rs.k13, p0, p1, p2, p3, p5, p10, p11, p12, p13, decide_true, decide_false, bI, Bool.false_eq_true, show ((1 : Int32) = 0) = False by decide, hR, Option.bind_some, Option.isSome_some, Option.toList, List.cons_append, List.nil_append, zclr_i, zclr_r, zclr_n, zfit_i, zfit_l, and_self, if_true, if_false]
theorem r_part1 (h : TS L p t N S X JX Y JY) (hk : X 13 9 = 1) : OutR L p t X JX Y JY := by
  have p0 : (X 13 9 = 0) = False := by rw [hk]; decide
  have p1 : (X 13 9 = 1) = True := eq_true hk
  have p2 : (X 13 9 = 2) = False := by rw [hk]; decide
  have p3 : (X 13 9 = 3) = False := by rw [hk]; decide
  have p5 : (X 13 9 = 5) = False := by rw [hk]; decide
  have p10 : (X 13 9 = 10) = False := by rw [hk]; decide
  have p11 : (X 13 9 = 11) = False := by rw [hk]; decide
  have p12 : (X 13 9 = 12) = False := by rw [hk]; decide
  have p13 : (X 13 9 = 13) = False := by rw [hk]; decide
  refine (r_head1 h hk).up (fun v t' X' JX' hv hC n m g d a ha hg => ?_) (fun Y' JY' hR n m g d => ?_)
  · have hs : zcall (d + 22) 122 [.ref a] (mk n m g X JX) = zexec (d + 22) 122 76 [some (.ref a)] [] (mk n m g X JX) := by
      rw [m_X8_readPart]
      simp only [e_X8_readPart_0, e_X8_readPart_1, e_X8_readPart_4, g_tt_0 ha hg, g_13_9, hk, Option.bind_some, Option.isSome_some, Option.toList, List.cons_append, List.nil_append, zclr_i, zclr_r, zclr_n, zfit_i, zfit_l, and_self, if_true, if_false]
      rw [e_X8_readPart_7, zsx_to 76 _ _ rfl]
    rw [hs]
    rcases hv with rfl | rfl <;> simp only [e_X8_readPart_76, e_X8_readPart_77, e_X8_readPart_78, e_X8_readPart_81, e_X8_readPart_84, e_X8_readPart_87, e_X8_readPart_88, e_X8_readPart_89, e_X8_readPart_92, e_X8_readPart_93, e_X8_readPart_94, e_X8_readPart_97, e_X8_readPart_98, e_X8_readPart_99, e_X8_readPart_102, e_X8_readPart_103, e_X8_readPart_104, e_X8_readPart_107, e_X8_readPart_108, e_X8_readPart_109, e_X8_readPart_112, e_X8_readPart_113, e_X8_readPart_114, e_X8_readPart_117, c_tt ha hg, g_tt_0 ha hg, g_13_9, hk, hC _ _ _ _ _ ha hg, zfit_b0, zfit_b1, Option.bind_some, Option.isSome_some, Option.toList, List.cons_append, List.nil_append, zclr_i, zclr_r, zclr_n, zfit_i, zfit_l, and_self, if_true, if_false]
  · rw [m_X12_readPart]
    simp only [e_X12_readPart_0, e_X12_readPart_1, e_X12_readPart_4, e_X12_readPart_7, e_X12_readPart_8, e_X12_readPart_9, e_X12_readPart_10, e_X12_readPart_13, e_X12_readPart_16, e_X12_readPart_19, e_X12_readPart_22, e_X12_readPart_23, e_X12_readPart_26, e_X12_readPart_29, e_X12_readPart_30, e_X12_readPart_31, e_X12_readPart_32, e_X12_readPart_33, e_X12_readPart_35, e_X12_readPart_38, e_X12_readPart_41, e_X12_readPart_42, e_X12_readPart_45, e_X12_readPart_48, e_X12_readPart_49, e_X12_readPart_50, e_X12_readPart_51, e_X12_readPart_53, e_X12_readPart_55, e_X12_readPart_58, e_X12_readPart_61, e_X12_readPart_62, e_X12_readPart_65, e_X12_readPart_68, e_X12_readPart_69, e_X12_readPart_72, e_X12_readPart_75, e_X12_readPart_76, e_X12_readPart_79, e_X12_readPart_82, e_X12_readPart_83, e_X12_readPart_86, e_X12_readPart_89, e_X12_readPart_90, e_X12_readPart_93, e_X12_readPart_96, e_X12_readPart_97, e_X12_readPart_100, e_X12_readPart_103, e_X12_readPart_104, e_X12_readPart_107, e_X12_readPart_108, e_X12_readPart_111, e_X12_readPart_112, e_X12_readPart_115, e_X12_readPart_118, e_X12_readPart_119, e_X12_readPart_122, e_X12_readPart_125, e_X12_readPart_126, e_X12_readPart_129, e_X12_readPart_132, e_X12_readPart_133, e_X12_readPart_136, e_X12_readPart_139, e_X12_readPart_140, e_X12_readPart_143, e_X12_readPart_146, e_X12_readPart_147, e_X12_readPart_150, c_143, v_stepWord, h.rs.step, sK0, sK3, v_isMost, v_isLife, v_isNameWord, v_isPerson, v_isChild, v_isLikes, v_isWaits, h.rs.k1, h.rs.k2, h.rs.k3, h.rs.k5, h.rs.k10, h.rs.k12, h.rs.k13, p0, p1, p2, p3, p5, p10, p11, p12, p13, decide_true, decide_false, bI, Bool.false_eq_true, show ((1 : Int32) = 0) = False by decide, hR, Option.bind_some, Option.isSome_some, Option.toList, List.cons_append, List.nil_append, zclr_i, zclr_r, zclr_n, zfit_i, zfit_l, and_self, if_true, if_false]
theorem r_part2 (h : TS L p t N S X JX Y JY) (hk : X 13 9 = 2) : OutR L p t X JX Y JY := by
  have p0 : (X 13 9 = 0) = False := by rw [hk]; decide
  have p1 : (X 13 9 = 1) = False := by rw [hk]; decide
  have p2 : (X 13 9 = 2) = True := eq_true hk
  have p3 : (X 13 9 = 3) = False := by rw [hk]; decide
  have p5 : (X 13 9 = 5) = False := by rw [hk]; decide
  have p10 : (X 13 9 = 10) = False := by rw [hk]; decide
  have p11 : (X 13 9 = 11) = False := by rw [hk]; decide
  have p12 : (X 13 9 = 12) = False := by rw [hk]; decide
  have p13 : (X 13 9 = 13) = False := by rw [hk]; decide
  refine (r_head2 h hk).up (fun v t' X' JX' hv hC n m g d a ha hg => ?_) (fun Y' JY' hR n m g d => ?_)
  · have hs : zcall (d + 22) 122 [.ref a] (mk n m g X JX) = zexec (d + 22) 122 76 [some (.ref a)] [] (mk n m g X JX) := by
      rw [m_X8_readPart]
      simp only [e_X8_readPart_0, e_X8_readPart_1, e_X8_readPart_4, g_tt_0 ha hg, g_13_9, hk, Option.bind_some, Option.isSome_some, Option.toList, List.cons_append, List.nil_append, zclr_i, zclr_r, zclr_n, zfit_i, zfit_l, and_self, if_true, if_false]
      rw [e_X8_readPart_7, zsx_to 76 _ _ rfl]
    rw [hs]
    rcases hv with rfl | rfl <;> simp only [e_X8_readPart_76, e_X8_readPart_77, e_X8_readPart_78, e_X8_readPart_81, e_X8_readPart_84, e_X8_readPart_87, e_X8_readPart_88, e_X8_readPart_89, e_X8_readPart_92, e_X8_readPart_93, e_X8_readPart_94, e_X8_readPart_97, e_X8_readPart_98, e_X8_readPart_99, e_X8_readPart_102, e_X8_readPart_103, e_X8_readPart_104, e_X8_readPart_107, e_X8_readPart_108, e_X8_readPart_109, e_X8_readPart_112, e_X8_readPart_113, e_X8_readPart_114, e_X8_readPart_117, c_tt ha hg, g_tt_0 ha hg, g_13_9, hk, hC _ _ _ _ _ ha hg, zfit_b0, zfit_b1, Option.bind_some, Option.isSome_some, Option.toList, List.cons_append, List.nil_append, zclr_i, zclr_r, zclr_n, zfit_i, zfit_l, and_self, if_true, if_false]
  · rw [m_X12_readPart]
    simp only [e_X12_readPart_0, e_X12_readPart_1, e_X12_readPart_4, e_X12_readPart_7, e_X12_readPart_8, e_X12_readPart_9, e_X12_readPart_10, e_X12_readPart_13, e_X12_readPart_16, e_X12_readPart_19, e_X12_readPart_22, e_X12_readPart_23, e_X12_readPart_26, e_X12_readPart_29, e_X12_readPart_30, e_X12_readPart_31, e_X12_readPart_32, e_X12_readPart_33, e_X12_readPart_35, e_X12_readPart_38, e_X12_readPart_41, e_X12_readPart_42, e_X12_readPart_45, e_X12_readPart_48, e_X12_readPart_49, e_X12_readPart_50, e_X12_readPart_51, e_X12_readPart_53, e_X12_readPart_55, e_X12_readPart_58, e_X12_readPart_61, e_X12_readPart_62, e_X12_readPart_65, e_X12_readPart_68, e_X12_readPart_69, e_X12_readPart_72, e_X12_readPart_75, e_X12_readPart_76, e_X12_readPart_79, e_X12_readPart_82, e_X12_readPart_83, e_X12_readPart_86, e_X12_readPart_89, e_X12_readPart_90, e_X12_readPart_93, e_X12_readPart_96, e_X12_readPart_97, e_X12_readPart_100, e_X12_readPart_103, e_X12_readPart_104, e_X12_readPart_107, e_X12_readPart_108, e_X12_readPart_111, e_X12_readPart_112, e_X12_readPart_115, e_X12_readPart_118, e_X12_readPart_119, e_X12_readPart_122, e_X12_readPart_125, e_X12_readPart_126, e_X12_readPart_129, e_X12_readPart_132, e_X12_readPart_133, e_X12_readPart_136, e_X12_readPart_139, e_X12_readPart_140, e_X12_readPart_143, e_X12_readPart_146, e_X12_readPart_147, e_X12_readPart_150, c_143, v_stepWord, h.rs.step, sK0, sK3, v_isMost, v_isLife, v_isNameWord, v_isPerson, v_isChild, v_isLikes, v_isWaits, h.rs.k1, h.rs.k2, h.rs.k3, h.rs.k5, h.rs.k10, h.rs.k12, h.rs.k13, p0, p1, p2, p3, p5, p10, p11, p12, p13, decide_true, decide_false, bI, Bool.false_eq_true, show ((1 : Int32) = 0) = False by decide, hR, Option.bind_some, Option.isSome_some, Option.toList, List.cons_append, List.nil_append, zclr_i, zclr_r, zclr_n, zfit_i, zfit_l, and_self, if_true, if_false]
theorem r_part3 (h : TS L p t N S X JX Y JY) (hk : X 13 9 = 3) : OutR L p t X JX Y JY := by
  have p0 : (X 13 9 = 0) = False := by rw [hk]; decide
  have p1 : (X 13 9 = 1) = False := by rw [hk]; decide
  have p2 : (X 13 9 = 2) = False := by rw [hk]; decide
  have p3 : (X 13 9 = 3) = True := eq_true hk
  have p5 : (X 13 9 = 5) = False := by rw [hk]; decide
  have p10 : (X 13 9 = 10) = False := by rw [hk]; decide
  have p11 : (X 13 9 = 11) = False := by rw [hk]; decide
  have p12 : (X 13 9 = 12) = False := by rw [hk]; decide
  have p13 : (X 13 9 = 13) = False := by rw [hk]; decide
  refine ((r_surname h).toP).up (fun v t' X' JX' hv hC n m g d a ha hg => ?_) (fun Y' JY' hR n m g d => ?_)
  · have hs : zcall (d + 22) 122 [.ref a] (mk n m g X JX) = zexec (d + 22) 122 88 [some (.ref a)] [] (mk n m g X JX) := by
      rw [m_X8_readPart]
      simp only [e_X8_readPart_0, e_X8_readPart_1, e_X8_readPart_4, g_tt_0 ha hg, g_13_9, hk, Option.bind_some, Option.isSome_some, Option.toList, List.cons_append, List.nil_append, zclr_i, zclr_r, zclr_n, zfit_i, zfit_l, and_self, if_true, if_false]
      rw [e_X8_readPart_7, zsx_to 88 _ _ rfl]
    rw [hs]
    rcases hv with rfl | rfl <;> simp only [e_X8_readPart_88, e_X8_readPart_89, e_X8_readPart_92, e_X8_readPart_93, e_X8_readPart_94, e_X8_readPart_97, e_X8_readPart_98, e_X8_readPart_99, e_X8_readPart_102, e_X8_readPart_103, e_X8_readPart_104, e_X8_readPart_107, e_X8_readPart_108, e_X8_readPart_109, e_X8_readPart_112, e_X8_readPart_113, e_X8_readPart_114, e_X8_readPart_117, c_tt ha hg, g_tt_0 ha hg, g_13_9, hk, hC _ _ _ _ _ ha hg, zfit_b0, zfit_b1, Option.bind_some, Option.isSome_some, Option.toList, List.cons_append, List.nil_append, zclr_i, zclr_r, zclr_n, zfit_i, zfit_l, and_self, if_true, if_false]
  · rw [m_X12_readPart]
    simp only [e_X12_readPart_0, e_X12_readPart_1, e_X12_readPart_4, e_X12_readPart_7, e_X12_readPart_8, e_X12_readPart_9, e_X12_readPart_10, e_X12_readPart_13, e_X12_readPart_16, e_X12_readPart_19, e_X12_readPart_22, e_X12_readPart_23, e_X12_readPart_26, e_X12_readPart_29, e_X12_readPart_30, e_X12_readPart_31, e_X12_readPart_32, e_X12_readPart_33, e_X12_readPart_35, e_X12_readPart_38, e_X12_readPart_41, e_X12_readPart_42, e_X12_readPart_45, e_X12_readPart_48, e_X12_readPart_49, e_X12_readPart_50, e_X12_readPart_51, e_X12_readPart_53, e_X12_readPart_55, e_X12_readPart_58, e_X12_readPart_61, e_X12_readPart_62, e_X12_readPart_65, e_X12_readPart_68, e_X12_readPart_69, e_X12_readPart_72, e_X12_readPart_75, e_X12_readPart_76, e_X12_readPart_79, e_X12_readPart_82, e_X12_readPart_83, e_X12_readPart_86, e_X12_readPart_89, e_X12_readPart_90, e_X12_readPart_93, e_X12_readPart_96, e_X12_readPart_97, e_X12_readPart_100, e_X12_readPart_103, e_X12_readPart_104, e_X12_readPart_107, e_X12_readPart_108, e_X12_readPart_111, e_X12_readPart_112, e_X12_readPart_115, e_X12_readPart_118, e_X12_readPart_119, e_X12_readPart_122, e_X12_readPart_125, e_X12_readPart_126, e_X12_readPart_129, e_X12_readPart_132, e_X12_readPart_133, e_X12_readPart_136, e_X12_readPart_139, e_X12_readPart_140, e_X12_readPart_143, e_X12_readPart_146, e_X12_readPart_147, e_X12_readPart_150, c_143, v_stepWord, h.rs.step, sK0, sK3, v_isMost, v_isLife, v_isNameWord, v_isPerson, v_isChild, v_isLikes, v_isWaits, h.rs.k1, h.rs.k2, h.rs.k3, h.rs.k5, h.rs.k10, h.rs.k12, h.rs.k13, p0, p1, p2, p3, p5, p10, p11, p12, p13, decide_true, decide_false, bI, Bool.false_eq_true, show ((1 : Int32) = 0) = False by decide, hR, Option.bind_some, Option.isSome_some, Option.toList, List.cons_append, List.nil_append, zclr_i, zclr_r, zclr_n, zfit_i, zfit_l, and_self, if_true, if_false]
theorem r_part5 (h : TS L p t N S X JX Y JY) (hk : X 13 9 = 5) : OutR L p t X JX Y JY := by
  have p0 : (X 13 9 = 0) = False := by rw [hk]; decide
  have p1 : (X 13 9 = 1) = False := by rw [hk]; decide
  have p2 : (X 13 9 = 2) = False := by rw [hk]; decide
  have p3 : (X 13 9 = 3) = False := by rw [hk]; decide
  have p5 : (X 13 9 = 5) = True := eq_true hk
  have p10 : (X 13 9 = 10) = False := by rw [hk]; decide
  have p11 : (X 13 9 = 11) = False := by rw [hk]; decide
  have p12 : (X 13 9 = 12) = False := by rw [hk]; decide
  have p13 : (X 13 9 = 13) = False := by rw [hk]; decide
  refine ((r_person h).toP).up (fun v t' X' JX' hv hC n m g d a ha hg => ?_) (fun Y' JY' hR n m g d => ?_)
  · have hs : zcall (d + 22) 122 [.ref a] (mk n m g X JX) = zexec (d + 22) 122 93 [some (.ref a)] [] (mk n m g X JX) := by
      rw [m_X8_readPart]
      simp only [e_X8_readPart_0, e_X8_readPart_1, e_X8_readPart_4, g_tt_0 ha hg, g_13_9, hk, Option.bind_some, Option.isSome_some, Option.toList, List.cons_append, List.nil_append, zclr_i, zclr_r, zclr_n, zfit_i, zfit_l, and_self, if_true, if_false]
      rw [e_X8_readPart_7, zsx_to 93 _ _ rfl]
    rw [hs]
    rcases hv with rfl | rfl <;> simp only [e_X8_readPart_93, e_X8_readPart_94, e_X8_readPart_97, e_X8_readPart_98, e_X8_readPart_99, e_X8_readPart_102, e_X8_readPart_103, e_X8_readPart_104, e_X8_readPart_107, e_X8_readPart_108, e_X8_readPart_109, e_X8_readPart_112, e_X8_readPart_113, e_X8_readPart_114, e_X8_readPart_117, c_tt ha hg, g_tt_0 ha hg, g_13_9, hk, hC _ _ _ _ _ ha hg, zfit_b0, zfit_b1, Option.bind_some, Option.isSome_some, Option.toList, List.cons_append, List.nil_append, zclr_i, zclr_r, zclr_n, zfit_i, zfit_l, and_self, if_true, if_false]
  · rw [m_X12_readPart]
    simp only [e_X12_readPart_0, e_X12_readPart_1, e_X12_readPart_4, e_X12_readPart_7, e_X12_readPart_8, e_X12_readPart_9, e_X12_readPart_10, e_X12_readPart_13, e_X12_readPart_16, e_X12_readPart_19, e_X12_readPart_22, e_X12_readPart_23, e_X12_readPart_26, e_X12_readPart_29, e_X12_readPart_30, e_X12_readPart_31, e_X12_readPart_32, e_X12_readPart_33, e_X12_readPart_35, e_X12_readPart_38, e_X12_readPart_41, e_X12_readPart_42, e_X12_readPart_45, e_X12_readPart_48, e_X12_readPart_49, e_X12_readPart_50, e_X12_readPart_51, e_X12_readPart_53, e_X12_readPart_55, e_X12_readPart_58, e_X12_readPart_61, e_X12_readPart_62, e_X12_readPart_65, e_X12_readPart_68, e_X12_readPart_69, e_X12_readPart_72, e_X12_readPart_75, e_X12_readPart_76, e_X12_readPart_79, e_X12_readPart_82, e_X12_readPart_83, e_X12_readPart_86, e_X12_readPart_89, e_X12_readPart_90, e_X12_readPart_93, e_X12_readPart_96, e_X12_readPart_97, e_X12_readPart_100, e_X12_readPart_103, e_X12_readPart_104, e_X12_readPart_107, e_X12_readPart_108, e_X12_readPart_111, e_X12_readPart_112, e_X12_readPart_115, e_X12_readPart_118, e_X12_readPart_119, e_X12_readPart_122, e_X12_readPart_125, e_X12_readPart_126, e_X12_readPart_129, e_X12_readPart_132, e_X12_readPart_133, e_X12_readPart_136, e_X12_readPart_139, e_X12_readPart_140, e_X12_readPart_143, e_X12_readPart_146, e_X12_readPart_147, e_X12_readPart_150, c_143, v_stepWord, h.rs.step, sK0, sK3, v_isMost, v_isLife, v_isNameWord, v_isPerson, v_isChild, v_isLikes, v_isWaits, h.rs.k1, h.rs.k2, h.rs.k3, h.rs.k5, h.rs.k10, h.rs.k12, h.rs.k13, p0, p1, p2, p3, p5, p10, p11, p12, p13, decide_true, decide_false, bI, Bool.false_eq_true, show ((1 : Int32) = 0) = False by decide, hR, Option.bind_some, Option.isSome_some, Option.toList, List.cons_append, List.nil_append, zclr_i, zclr_r, zclr_n, zfit_i, zfit_l, and_self, if_true, if_false]
theorem r_part10 (h : TS L p t N S X JX Y JY) (hk : X 13 9 = 10) : OutR L p t X JX Y JY := by
  have p0 : (X 13 9 = 0) = False := by rw [hk]; decide
  have p1 : (X 13 9 = 1) = False := by rw [hk]; decide
  have p2 : (X 13 9 = 2) = False := by rw [hk]; decide
  have p3 : (X 13 9 = 3) = False := by rw [hk]; decide
  have p5 : (X 13 9 = 5) = False := by rw [hk]; decide
  have p10 : (X 13 9 = 10) = True := eq_true hk
  have p11 : (X 13 9 = 11) = False := by rw [hk]; decide
  have p12 : (X 13 9 = 12) = False := by rw [hk]; decide
  have p13 : (X 13 9 = 13) = False := by rw [hk]; decide
  refine ((r_child h).toP).up (fun v t' X' JX' hv hC n m g d a ha hg => ?_) (fun Y' JY' hR n m g d => ?_)
  · have hs : zcall (d + 22) 122 [.ref a] (mk n m g X JX) = zexec (d + 22) 122 98 [some (.ref a)] [] (mk n m g X JX) := by
      rw [m_X8_readPart]
      simp only [e_X8_readPart_0, e_X8_readPart_1, e_X8_readPart_4, g_tt_0 ha hg, g_13_9, hk, Option.bind_some, Option.isSome_some, Option.toList, List.cons_append, List.nil_append, zclr_i, zclr_r, zclr_n, zfit_i, zfit_l, and_self, if_true, if_false]
      rw [e_X8_readPart_7, zsx_to 98 _ _ rfl]
    rw [hs]
    rcases hv with rfl | rfl <;> simp only [e_X8_readPart_98, e_X8_readPart_99, e_X8_readPart_102, e_X8_readPart_103, e_X8_readPart_104, e_X8_readPart_107, e_X8_readPart_108, e_X8_readPart_109, e_X8_readPart_112, e_X8_readPart_113, e_X8_readPart_114, e_X8_readPart_117, c_tt ha hg, g_tt_0 ha hg, g_13_9, hk, hC _ _ _ _ _ ha hg, zfit_b0, zfit_b1, Option.bind_some, Option.isSome_some, Option.toList, List.cons_append, List.nil_append, zclr_i, zclr_r, zclr_n, zfit_i, zfit_l, and_self, if_true, if_false]
  · rw [m_X12_readPart]
    simp only [e_X12_readPart_0, e_X12_readPart_1, e_X12_readPart_4, e_X12_readPart_7, e_X12_readPart_8, e_X12_readPart_9, e_X12_readPart_10, e_X12_readPart_13, e_X12_readPart_16, e_X12_readPart_19, e_X12_readPart_22, e_X12_readPart_23, e_X12_readPart_26, e_X12_readPart_29, e_X12_readPart_30, e_X12_readPart_31, e_X12_readPart_32, e_X12_readPart_33, e_X12_readPart_35, e_X12_readPart_38, e_X12_readPart_41, e_X12_readPart_42, e_X12_readPart_45, e_X12_readPart_48, e_X12_readPart_49, e_X12_readPart_50, e_X12_readPart_51, e_X12_readPart_53, e_X12_readPart_55, e_X12_readPart_58, e_X12_readPart_61, e_X12_readPart_62, e_X12_readPart_65, e_X12_readPart_68, e_X12_readPart_69, e_X12_readPart_72, e_X12_readPart_75, e_X12_readPart_76, e_X12_readPart_79, e_X12_readPart_82, e_X12_readPart_83, e_X12_readPart_86, e_X12_readPart_89, e_X12_readPart_90, e_X12_readPart_93, e_X12_readPart_96, e_X12_readPart_97, e_X12_readPart_100, e_X12_readPart_103, e_X12_readPart_104, e_X12_readPart_107, e_X12_readPart_108, e_X12_readPart_111, e_X12_readPart_112, e_X12_readPart_115, e_X12_readPart_118, e_X12_readPart_119, e_X12_readPart_122, e_X12_readPart_125, e_X12_readPart_126, e_X12_readPart_129, e_X12_readPart_132, e_X12_readPart_133, e_X12_readPart_136, e_X12_readPart_139, e_X12_readPart_140, e_X12_readPart_143, e_X12_readPart_146, e_X12_readPart_147, e_X12_readPart_150, c_143, v_stepWord, h.rs.step, sK0, sK3, v_isMost, v_isLife, v_isNameWord, v_isPerson, v_isChild, v_isLikes, v_isWaits, h.rs.k1, h.rs.k2, h.rs.k3, h.rs.k5, h.rs.k10, h.rs.k12, h.rs.k13, p0, p1, p2, p3, p5, p10, p11, p12, p13, decide_true, decide_false, bI, Bool.false_eq_true, show ((1 : Int32) = 0) = False by decide, hR, Option.bind_some, Option.isSome_some, Option.toList, List.cons_append, List.nil_append, zclr_i, zclr_r, zclr_n, zfit_i, zfit_l, and_self, if_true, if_false]
theorem r_part11 (h : TS L p t N S X JX Y JY) (hk : X 13 9 = 11) : OutR L p t X JX Y JY := by
  have p0 : (X 13 9 = 0) = False := by rw [hk]; decide
  have p1 : (X 13 9 = 1) = False := by rw [hk]; decide
  have p2 : (X 13 9 = 2) = False := by rw [hk]; decide
  have p3 : (X 13 9 = 3) = False := by rw [hk]; decide
  have p5 : (X 13 9 = 5) = False := by rw [hk]; decide
  have p10 : (X 13 9 = 10) = False := by rw [hk]; decide
  have p11 : (X 13 9 = 11) = True := eq_true hk
  have p12 : (X 13 9 = 12) = False := by rw [hk]; decide
  have p13 : (X 13 9 = 13) = False := by rw [hk]; decide
  refine ((r_wed h).toP).up (fun v t' X' JX' hv hC n m g d a ha hg => ?_) (fun Y' JY' hR n m g d => ?_)
  · have hs : zcall (d + 22) 122 [.ref a] (mk n m g X JX) = zexec (d + 22) 122 103 [some (.ref a)] [] (mk n m g X JX) := by
      rw [m_X8_readPart]
      simp only [e_X8_readPart_0, e_X8_readPart_1, e_X8_readPart_4, g_tt_0 ha hg, g_13_9, hk, Option.bind_some, Option.isSome_some, Option.toList, List.cons_append, List.nil_append, zclr_i, zclr_r, zclr_n, zfit_i, zfit_l, and_self, if_true, if_false]
      rw [e_X8_readPart_7, zsx_to 103 _ _ rfl]
    rw [hs]
    rcases hv with rfl | rfl <;> simp only [e_X8_readPart_103, e_X8_readPart_104, e_X8_readPart_107, e_X8_readPart_108, e_X8_readPart_109, e_X8_readPart_112, e_X8_readPart_113, e_X8_readPart_114, e_X8_readPart_117, c_tt ha hg, g_tt_0 ha hg, g_13_9, hk, hC _ _ _ _ _ ha hg, zfit_b0, zfit_b1, Option.bind_some, Option.isSome_some, Option.toList, List.cons_append, List.nil_append, zclr_i, zclr_r, zclr_n, zfit_i, zfit_l, and_self, if_true, if_false]
  · rw [m_X12_readPart]
    simp only [e_X12_readPart_0, e_X12_readPart_1, e_X12_readPart_4, e_X12_readPart_7, e_X12_readPart_8, e_X12_readPart_9, e_X12_readPart_10, e_X12_readPart_13, e_X12_readPart_16, e_X12_readPart_19, e_X12_readPart_22, e_X12_readPart_23, e_X12_readPart_26, e_X12_readPart_29, e_X12_readPart_30, e_X12_readPart_31, e_X12_readPart_32, e_X12_readPart_33, e_X12_readPart_35, e_X12_readPart_38, e_X12_readPart_41, e_X12_readPart_42, e_X12_readPart_45, e_X12_readPart_48, e_X12_readPart_49, e_X12_readPart_50, e_X12_readPart_51, e_X12_readPart_53, e_X12_readPart_55, e_X12_readPart_58, e_X12_readPart_61, e_X12_readPart_62, e_X12_readPart_65, e_X12_readPart_68, e_X12_readPart_69, e_X12_readPart_72, e_X12_readPart_75, e_X12_readPart_76, e_X12_readPart_79, e_X12_readPart_82, e_X12_readPart_83, e_X12_readPart_86, e_X12_readPart_89, e_X12_readPart_90, e_X12_readPart_93, e_X12_readPart_96, e_X12_readPart_97, e_X12_readPart_100, e_X12_readPart_103, e_X12_readPart_104, e_X12_readPart_107, e_X12_readPart_108, e_X12_readPart_111, e_X12_readPart_112, e_X12_readPart_115, e_X12_readPart_118, e_X12_readPart_119, e_X12_readPart_122, e_X12_readPart_125, e_X12_readPart_126, e_X12_readPart_129, e_X12_readPart_132, e_X12_readPart_133, e_X12_readPart_136, e_X12_readPart_139, e_X12_readPart_140, e_X12_readPart_143, e_X12_readPart_146, e_X12_readPart_147, e_X12_readPart_150, c_143, v_stepWord, h.rs.step, sK0, sK3, v_isMost, v_isLife, v_isNameWord, v_isPerson, v_isChild, v_isLikes, v_isWaits, h.rs.k1, h.rs.k2, h.rs.k3, h.rs.k5, h.rs.k10, h.rs.k12, h.rs.k13, p0, p1, p2, p3, p5, p10, p11, p12, p13, decide_true, decide_false, bI, Bool.false_eq_true, show ((1 : Int32) = 0) = False by decide, hR, Option.bind_some, Option.isSome_some, Option.toList, List.cons_append, List.nil_append, zclr_i, zclr_r, zclr_n, zfit_i, zfit_l, and_self, if_true, if_false]
theorem r_part12 (h : TS L p t N S X JX Y JY) (hk : X 13 9 = 12) : OutR L p t X JX Y JY := by
  have p0 : (X 13 9 = 0) = False := by rw [hk]; decide
  have p1 : (X 13 9 = 1) = False := by rw [hk]; decide
  have p2 : (X 13 9 = 2) = False := by rw [hk]; decide
  have p3 : (X 13 9 = 3) = False := by rw [hk]; decide
  have p5 : (X 13 9 = 5) = False := by rw [hk]; decide
  have p10 : (X 13 9 = 10) = False := by rw [hk]; decide
  have p11 : (X 13 9 = 11) = False := by rw [hk]; decide
  have p12 : (X 13 9 = 12) = True := eq_true hk
  have p13 : (X 13 9 = 13) = False := by rw [hk]; decide
  refine ((r_likes h).toP).up (fun v t' X' JX' hv hC n m g d a ha hg => ?_) (fun Y' JY' hR n m g d => ?_)
  · have hs : zcall (d + 22) 122 [.ref a] (mk n m g X JX) = zexec (d + 22) 122 108 [some (.ref a)] [] (mk n m g X JX) := by
      rw [m_X8_readPart]
      simp only [e_X8_readPart_0, e_X8_readPart_1, e_X8_readPart_4, g_tt_0 ha hg, g_13_9, hk, Option.bind_some, Option.isSome_some, Option.toList, List.cons_append, List.nil_append, zclr_i, zclr_r, zclr_n, zfit_i, zfit_l, and_self, if_true, if_false]
      rw [e_X8_readPart_7, zsx_to 108 _ _ rfl]
    rw [hs]
    rcases hv with rfl | rfl <;> simp only [e_X8_readPart_108, e_X8_readPart_109, e_X8_readPart_112, e_X8_readPart_113, e_X8_readPart_114, e_X8_readPart_117, c_tt ha hg, g_tt_0 ha hg, g_13_9, hk, hC _ _ _ _ _ ha hg, zfit_b0, zfit_b1, Option.bind_some, Option.isSome_some, Option.toList, List.cons_append, List.nil_append, zclr_i, zclr_r, zclr_n, zfit_i, zfit_l, and_self, if_true, if_false]
  · rw [m_X12_readPart]
    simp only [e_X12_readPart_0, e_X12_readPart_1, e_X12_readPart_4, e_X12_readPart_7, e_X12_readPart_8, e_X12_readPart_9, e_X12_readPart_10, e_X12_readPart_13, e_X12_readPart_16, e_X12_readPart_19, e_X12_readPart_22, e_X12_readPart_23, e_X12_readPart_26, e_X12_readPart_29, e_X12_readPart_30, e_X12_readPart_31, e_X12_readPart_32, e_X12_readPart_33, e_X12_readPart_35, e_X12_readPart_38, e_X12_readPart_41, e_X12_readPart_42, e_X12_readPart_45, e_X12_readPart_48, e_X12_readPart_49, e_X12_readPart_50, e_X12_readPart_51, e_X12_readPart_53, e_X12_readPart_55, e_X12_readPart_58, e_X12_readPart_61, e_X12_readPart_62, e_X12_readPart_65, e_X12_readPart_68, e_X12_readPart_69, e_X12_readPart_72, e_X12_readPart_75, e_X12_readPart_76, e_X12_readPart_79, e_X12_readPart_82, e_X12_readPart_83, e_X12_readPart_86, e_X12_readPart_89, e_X12_readPart_90, e_X12_readPart_93, e_X12_readPart_96, e_X12_readPart_97, e_X12_readPart_100, e_X12_readPart_103, e_X12_readPart_104, e_X12_readPart_107, e_X12_readPart_108, e_X12_readPart_111, e_X12_readPart_112, e_X12_readPart_115, e_X12_readPart_118, e_X12_readPart_119, e_X12_readPart_122, e_X12_readPart_125, e_X12_readPart_126, e_X12_readPart_129, e_X12_readPart_132, e_X12_readPart_133, e_X12_readPart_136, e_X12_readPart_139, e_X12_readPart_140, e_X12_readPart_143, e_X12_readPart_146, e_X12_readPart_147, e_X12_readPart_150, c_143, v_stepWord, h.rs.step, sK0, sK3, v_isMost, v_isLife, v_isNameWord, v_isPerson, v_isChild, v_isLikes, v_isWaits, h.rs.k1, h.rs.k2, h.rs.k3, h.rs.k5, h.rs.k10, h.rs.k12, h.rs.k13, p0, p1, p2, p3, p5, p10, p11, p12, p13, decide_true, decide_false, bI, Bool.false_eq_true, show ((1 : Int32) = 0) = False by decide, hR, Option.bind_some, Option.isSome_some, Option.toList, List.cons_append, List.nil_append, zclr_i, zclr_r, zclr_n, zfit_i, zfit_l, and_self, if_true, if_false]
theorem r_part13 (h : TS L p t N S X JX Y JY) (hk : X 13 9 = 13) : OutR L p t X JX Y JY := by
  have p0 : (X 13 9 = 0) = False := by rw [hk]; decide
  have p1 : (X 13 9 = 1) = False := by rw [hk]; decide
  have p2 : (X 13 9 = 2) = False := by rw [hk]; decide
  have p3 : (X 13 9 = 3) = False := by rw [hk]; decide
  have p5 : (X 13 9 = 5) = False := by rw [hk]; decide
  have p10 : (X 13 9 = 10) = False := by rw [hk]; decide
  have p11 : (X 13 9 = 11) = False := by rw [hk]; decide
  have p12 : (X 13 9 = 12) = False := by rw [hk]; decide
  have p13 : (X 13 9 = 13) = True := eq_true hk
  refine ((r_waits h).toP).up (fun v t' X' JX' hv hC n m g d a ha hg => ?_) (fun Y' JY' hR n m g d => ?_)
  · have hs : zcall (d + 22) 122 [.ref a] (mk n m g X JX) = zexec (d + 22) 122 113 [some (.ref a)] [] (mk n m g X JX) := by
      rw [m_X8_readPart]
      simp only [e_X8_readPart_0, e_X8_readPart_1, e_X8_readPart_4, g_tt_0 ha hg, g_13_9, hk, Option.bind_some, Option.isSome_some, Option.toList, List.cons_append, List.nil_append, zclr_i, zclr_r, zclr_n, zfit_i, zfit_l, and_self, if_true, if_false]
      rw [e_X8_readPart_7, zsx_to 113 _ _ rfl]
    rw [hs]
    rcases hv with rfl | rfl <;> simp only [e_X8_readPart_113, e_X8_readPart_114, e_X8_readPart_117, c_tt ha hg, g_tt_0 ha hg, g_13_9, hk, hC _ _ _ _ _ ha hg, zfit_b0, zfit_b1, Option.bind_some, Option.isSome_some, Option.toList, List.cons_append, List.nil_append, zclr_i, zclr_r, zclr_n, zfit_i, zfit_l, and_self, if_true, if_false]
  · rw [m_X12_readPart]
    simp only [e_X12_readPart_0, e_X12_readPart_1, e_X12_readPart_4, e_X12_readPart_7, e_X12_readPart_8, e_X12_readPart_9, e_X12_readPart_10, e_X12_readPart_13, e_X12_readPart_16, e_X12_readPart_19, e_X12_readPart_22, e_X12_readPart_23, e_X12_readPart_26, e_X12_readPart_29, e_X12_readPart_30, e_X12_readPart_31, e_X12_readPart_32, e_X12_readPart_33, e_X12_readPart_35, e_X12_readPart_38, e_X12_readPart_41, e_X12_readPart_42, e_X12_readPart_45, e_X12_readPart_48, e_X12_readPart_49, e_X12_readPart_50, e_X12_readPart_51, e_X12_readPart_53, e_X12_readPart_55, e_X12_readPart_58, e_X12_readPart_61, e_X12_readPart_62, e_X12_readPart_65, e_X12_readPart_68, e_X12_readPart_69, e_X12_readPart_72, e_X12_readPart_75, e_X12_readPart_76, e_X12_readPart_79, e_X12_readPart_82, e_X12_readPart_83, e_X12_readPart_86, e_X12_readPart_89, e_X12_readPart_90, e_X12_readPart_93, e_X12_readPart_96, e_X12_readPart_97, e_X12_readPart_100, e_X12_readPart_103, e_X12_readPart_104, e_X12_readPart_107, e_X12_readPart_108, e_X12_readPart_111, e_X12_readPart_112, e_X12_readPart_115, e_X12_readPart_118, e_X12_readPart_119, e_X12_readPart_122, e_X12_readPart_125, e_X12_readPart_126, e_X12_readPart_129, e_X12_readPart_132, e_X12_readPart_133, e_X12_readPart_136, e_X12_readPart_139, e_X12_readPart_140, e_X12_readPart_143, e_X12_readPart_146, e_X12_readPart_147, e_X12_readPart_150, c_143, v_stepWord, h.rs.step, sK0, sK3, v_isMost, v_isLife, v_isNameWord, v_isPerson, v_isChild, v_isLikes, v_isWaits, h.rs.k1, h.rs.k2, h.rs.k3, h.rs.k5, h.rs.k10, h.rs.k12, h.rs.k13, p0, p1, p2, p3, p5, p10, p11, p12, p13, decide_true, decide_false, bI, Bool.false_eq_true, show ((1 : Int32) = 0) = False by decide, hR, Option.bind_some, Option.isSome_some, Option.toList, List.cons_append, List.nil_append, zclr_i, zclr_r, zclr_n, zfit_i, zfit_l, and_self, if_true, if_false]
theorem part_dflt0 : ∀ k, k < 27 → (([0, 1, 2, 3, 5, 10, 11, 12, 13] : List Int32).contains (nI k) || (([(0, 76), (1, 76), (2, 76), (3, 88), (4, 118), (5, 93), (6, 118), (7, 118), (8, 118), (9, 118), (10, 98), (11, 103), (12, 108), (13, 113)] : List (Int32 × Nat)).lookup (nI k)).getD 118 == 118) = true := by decide +kernel
theorem part_dflt (k : Nat) (hk : k < 27) (h0 : nI k ≠ 0) (h1 : nI k ≠ 1) (h2 : nI k ≠ 2) (h3 : nI k ≠ 3) (h5 : nI k ≠ 5) (h10 : nI k ≠ 10) (h11 : nI k ≠ 11) (h12 : nI k ≠ 12) (h13 : nI k ≠ 13) : (([(0, 76), (1, 76), (2, 76), (3, 88), (4, 118), (5, 93), (6, 118), (7, 118), (8, 118), (9, 118), (10, 98), (11, 103), (12, 108), (13, 113)] : List (Int32 × Nat)).lookup (nI k)).getD 118 = 118 := by
  have h := part_dflt0 k hk
  rw [show ([0, 1, 2, 3, 5, 10, 11, 12, 13] : List Int32).contains (nI k) = false by simp [h0, h1, h2, h3, h5, h10, h11, h12, h13], Bool.false_or, beq_iff_eq] at h
  exact h
theorem r_part (h : TS L p t N S X JX Y JY) : OutR L p t X JX Y JY := by
  by_cases k0 : X 13 9 = 0
  · exact r_part0 h k0
  by_cases k1 : X 13 9 = 1
  · exact r_part1 h k1
  by_cases k2 : X 13 9 = 2
  · exact r_part2 h k2
  by_cases k3 : X 13 9 = 3
  · exact r_part3 h k3
  by_cases k5 : X 13 9 = 5
  · exact r_part5 h k5
  by_cases k10 : X 13 9 = 10
  · exact r_part10 h k10
  by_cases k11 : X 13 9 = 11
  · exact r_part11 h k11
  by_cases k12 : X 13 9 = 12
  · exact r_part12 h k12
  by_cases k13 : X 13 9 = 13
  · exact r_part13 h k13
  have p0 : (X 13 9 = 0) = False := eq_false k0
  have p1 : (X 13 9 = 1) = False := eq_false k1
  have p2 : (X 13 9 = 2) = False := eq_false k2
  have p3 : (X 13 9 = 3) = False := eq_false k3
  have p5 : (X 13 9 = 5) = False := eq_false k5
  have p10 : (X 13 9 = 10) = False := eq_false k10
  have p11 : (X 13 9 = 11) = False := eq_false k11
  have p12 : (X 13 9 = 12) = False := eq_false k12
  have p13 : (X 13 9 = 13) = False := eq_false k13
  have hB := h.rs.here
  refine ⟨t, dHere X, JX, vFail (kH X) (X 13 4) Y, JY, .inl ⟨fun n m g d a ha hg => ?_, hB⟩, fun n m g d => ?_, FX.here.gx, (YG.fail _ _).gy⟩
  · have hs : zcall (d + 22) 122 [.ref a] (mk n m g X JX) = zexec (d + 22) 122 118 [some (.ref a)] [] (mk n m g X JX) := by
      rw [m_X8_readPart]
      simp only [e_X8_readPart_0, e_X8_readPart_1, e_X8_readPart_4, g_tt_0 ha hg, g_13_9, Option.bind_some, Option.isSome_some, Option.toList, List.cons_append, List.nil_append, zclr_i, zclr_r, zclr_n, zfit_i, zfit_l, and_self, if_true, if_false]
      rcases h.rs.kcase with e | ⟨k, hk, e⟩
      · rw [e, e_X8_readPart_7, zsx_to 118 _ _ rfl]
      · rw [e] at k0 k1 k2 k3 k5 k10 k11 k12 k13
        rw [e, e_X8_readPart_7, zsx_to 118 _ _ (part_dflt k hk k0 k1 k2 k3 k5 k10 k11 k12 k13)]
    rw [hs, zup_self hg]
    simp only [e_X8_readPart_118, e_X8_readPart_119, e_X8_readPart_122, e_X8_readPart_125, c_13, g_tt_0 ha hg, d_failHere, zfit_b0, Option.bind_some, Option.isSome_some, Option.toList, List.cons_append, List.nil_append, zclr_i, zclr_r, zclr_n, zfit_i, zfit_l, and_self, if_true, if_false]
  · rw [m_X12_readPart]
    simp only [e_X12_readPart_0, e_X12_readPart_1, e_X12_readPart_4, e_X12_readPart_7, e_X12_readPart_8, e_X12_readPart_9, e_X12_readPart_10, e_X12_readPart_13, e_X12_readPart_16, e_X12_readPart_19, e_X12_readPart_22, e_X12_readPart_23, e_X12_readPart_26, e_X12_readPart_29, e_X12_readPart_30, e_X12_readPart_31, e_X12_readPart_32, e_X12_readPart_33, e_X12_readPart_35, e_X12_readPart_38, e_X12_readPart_41, e_X12_readPart_42, e_X12_readPart_45, e_X12_readPart_48, e_X12_readPart_49, e_X12_readPart_50, e_X12_readPart_51, e_X12_readPart_53, e_X12_readPart_55, e_X12_readPart_58, e_X12_readPart_61, e_X12_readPart_62, e_X12_readPart_65, e_X12_readPart_68, e_X12_readPart_69, e_X12_readPart_72, e_X12_readPart_75, e_X12_readPart_76, e_X12_readPart_79, e_X12_readPart_82, e_X12_readPart_83, e_X12_readPart_86, e_X12_readPart_89, e_X12_readPart_90, e_X12_readPart_93, e_X12_readPart_96, e_X12_readPart_97, e_X12_readPart_100, e_X12_readPart_103, e_X12_readPart_104, e_X12_readPart_107, e_X12_readPart_108, e_X12_readPart_111, e_X12_readPart_112, e_X12_readPart_115, e_X12_readPart_118, e_X12_readPart_119, e_X12_readPart_122, e_X12_readPart_125, e_X12_readPart_126, e_X12_readPart_129, e_X12_readPart_132, e_X12_readPart_133, e_X12_readPart_136, e_X12_readPart_139, e_X12_readPart_140, e_X12_readPart_143, e_X12_readPart_146, e_X12_readPart_147, e_X12_readPart_150, c_143, v_stepWord, h.rs.step, sK0, sK3, v_isMost, v_isLife, v_isNameWord, v_isPerson, v_isChild, v_isLikes, v_isWaits, h.rs.k1, h.rs.k2, h.rs.k3, h.rs.k5, h.rs.k10, h.rs.k12, h.rs.k13, p0, p1, p2, p3, p5, p10, p11, p12, p13, decide_true, decide_false, bI, Bool.false_eq_true, v_amiss h.rs, Option.bind_some, Option.isSome_some, Option.toList, List.cons_append, List.nil_append, zclr_i, zclr_r, zclr_n, zfit_i, zfit_l, and_self, if_true, if_false]
end TJ
