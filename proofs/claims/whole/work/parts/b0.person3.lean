/-! READING A TOWN: a person, whole -/
section TI
variable {n m : Nat} {g : Nat → zC} {A X Y X1 Y1 : Nat → Nat → Int32} {JX JY JX1 JY1 : Nat → Nat → Int64} {L p p' p1 N S q b U : Nat} {t x : Int32} {c c' : Nat → Int32} {X' Y' : Nat → Nat → Int32} {JX' JY' : Nat → Nat → Int64}
theorem TS.word {v : Int64} (h : TS L p t N S X JX Y JY) (hN : N < 12) : TS L p t N S X JX Y (zu JY 151 (72 + (6 + N)) v) := by
  obtain ⟨z1, z2, z3, z4, z5, z6, z7, z8⟩ := h
  refine ⟨z1.w, z2, z3, ?_, z5, z6, z7, z8⟩
  rw [nw_zu]
  have := z2.h6
  refine ⟨fun s hs => ?_, fun q hq => ?_⟩
  · rw [fu_ne _ _ (by omega)]
    exact z4.1 s hs
  · rw [fu_ne _ _ (by omega)]
    exact z4.2 q hq
theorem tAdd_new {y : Int32} : tAdd A b N y = tNewA A b N y (-1) (-1) (-1) := by
  unfold tNewA
  rw [zu_self (tAdd A b N y) (b + 7) N (-1) (by simp [tAdd, zu]), zu_self (tAdd A b N y) (b + 10) (2 * N) (-1) (by simp [tAdd, zu]), zu_self (tAdd A b N y) (b + 10) (2 * N + 1) (-1) (by simp [tAdd, zu])]
theorem TS.addp {k : Nat} {wd : Int64} (h : TS L p t N S X JX Y JY) (hN : N < 12) (k1 : 1000 ≤ k) (k2 : k ≤ 2999) (hw : nw JY (6 + N) = wd) (hwd : 0 < wd) : PQ L p t N S (tAdd X 33 N (nI k)) (zu JX (33 + 4) N wd) (zu Y 148 (2024 + (18 + N)) (nI k)) JY := by
  have hW := h.W
  have h6 := hW.h6
  obtain ⟨b1, b2⟩ := (TQ.nbq h).2 N (Nat.le_refl N) hN
  obtain ⟨b2, b3, b4, b5, b6, b7, b8, b9⟩ := b2
  have R := TQ.R h
  have far : ∀ a, a < 33 → tNewA X 33 N (nI k) (-1) (-1) (-1) a = X a := fun a ha => tNew_far (fun i _ => by omega)
  unfold PQ
  rw [nb_zu, tAdd_new]
  refine ⟨⟨?_, hW.born1 hN ⟨k, k1, k2, rfl⟩ (.inl rfl) (.inl rfl) (.inl rfl), ?_, ?_, ((TQ.nbq h).less (Nat.le_succ N) (Nat.le_refl S)).keep (fun r s h1 h2 h3 => ?_) (fun r r' h1 h2 h3 => ?_), fun q hq => ?_, ?_, ?_⟩, ?_, hN⟩
  · exact ((h.rs.same (far 12 (by decide)) (far 13 (by decide)) rfl rfl (fun k _ _ => rfl) rfl rfl).xj (by decide)).cc
  · refine RT.born1 R hW hN (by rw [fu_eq]) (fun j j1 j2 j3 j4 j5 j6 j7 j8 j9 j10 j11 j12 => ?_) ?_ ?_ ?_ ?_ ?_ ?_ ?_ ?_ ?_ ?_
    · rw [fu_ne _ _ j2, fu_ne _ _ j3]
    · rw [fu_ne _ _ (by omega), fu_eq]
    · rw [fu_ne _ _ (by omega), fu_ne _ _ (by omega)]; exact b1
    · rw [fu_ne _ _ (by omega), fu_ne _ _ (by omega)]; exact b2
    · rw [fu_ne _ _ (by omega), fu_ne _ _ (by omega)]; exact b3
    · rw [fu_ne _ _ (by omega), fu_ne _ _ (by omega)]; exact b4
    · rw [fu_ne _ _ (by omega), fu_ne _ _ (by omega)]; exact b5
    · rw [fu_ne _ _ (by omega), fu_ne _ _ (by omega)]; exact b6
    · rw [fu_ne _ _ (by omega), fu_ne _ _ (by omega)]; exact b7
    · rw [fu_ne _ _ (by omega), fu_ne _ _ (by omega)]; exact b8
    · rw [fu_ne _ _ (by omega), fu_ne _ _ (by omega)]; exact b9
  · refine ⟨fun s hs => ?_, fun q hq => ?_⟩
    · rw [zu_far _ _ _ (by decide)]
      exact (TQ.jw h).1 s hs
    · rw [zu_row]
      by_cases e : q = N
      · rw [if_pos e, e, hw]
        exact .inl ⟨rfl, hwd⟩
      · rw [if_neg e]
        exact (TQ.jw h).2 q (by omega)
  · rw [fu_ne _ _ (by omega), fu_ne _ _ (by omega)]
  · rw [fu_ne _ _ (by omega), fu_ne _ _ (by omega)]
  · rw [tNew_6]
    by_cases e : q = N
    · rw [e, fu_eq]
    · rw [fu_ne _ _ e]
      exact TQ.alive h q (by omega)
  · rw [fu_ne _ _ (by omega), fu_ne _ _ (by omega)]
    exact TQ.c0 h
  · rw [zu_far _ _ _ (by decide)]
    exact TQ.told h
  · rw [fu_ne _ _ (by omega)]
    exact R.n1.trans hW.hN
theorem v_behind_f {y z : Int32} (h : RDS L p X JX Y JY) (d : Nat) : zcall (d + 4) 283 [.ref 143, .int 0, .int y, .int z] (mk n m g Y JY) = some (some (.int 0), mk n m g (vFail (kH X) (X 13 4) Y) JY) := by
  rw [m_X12_behindWord]
  simp only [e_X12_behindWord_0, e_X12_behindWord_1, e_X12_behindWord_2, e_X12_behindWord_5, e_X12_behindWord_6, e_X12_behindWord_7, e_X12_behindWord_8, e_X12_behindWord_11, c_143, v_must_f h, v_count_b h.here, Option.bind_some, Option.isSome_some, Option.toList, List.cons_append, List.nil_append, zclr_i, zclr_r, zclr_n, zfit_i, zfit_l, and_self, if_true, if_false]
theorem v_behind_t {y z v : Int32} (hb : Y 143 12 = 0) (hA : Ca 1 257 [.ref 143] Y JY none Y1 JY1) (hC : Ca 2 282 [.ref 143, .int y, .int z] Y1 JY1 (some (.int v)) Y' JY') (d : Nat) : zcall (d + 4) 283 [.ref 143, .int 1, .int y, .int z] (mk n m g Y JY) = some (some (.int v), mk n m g Y' JY') := by
  rw [m_X12_behindWord]
  simp only [e_X12_behindWord_0, e_X12_behindWord_1, e_X12_behindWord_2, e_X12_behindWord_5, e_X12_behindWord_6, e_X12_behindWord_7, e_X12_behindWord_8, e_X12_behindWord_11, c_143, v_must_t hb hA, hC, Option.bind_some, Option.isSome_some, Option.toList, List.cons_append, List.nil_append, zclr_i, zclr_r, zclr_n, zfit_i, zfit_l, and_self, if_true, if_false]
theorem GX.add {y : Int32} : GX X JX (tAdd X 33 N y) JX := by
  rw [tAdd_new]
  exact ⟨fun a ha hb => tNew_far (fun i hi => by omega), fun _ _ _ => rfl⟩
set_option maxHeartbeats 4000000 in
theorem r_person (h : TS L p t N S X JX Y JY) : Out L p t 126 299 X JX Y JY := by
  have h6 := h.W.h6
  have h12 := h.W.h12
  have q0 : (2042 : Int32) + 0 = nI (2024 + (18 + 0)) := by decide
  have y2 : ∀ {Y0 : Nat → Nat → Int32}, True := trivial
  by_cases cS : N = 12
  · have hB := h.rs.fails 6 (by decide) (by decide)
    rw [show nI 6 = 6 from rfl] at hB
    have rn := v_new1_full h cS
    have s6 : ((12 : Int32) ≤ nI N) = True := by rw [cS]; decide
    refine Out.f (X' := dFail 6 X) (JX' := JX) (Y' := zu (vFail 6 (X 13 4) Y) 148 (2024 + (18 + 0)) 0) (JY' := JY) (fun n m g d => ?_) (fun n m g d a ha hg => ?_) hB.cc (FX.fail _).gx (YG.fail _ _).gy.cc
    · rw [m_X12_readPerson]
      simp only [e_X12_readPerson_0, e_X12_readPerson_1, e_X12_readPerson_2, e_X12_readPerson_4, e_X12_readPerson_7, e_X12_readPerson_8, e_X12_readPerson_9, e_X12_readPerson_12, e_X12_readPerson_15, e_X12_readPerson_16, e_X12_readPerson_17, e_X12_readPerson_18, e_X12_readPerson_19, e_X12_readPerson_22, e_X12_readPerson_25, e_X12_readPerson_26, e_X12_readPerson_29, e_X12_readPerson_32, e_X12_readPerson_33, e_X12_readPerson_36, c_143, rn, v_isBorn, g_143_20, lW_2, v_behindWord_b hB, q0, nI_neg (show 2024 + (18 + 0) < 2 ^ 31 by omega), nI_clamp (show 2024 + (18 + 0) < 2 ^ 31 by omega), k_148 (show 2024 + (18 + 0) < 2530 by omega), l_148 (show 2024 + (18 + 0) < 2530 by omega), q_148, Option.bind_some, Option.isSome_some, Option.toList, List.cons_append, List.nil_append, zclr_i, zclr_r, zclr_n, zfit_i, zfit_l, and_self, if_true, if_false]
      exact per_bad hB.cc (d + 5)
    · rw [m_X8_personPart]
      simp only [e_X8_personPart_0, e_X8_personPart_1, e_X8_personPart_4, e_X8_personPart_7, e_X8_personPart_10, e_X8_personPart_11, e_X8_personPart_14, e_X8_personPart_16, e_X8_personPart_19, e_X8_personPart_20, e_X8_personPart_21, e_X8_personPart_24, e_X8_personPart_27, e_X8_personPart_28, e_X8_personPart_31, e_X8_personPart_34, e_X8_personPart_35, e_X8_personPart_36, e_X8_personPart_37, e_X8_personPart_40, e_X8_personPart_43, e_X8_personPart_44, e_X8_personPart_45, e_X8_personPart_48, e_X8_personPart_51, e_X8_personPart_52, e_X8_personPart_55, e_X8_personPart_57, e_X8_personPart_60, e_X8_personPart_63, e_X8_personPart_64, e_X8_personPart_65, e_X8_personPart_66, e_X8_personPart_69, e_X8_personPart_72, e_X8_personPart_73, e_X8_personPart_76, e_X8_personPart_79, e_X8_personPart_82, e_X8_personPart_83, e_X8_personPart_84, e_X8_personPart_85, e_X8_personPart_88, e_X8_personPart_89, e_X8_personPart_90, e_X8_personPart_91, e_X8_personPart_94, e_X8_personPart_95, e_X8_personPart_96, e_X8_personPart_99, e_X8_personPart_101, e_X8_personPart_102, e_X8_personPart_104, e_X8_personPart_107, e_X8_personPart_110, e_X8_personPart_111, e_X8_personPart_113, e_X8_personPart_116, e_X8_personPart_119, e_X8_personPart_120, e_X8_personPart_122, e_X8_personPart_125, e_X8_personPart_128, e_X8_personPart_129, e_X8_personPart_132, e_X8_personPart_133, c_13, c_T0 t33, g_tt_0 ha hg, g_tt_1 ha hg, t_isFull t33, h.W.hN, s6, decide_true, bI, if_true, show ((1 : Int32) = 0) = False by decide, d_fail, zfit_b0, Option.bind_some, Option.isSome_some, Option.toList, List.cons_append, List.nil_append, zclr_i, zclr_r, zclr_n, zfit_i, zfit_l, and_self, if_true, if_false]
  have hN : N < 12 := by omega
  have s6 : ((12 : Int32) ≤ nI N) = False := eq_false (nI_ge (b := 12) hN (by decide))
  obtain ⟨X1, JX1, Y1, JY1, p1, a1, a2, a3, a4, _, a5, a6⟩ := r_adv h.rs
  have h1 := h.move a3 a5 a6.yg
  by_cases hn : dName X1 JX1 = true
  rotate_left
  · have hn' : dName X1 JX1 = false := Bool.eq_false_iff.mpr hn
    have rn := v_new1_n h hN a2 h1 hn'
    have hB := h1.rs.here
    refine Out.f (X' := dHere X1) (JX' := JX1) (Y' := zu (vFail (kH X1) (X1 13 4) Y1) 148 (2024 + (18 + 0)) 0) (JY' := JY1) (fun n m g d => ?_) (fun n m g d a ha hg => ?_) hB.cc (a5.gx.trans FX.here.gx) (a6.yg.gy.trans (YG.fail _ _).gy).cc
    · rw [m_X12_readPerson]
      simp only [e_X12_readPerson_0, e_X12_readPerson_1, e_X12_readPerson_2, e_X12_readPerson_4, e_X12_readPerson_7, e_X12_readPerson_8, e_X12_readPerson_9, e_X12_readPerson_12, e_X12_readPerson_15, e_X12_readPerson_16, e_X12_readPerson_17, e_X12_readPerson_18, e_X12_readPerson_19, e_X12_readPerson_22, e_X12_readPerson_25, e_X12_readPerson_26, e_X12_readPerson_29, e_X12_readPerson_32, e_X12_readPerson_33, e_X12_readPerson_36, c_143, rn, v_isBorn, g_143_20, lW_2, v_behindWord_b hB, q0, nI_neg (show 2024 + (18 + 0) < 2 ^ 31 by omega), nI_clamp (show 2024 + (18 + 0) < 2 ^ 31 by omega), k_148 (show 2024 + (18 + 0) < 2530 by omega), l_148 (show 2024 + (18 + 0) < 2530 by omega), q_148, Option.bind_some, Option.isSome_some, Option.toList, List.cons_append, List.nil_append, zclr_i, zclr_r, zclr_n, zfit_i, zfit_l, and_self, if_true, if_false]
      exact per_bad hB.cc (d + 5)
    · have nn := fun n m g d => t_new_n (t := t) hn' n m g d a ha
      rw [m_X8_personPart]
      simp only [e_X8_personPart_0, e_X8_personPart_1, e_X8_personPart_4, e_X8_personPart_7, e_X8_personPart_10, e_X8_personPart_11, e_X8_personPart_14, e_X8_personPart_16, e_X8_personPart_19, e_X8_personPart_20, e_X8_personPart_21, e_X8_personPart_24, e_X8_personPart_27, e_X8_personPart_28, e_X8_personPart_31, e_X8_personPart_34, e_X8_personPart_35, e_X8_personPart_36, e_X8_personPart_37, e_X8_personPart_40, e_X8_personPart_43, e_X8_personPart_44, e_X8_personPart_45, e_X8_personPart_48, e_X8_personPart_51, e_X8_personPart_52, e_X8_personPart_55, e_X8_personPart_57, e_X8_personPart_60, e_X8_personPart_63, e_X8_personPart_64, e_X8_personPart_65, e_X8_personPart_66, e_X8_personPart_69, e_X8_personPart_72, e_X8_personPart_73, e_X8_personPart_76, e_X8_personPart_79, e_X8_personPart_82, e_X8_personPart_83, e_X8_personPart_84, e_X8_personPart_85, e_X8_personPart_88, e_X8_personPart_89, e_X8_personPart_90, e_X8_personPart_91, e_X8_personPart_94, e_X8_personPart_95, e_X8_personPart_96, e_X8_personPart_99, e_X8_personPart_101, e_X8_personPart_102, e_X8_personPart_104, e_X8_personPart_107, e_X8_personPart_110, e_X8_personPart_111, e_X8_personPart_113, e_X8_personPart_116, e_X8_personPart_119, e_X8_personPart_120, e_X8_personPart_122, e_X8_personPart_125, e_X8_personPart_128, e_X8_personPart_129, e_X8_personPart_132, e_X8_personPart_133, c_13, c_tt ha hg, c_T0 t33, g_tt_0 ha hg, g_tt_1 ha hg, t_isFull t33, h.W.hN, s6, decide_false, bI, Bool.false_eq_true, a1, nn _ _ _ _ hg, zfit_b0, Option.bind_some, Option.isSome_some, Option.toList, List.cons_append, List.nil_append, zclr_i, zclr_r, zclr_n, zfit_i, zfit_l, and_self, if_true, if_false]
  by_cases ht : taken JX1 N S = true
  · have rn := v_new1_t h hN a2 h1 hn ht
    have hB := h1.rs.fails 3 (by decide) (by decide)
    rw [show nI 3 = 3 from rfl] at hB
    refine Out.f (X' := dFail 3 X1) (JX' := JX1) (Y' := zu (vFail 3 (X1 13 4) Y1) 148 (2024 + (18 + 0)) 0) (JY' := JY1) (fun n m g d => ?_) (fun n m g d a ha hg => ?_) hB.cc (a5.gx.trans (FX.fail _).gx) (a6.yg.gy.trans (YG.fail _ _).gy).cc
    · rw [m_X12_readPerson]
      simp only [e_X12_readPerson_0, e_X12_readPerson_1, e_X12_readPerson_2, e_X12_readPerson_4, e_X12_readPerson_7, e_X12_readPerson_8, e_X12_readPerson_9, e_X12_readPerson_12, e_X12_readPerson_15, e_X12_readPerson_16, e_X12_readPerson_17, e_X12_readPerson_18, e_X12_readPerson_19, e_X12_readPerson_22, e_X12_readPerson_25, e_X12_readPerson_26, e_X12_readPerson_29, e_X12_readPerson_32, e_X12_readPerson_33, e_X12_readPerson_36, c_143, rn, v_isBorn, g_143_20, lW_2, v_behindWord_b hB, q0, nI_neg (show 2024 + (18 + 0) < 2 ^ 31 by omega), nI_clamp (show 2024 + (18 + 0) < 2 ^ 31 by omega), k_148 (show 2024 + (18 + 0) < 2530 by omega), l_148 (show 2024 + (18 + 0) < 2530 by omega), q_148, Option.bind_some, Option.isSome_some, Option.toList, List.cons_append, List.nil_append, zclr_i, zclr_r, zclr_n, zfit_i, zfit_l, and_self, if_true, if_false]
      exact per_bad hB.cc (d + 5)
    · have nn := fun n m g d => t_new_t (t := t) hn h1.W.hS h6 h1.W.hN h12 ht n m g d a ha
      rw [m_X8_personPart]
      simp only [e_X8_personPart_0, e_X8_personPart_1, e_X8_personPart_4, e_X8_personPart_7, e_X8_personPart_10, e_X8_personPart_11, e_X8_personPart_14, e_X8_personPart_16, e_X8_personPart_19, e_X8_personPart_20, e_X8_personPart_21, e_X8_personPart_24, e_X8_personPart_27, e_X8_personPart_28, e_X8_personPart_31, e_X8_personPart_34, e_X8_personPart_35, e_X8_personPart_36, e_X8_personPart_37, e_X8_personPart_40, e_X8_personPart_43, e_X8_personPart_44, e_X8_personPart_45, e_X8_personPart_48, e_X8_personPart_51, e_X8_personPart_52, e_X8_personPart_55, e_X8_personPart_57, e_X8_personPart_60, e_X8_personPart_63, e_X8_personPart_64, e_X8_personPart_65, e_X8_personPart_66, e_X8_personPart_69, e_X8_personPart_72, e_X8_personPart_73, e_X8_personPart_76, e_X8_personPart_79, e_X8_personPart_82, e_X8_personPart_83, e_X8_personPart_84, e_X8_personPart_85, e_X8_personPart_88, e_X8_personPart_89, e_X8_personPart_90, e_X8_personPart_91, e_X8_personPart_94, e_X8_personPart_95, e_X8_personPart_96, e_X8_personPart_99, e_X8_personPart_101, e_X8_personPart_102, e_X8_personPart_104, e_X8_personPart_107, e_X8_personPart_110, e_X8_personPart_111, e_X8_personPart_113, e_X8_personPart_116, e_X8_personPart_119, e_X8_personPart_120, e_X8_personPart_122, e_X8_personPart_125, e_X8_personPart_128, e_X8_personPart_129, e_X8_personPart_132, e_X8_personPart_133, c_13, c_tt ha hg, c_T0 t33, g_tt_0 ha hg, g_tt_1 ha hg, t_isFull t33, h.W.hN, s6, decide_false, bI, Bool.false_eq_true, a1, nn _ _ _ _ hg, zfit_b0, Option.bind_some, Option.isSome_some, Option.toList, List.cons_append, List.nil_append, zclr_i, zclr_r, zclr_n, zfit_i, zfit_l, and_self, if_true, if_false]
  have ht' : taken JX1 N S = false := Bool.eq_false_iff.mpr ht
  have nn := fun n m g d a ha => t_new_ok (t := t) hn h1.W.hS h6 h1.W.hN h12 ht' n m g d a ha
  have hwd := (h1.rs.pos hn).2
  have h1w := h1.word (v := JX1 13 8) hN
  obtain ⟨X2, JX2, Y2, JY2, p2, b1, b2, b3, b4, _, b5, b6⟩ := r_adv h1w.rs
  have h2 := h1w.move b3 b5 b6.yg
  have rn := v_new1_ok h hN a2 h1 hn ht' b2
  have gx2 : GX X JX X2 JX2 := a5.gx.trans b5.gx
  have gy2 : GY Y JY Y2 JY2 := (a6.yg.gy.w).trans b6.yg.gy
  have hnw2 : nw JY2 (6 + N) = JX1 13 8 := by
    unfold nw
    rw [b6.2.2.1 151 (by decide), zu_row, if_pos rfl]
  obtain ⟨y, y1, y9, ey⟩ := h2.W.hY
  have yy : Y2 148 (2024 + 2) = nI y := (TQ.R h2).n2.trans ey
  by_cases cB : X2 13 9 = 6
  rotate_left
  · have hB := h2.rs.here
    refine Out.f (X' := dHere X2) (JX' := JX2) (Y' := zu (vFail (kH X2) (X2 13 4) Y2) 148 (2024 + (18 + N)) 0) (JY' := JY2) (fun n m g d => ?_) (fun n m g d a ha hg => ?_) hB.cc (gx2.trans FX.here.gx) (gy2.trans (YG.fail _ _).gy).cc
    · rw [m_X12_readPerson]
      simp only [e_X12_readPerson_0, e_X12_readPerson_1, e_X12_readPerson_2, e_X12_readPerson_4, e_X12_readPerson_7, e_X12_readPerson_8, e_X12_readPerson_9, e_X12_readPerson_12, e_X12_readPerson_15, e_X12_readPerson_16, e_X12_readPerson_17, e_X12_readPerson_18, e_X12_readPerson_19, e_X12_readPerson_22, e_X12_readPerson_25, e_X12_readPerson_26, e_X12_readPerson_29, e_X12_readPerson_32, e_X12_readPerson_33, e_X12_readPerson_36, c_143, rn, v_isBorn, h2.rs.k6, decide_eq_false cB, bI, Bool.false_eq_true, g_143_20, lW_2, v_behind_f h2.rs, cB_18, nI_neg (show 2024 + (18 + N) < 2 ^ 31 by omega), nI_clamp (show 2024 + (18 + N) < 2 ^ 31 by omega), k_148 (show 2024 + (18 + N) < 2530 by omega), l_148 (show 2024 + (18 + N) < 2530 by omega), q_148, Option.bind_some, Option.isSome_some, Option.toList, List.cons_append, List.nil_append, zclr_i, zclr_r, zclr_n, zfit_i, zfit_l, and_self, if_true, if_false]
      exact per_bad hB.cc (d + 5)
    · rw [m_X8_personPart]
      simp only [e_X8_personPart_0, e_X8_personPart_1, e_X8_personPart_4, e_X8_personPart_7, e_X8_personPart_10, e_X8_personPart_11, e_X8_personPart_14, e_X8_personPart_16, e_X8_personPart_19, e_X8_personPart_20, e_X8_personPart_21, e_X8_personPart_24, e_X8_personPart_27, e_X8_personPart_28, e_X8_personPart_31, e_X8_personPart_34, e_X8_personPart_35, e_X8_personPart_36, e_X8_personPart_37, e_X8_personPart_40, e_X8_personPart_43, e_X8_personPart_44, e_X8_personPart_45, e_X8_personPart_48, e_X8_personPart_51, e_X8_personPart_52, e_X8_personPart_55, e_X8_personPart_57, e_X8_personPart_60, e_X8_personPart_63, e_X8_personPart_64, e_X8_personPart_65, e_X8_personPart_66, e_X8_personPart_69, e_X8_personPart_72, e_X8_personPart_73, e_X8_personPart_76, e_X8_personPart_79, e_X8_personPart_82, e_X8_personPart_83, e_X8_personPart_84, e_X8_personPart_85, e_X8_personPart_88, e_X8_personPart_89, e_X8_personPart_90, e_X8_personPart_91, e_X8_personPart_94, e_X8_personPart_95, e_X8_personPart_96, e_X8_personPart_99, e_X8_personPart_101, e_X8_personPart_102, e_X8_personPart_104, e_X8_personPart_107, e_X8_personPart_110, e_X8_personPart_111, e_X8_personPart_113, e_X8_personPart_116, e_X8_personPart_119, e_X8_personPart_120, e_X8_personPart_122, e_X8_personPart_125, e_X8_personPart_128, e_X8_personPart_129, e_X8_personPart_132, e_X8_personPart_133, c_13, c_tt ha hg, c_T0 t33, g_tt_0 ha hg, g_tt_1 ha hg, g_13_8, t_isFull t33, h.W.hN, s6, decide_false, bI, Bool.false_eq_true, a1, nn _ _ _ _ _ ha hg, show ((1 : Int32) = 0) = False by decide, b1, d_key_no h2.rs cB, zfit_b0, Option.bind_some, Option.isSome_some, Option.toList, List.cons_append, List.nil_append, zclr_i, zclr_r, zclr_n, zfit_i, zfit_l, and_self, if_true, if_false]
  obtain ⟨X3, JX3, Y3, JY3, p3, c1, c2, c3, c4, _, c5, c6⟩ := r_adv h2.rs
  have h3 := h2.move c3 c5 c6.yg
  have x33 : X3 33 0 = nI y := by rw [c5.1 33 (by decide)]; exact ey
  rcases r_number h3.rs 1000 y (by omega) (by decide) with ⟨k, X4, JX4, Y4, JY4, p4, k1, k2, d1, d2, d3, d4, d5, d6⟩ | ⟨X4, Y4, d1, d2, hB, d5, d6⟩
  rotate_left
  · have d1' : Ca 2 57 [.ref 13, .int 1000, .int (nI y)] X3 JX3 (some (.int (-1))) X4 JX3 := d1
    have d2' : Ca 2 282 [.ref 143, .int 1000, .int (nI y)] Y3 JY3 (some (.int 0)) Y4 JY3 := d2
    refine Out.f (X' := X4) (JX' := JX3) (Y' := zu Y4 148 (2024 + (18 + N)) 0) (JY' := JY3) (fun n m g d => ?_) (fun n m g d a ha hg => ?_) hB.cc ((gx2.trans c5.gx).trans d5.gx) ((gy2.trans c6.yg.gy).trans d6.gy).cc
    · rw [m_X12_readPerson]
      simp only [e_X12_readPerson_0, e_X12_readPerson_1, e_X12_readPerson_2, e_X12_readPerson_4, e_X12_readPerson_7, e_X12_readPerson_8, e_X12_readPerson_9, e_X12_readPerson_12, e_X12_readPerson_15, e_X12_readPerson_16, e_X12_readPerson_17, e_X12_readPerson_18, e_X12_readPerson_19, e_X12_readPerson_22, e_X12_readPerson_25, e_X12_readPerson_26, e_X12_readPerson_29, e_X12_readPerson_32, e_X12_readPerson_33, e_X12_readPerson_36, c_143, rn, v_isBorn, h2.rs.k6, decide_eq_true cB, bI, if_true, g_143_20, lW_2, yy, v_behind_t h2.rs.bad c2 d2', cB_18, nI_neg (show 2024 + (18 + N) < 2 ^ 31 by omega), nI_clamp (show 2024 + (18 + N) < 2 ^ 31 by omega), k_148 (show 2024 + (18 + N) < 2530 by omega), l_148 (show 2024 + (18 + N) < 2530 by omega), q_148, Option.bind_some, Option.isSome_some, Option.toList, List.cons_append, List.nil_append, zclr_i, zclr_r, zclr_n, zfit_i, zfit_l, and_self, if_true, if_false]
      exact per_bad hB.cc (d + 5)
    · rw [m_X8_personPart]
      simp only [e_X8_personPart_0, e_X8_personPart_1, e_X8_personPart_4, e_X8_personPart_7, e_X8_personPart_10, e_X8_personPart_11, e_X8_personPart_14, e_X8_personPart_16, e_X8_personPart_19, e_X8_personPart_20, e_X8_personPart_21, e_X8_personPart_24, e_X8_personPart_27, e_X8_personPart_28, e_X8_personPart_31, e_X8_personPart_34, e_X8_personPart_35, e_X8_personPart_36, e_X8_personPart_37, e_X8_personPart_40, e_X8_personPart_43, e_X8_personPart_44, e_X8_personPart_45, e_X8_personPart_48, e_X8_personPart_51, e_X8_personPart_52, e_X8_personPart_55, e_X8_personPart_57, e_X8_personPart_60, e_X8_personPart_63, e_X8_personPart_64, e_X8_personPart_65, e_X8_personPart_66, e_X8_personPart_69, e_X8_personPart_72, e_X8_personPart_73, e_X8_personPart_76, e_X8_personPart_79, e_X8_personPart_82, e_X8_personPart_83, e_X8_personPart_84, e_X8_personPart_85, e_X8_personPart_88, e_X8_personPart_89, e_X8_personPart_90, e_X8_personPart_91, e_X8_personPart_94, e_X8_personPart_95, e_X8_personPart_96, e_X8_personPart_99, e_X8_personPart_101, e_X8_personPart_102, e_X8_personPart_104, e_X8_personPart_107, e_X8_personPart_110, e_X8_personPart_111, e_X8_personPart_113, e_X8_personPart_116, e_X8_personPart_119, e_X8_personPart_120, e_X8_personPart_122, e_X8_personPart_125, e_X8_personPart_128, e_X8_personPart_129, e_X8_personPart_132, e_X8_personPart_133, c_13, c_tt ha hg, c_T0 t33, g_T0_0 t33, g_tt_0 ha hg, g_tt_1 ha hg, g_13_8, t_isFull t33, h.W.hN, s6, decide_false, bI, Bool.false_eq_true, a1, nn _ _ _ _ _ ha hg, show ((1 : Int32) = 0) = False by decide, b1, d_key_yes h2.rs cB c1, x33, d1', zfit_b0, Option.bind_some, Option.isSome_some, Option.toList, List.cons_append, List.nil_append, zclr_i, zclr_r, zclr_n, zfit_i, zfit_l, and_self, if_true, if_false]
  have d1' : Ca 2 57 [.ref 13, .int 1000, .int (nI y)] X3 JX3 (some (.int (nI k))) X4 JX4 := d1
  have d2' : Ca 2 282 [.ref 143, .int 1000, .int (nI y)] Y3 JY3 (some (.int (nI k))) Y4 JY4 := d2
  have kmf : (nI k = -1) = False := eq_false (nI_m1 (by omega))
  have h4 := h3.move d3 d5 d6
  have hnw4 : nw JY4 (6 + N) = JX1 13 8 := by
    have e : nw JY4 = nw JY2 := by
      unfold nw
      rw [d6.2.2.1 151 (by decide), c6.2.2.1 151 (by decide)]
    rw [e, hnw2]
  have P := h4.addp hN k1 (by omega) hnw4 hwd
  have ad := fun n m g d => t_addPerson (n := n) (m := m) (g := g) (J := JX4) (w := JX1 13 8) (y := nI k) t33 h4.W.hN hN d
  have gx5 : GX X JX (tAdd X4 33 N (nI k)) (zu JX4 (33 + 4) N (JX1 13 8)) := (((gx2.trans c5.gx).trans d5.gx).trans GX.add).wj (by decide) (by decide)
  have gy5 : GY Y JY (zu Y4 148 (2024 + (18 + N)) (nI k)) JY4 := ((gy2.trans c6.yg.gy).trans d6.gy).cc
  have hr0 : ∀ (n m : Nat) (g : Nat → zC) (d : Nat), zcall (d + 20) 299 [.ref 143] (mk n m g Y JY) = zexec (d + 20) 299 37 [some (.ref 143), some (.int (nI N)), none] [] (mk n m g (zu Y4 148 (2024 + (18 + N)) (nI k)) JY4) := by
    intro n m g d
    rw [m_X12_readPerson]
    simp only [e_X12_readPerson_0, e_X12_readPerson_1, e_X12_readPerson_2, e_X12_readPerson_4, e_X12_readPerson_7, e_X12_readPerson_8, e_X12_readPerson_9, e_X12_readPerson_12, e_X12_readPerson_15, e_X12_readPerson_16, e_X12_readPerson_17, e_X12_readPerson_18, e_X12_readPerson_19, e_X12_readPerson_22, e_X12_readPerson_25, e_X12_readPerson_26, e_X12_readPerson_29, e_X12_readPerson_32, e_X12_readPerson_33, e_X12_readPerson_36, c_143, rn, v_isBorn, h2.rs.k6, decide_eq_true cB, bI, if_true, g_143_20, lW_2, yy, v_behind_t h2.rs.bad c2 d2', cB_18, nI_neg (show 2024 + (18 + N) < 2 ^ 31 by omega), nI_clamp (show 2024 + (18 + N) < 2 ^ 31 by omega), k_148 (show 2024 + (18 + N) < 2530 by omega), l_148 (show 2024 + (18 + N) < 2530 by omega), q_148, Option.bind_some, Option.isSome_some, Option.toList, List.cons_append, List.nil_append, zclr_i, zclr_r, zclr_n, zfit_i, zfit_l, and_self, if_true, if_false]
  have hc0 : ∀ (n m : Nat) (g : Nat → zC) (d a : Nat), 158 ≤ a → g a = tto t → zcall (d + 20) 126 [.ref a] (mk n m g X JX) = zexec (d + 20) 126 101 [some (.ref a), some (.long (JX1 13 8)), none, some (.int (nI k)), some (.int (nI N))] [] (mk n m g (tAdd X4 33 N (nI k)) (zu JX4 (33 + 4) N (JX1 13 8))) := by
    intro n m g d a ha hg
    rw [m_X8_personPart]
    simp only [e_X8_personPart_0, e_X8_personPart_1, e_X8_personPart_4, e_X8_personPart_7, e_X8_personPart_10, e_X8_personPart_11, e_X8_personPart_14, e_X8_personPart_16, e_X8_personPart_19, e_X8_personPart_20, e_X8_personPart_21, e_X8_personPart_24, e_X8_personPart_27, e_X8_personPart_28, e_X8_personPart_31, e_X8_personPart_34, e_X8_personPart_35, e_X8_personPart_36, e_X8_personPart_37, e_X8_personPart_40, e_X8_personPart_43, e_X8_personPart_44, e_X8_personPart_45, e_X8_personPart_48, e_X8_personPart_51, e_X8_personPart_52, e_X8_personPart_55, e_X8_personPart_57, e_X8_personPart_60, e_X8_personPart_63, e_X8_personPart_64, e_X8_personPart_65, e_X8_personPart_66, e_X8_personPart_69, e_X8_personPart_72, e_X8_personPart_73, e_X8_personPart_76, e_X8_personPart_79, e_X8_personPart_82, e_X8_personPart_83, e_X8_personPart_84, e_X8_personPart_85, e_X8_personPart_88, e_X8_personPart_89, e_X8_personPart_90, e_X8_personPart_91, e_X8_personPart_94, e_X8_personPart_95, e_X8_personPart_96, e_X8_personPart_99, c_13, c_tt ha hg, c_T0 t33, g_T0_0 t33, g_tt_0 ha hg, g_tt_1 ha hg, g_13_8, t_isFull t33, h.W.hN, s6, decide_false, bI, Bool.false_eq_true, a1, nn _ _ _ _ _ ha hg, show ((1 : Int32) = 0) = False by decide, b1, d_key_yes h2.rs cB c1, x33, d1', kmf, ad, Option.bind_some, Option.isSome_some, Option.toList, List.cons_append, List.nil_append, zclr_i, zclr_r, zclr_n, zfit_i, zfit_l, and_self, if_true, if_false]
  obtain ⟨X5, JX5, Y5, JY5, e1, e2, e3, e4⟩ := r_of P (by rw [tAdd_new, tNew_7, fu_eq])
  rcases e1 with ⟨f1, f2⟩ | ⟨f1, p5, f2, f3⟩
  · refine Out.f (X' := X5) (JX' := JX5) (Y' := Y5) (JY' := JY5) (fun n m g d => ?_) (fun n m g d a ha hg => ?_) f2 (gx5.trans e3) (gy5.trans e4)
    · obtain ⟨x', ex⟩ := e2 n m g (d + 5) none
      exact (hr0 n m g d).trans (ex.trans (per_bad2 f2 (d + 5)))
    · rw [hc0 n m g d a ha hg]
      simp only [e_X8_personPart_101, e_X8_personPart_102, e_X8_personPart_104, e_X8_personPart_107, e_X8_personPart_110, e_X8_personPart_111, e_X8_personPart_113, e_X8_personPart_116, e_X8_personPart_119, e_X8_personPart_120, e_X8_personPart_122, e_X8_personPart_125, e_X8_personPart_128, e_X8_personPart_129, e_X8_personPart_132, e_X8_personPart_133, c_tt ha hg, f1 _ _ _ _ _ ha hg, zfit_b0, Option.bind_some, Option.isSome_some, Option.toList, List.cons_append, List.nil_append, zclr_i, zclr_r, zclr_n, zfit_i, zfit_l, and_self, if_true, if_false]
  obtain ⟨X6, JX6, Y6, JY6, g1, g2, g3, g4⟩ := r_coins f3
  rcases g1 with ⟨i1, i2⟩ | ⟨i1, p6, i2, i3⟩
  · refine Out.f (X' := X6) (JX' := JX6) (Y' := Y6) (JY' := JY6) (fun n m g d => ?_) (fun n m g d a ha hg => ?_) i2 ((gx5.trans e3).trans g3) ((gy5.trans e4).trans g4)
    · obtain ⟨x', ex⟩ := e2 n m g (d + 5) none
      obtain ⟨x2', ex2⟩ := g2 n m g (d + 5) x'
      exact (hr0 n m g d).trans (ex.trans (ex2.trans (per_bad3 i2 (d + 5))))
    · rw [hc0 n m g d a ha hg]
      simp only [e_X8_personPart_101, e_X8_personPart_102, e_X8_personPart_104, e_X8_personPart_107, e_X8_personPart_110, e_X8_personPart_111, e_X8_personPart_113, e_X8_personPart_116, e_X8_personPart_119, e_X8_personPart_120, e_X8_personPart_122, e_X8_personPart_125, e_X8_personPart_128, e_X8_personPart_129, e_X8_personPart_132, e_X8_personPart_133, c_tt ha hg, f1 _ _ _ _ _ ha hg, i1 _ _ _ _ _ ha hg, show ((1 : Int32) = 0) = False by decide, zfit_b0, Option.bind_some, Option.isSome_some, Option.toList, List.cons_append, List.nil_append, zclr_i, zclr_r, zclr_n, zfit_i, zfit_l, and_self, if_true, if_false]
  obtain ⟨X7, JX7, Y7, JY7, j1, j2, j3, j4⟩ := r_miser i3
  rcases j1 with ⟨l1, l2⟩ | ⟨l1, p7, l2, l3⟩
  · refine Out.f (X' := X7) (JX' := JX7) (Y' := Y7) (JY' := JY7) (fun n m g d => ?_) (fun n m g d a ha hg => ?_) l2 (((gx5.trans e3).trans g3).trans j3) (((gy5.trans e4).trans g4).trans j4)
    · obtain ⟨x', ex⟩ := e2 n m g (d + 5) none
      obtain ⟨x2', ex2⟩ := g2 n m g (d + 5) x'
      obtain ⟨x3', ex3⟩ := j2 n m g (d + 5) x2'
      refine (hr0 n m g d).trans (ex.trans (ex2.trans (ex3.trans ?_)))
      simp only [e_X12_readPerson_158, e_X12_readPerson_159, e_X12_readPerson_162, e_X12_readPerson_165, e_X12_readPerson_166, e_X12_readPerson_169, e_X12_readPerson_172, e_X12_readPerson_173, e_X12_readPerson_174, e_X12_readPerson_175, e_X12_readPerson_176, e_X12_readPerson_177, g_143_12, l2.ne, Option.bind_some, Option.isSome_some, Option.toList, List.cons_append, List.nil_append, zclr_i, zclr_r, zclr_n, zfit_i, zfit_l, and_self, if_true, if_false]
    · rw [hc0 n m g d a ha hg]
      simp only [e_X8_personPart_101, e_X8_personPart_102, e_X8_personPart_104, e_X8_personPart_107, e_X8_personPart_110, e_X8_personPart_111, e_X8_personPart_113, e_X8_personPart_116, e_X8_personPart_119, e_X8_personPart_120, e_X8_personPart_122, e_X8_personPart_125, e_X8_personPart_128, e_X8_personPart_129, e_X8_personPart_132, e_X8_personPart_133, c_tt ha hg, f1 _ _ _ _ _ ha hg, i1 _ _ _ _ _ ha hg, l1 _ _ _ _ _ ha hg, show ((1 : Int32) = 0) = False by decide, zfit_b0, Option.bind_some, Option.isSome_some, Option.toList, List.cons_append, List.nil_append, zclr_i, zclr_r, zclr_n, zfit_i, zfit_l, and_self, if_true, if_false]
  have T : TS L p7 t (N + 1) S X7 JX7 (zu Y7 148 (2024 + 1) (nI (N + 1))) JY7 := by
    obtain ⟨⟨z1, z2, z3, z4, z5, z6, z7, z8⟩, _⟩ := l3
    unfold TS
    rw [nb_zu]
    exact ⟨z1.cc, z2, z3, z4, z5, z6, z7, by rw [zu_far _ _ _ (by decide)]; exact z8⟩
  have y71 : Y7 148 (2024 + 1) = nI N := l3.2.1
  refine Out.tr (p' := p7) (N' := N + 1) (S' := S) (X' := X7) (JX' := JX7) (Y' := zu Y7 148 (2024 + 1) (nI (N + 1))) (JY' := JY7) (fun n m g d => ?_) (fun n m g d a ha hg => ?_) (by omega) T (((gx5.trans e3).trans g3).trans j3) (((gy5.trans e4).trans g4).trans j4).cc
  · obtain ⟨x', ex⟩ := e2 n m g (d + 5) none
    obtain ⟨x2', ex2⟩ := g2 n m g (d + 5) x'
    obtain ⟨x3', ex3⟩ := j2 n m g (d + 5) x2'
    refine (hr0 n m g d).trans (ex.trans (ex2.trans (ex3.trans ?_)))
    simp only [e_X12_readPerson_158, e_X12_readPerson_159, e_X12_readPerson_162, e_X12_readPerson_165, e_X12_readPerson_166, e_X12_readPerson_169, e_X12_readPerson_172, e_X12_readPerson_173, e_X12_readPerson_174, e_X12_readPerson_175, e_X12_readPerson_176, e_X12_readPerson_177, g_143_12, g_143_20, l3.1.rs.bad, lW_1, y71, ltn_1, cln_1, kW_1, q_148, nI_1, Option.bind_some, Option.isSome_some, Option.toList, List.cons_append, List.nil_append, zclr_i, zclr_r, zclr_n, zfit_i, zfit_l, and_self, if_true, if_false]
  · rw [hc0 n m g d a ha hg]
    simp only [e_X8_personPart_101, e_X8_personPart_102, e_X8_personPart_104, e_X8_personPart_107, e_X8_personPart_110, e_X8_personPart_111, e_X8_personPart_113, e_X8_personPart_116, e_X8_personPart_119, e_X8_personPart_120, e_X8_personPart_122, e_X8_personPart_125, e_X8_personPart_128, e_X8_personPart_129, e_X8_personPart_132, e_X8_personPart_133, c_tt ha hg, f1 _ _ _ _ _ ha hg, i1 _ _ _ _ _ ha hg, l1 _ _ _ _ _ ha hg, show ((1 : Int32) = 0) = False by decide, zfit_b1, Option.bind_some, Option.isSome_some, Option.toList, List.cons_append, List.nil_append, zclr_i, zclr_r, zclr_n, zfit_i, zfit_l, and_self, if_true, if_false]
end TI
