/-! READING A TOWN: a new name; a surname (written by wip/whole/gen_n.py) -/
section TF
variable {n m : Nat} {g : Nat → zC} {A X Y X1 Y1 : Nat → Nat → Int32} {JX JY JX1 JY1 : Nat → Nat → Int64} {L p p1 N S q b U : Nat} {t x : Int32} {c c' : Nat → Int32} {X' Y' : Nat → Nat → Int32} {JX' JY' : Nat → Nat → Int64}
theorem fu_comm {α : Type} (c : Nat → α) {i j : Nat} (x y : α) (h : i ≠ j) : fu (fu c i x) j y = fu (fu c j y) i x := by
  funext k
  unfold fu
  by_cases h1 : k = i
  · rw [if_neg (by omega), if_pos h1, if_pos h1]
  · rw [if_neg h1, if_neg h1]
def taken (JX : Nat → Nat → Int64) (N S : Nat) : Bool := decide (wPlace JX (33 + 1) S (JX 13 8) ≠ -1 ∨ wPlace JX (33 + 4) N (JX 13 8) ≠ -1)
theorem t_new_n (hn : dName X JX = false) : Ct t 4 124 [] X JX (some (.int 0)) (dHere X) JX := by
  intro n m g d a ha hg
  rw [m_X8_newNameHere]
  simp only [e_X8_newNameHere_0, e_X8_newNameHere_1, e_X8_newNameHere_4, e_X8_newNameHere_7, e_X8_newNameHere_10, e_X8_newNameHere_11, e_X8_newNameHere_14, e_X8_newNameHere_17, e_X8_newNameHere_18, e_X8_newNameHere_19, e_X8_newNameHere_22, e_X8_newNameHere_23, e_X8_newNameHere_26, e_X8_newNameHere_29, e_X8_newNameHere_32, e_X8_newNameHere_33, e_X8_newNameHere_36, e_X8_newNameHere_37, e_X8_newNameHere_40, e_X8_newNameHere_43, e_X8_newNameHere_44, e_X8_newNameHere_47, e_X8_newNameHere_48, c_13, g_tt_0 ha hg, g_tt_1 ha hg, d_atName, hn, bI, Bool.false_eq_true, d_failHere, zfit_b0, Option.bind_some, Option.isSome_some, Option.toList, List.cons_append, List.nil_append, zclr_i, zclr_r, zclr_n, zfit_i, zfit_l, and_self, if_true, if_false]
theorem t_new_t (hn : dName X JX = true) (hS : X 33 3 = nI S) (h6 : S ≤ 6) (hN : X 33 4 = nI N) (h12 : N ≤ 12) (ht : taken JX N S = true) : Ct t 4 124 [] X JX (some (.int 0)) (dFail 3 X) JX := by
  intro n m g d a ha hg
  have hT := fun n m g d => d_isTaken (n := n) (m := m) (g := g) (J := JX) t33 hS h6 hN h12 d
  unfold taken at ht
  rw [ht] at hT
  rw [m_X8_newNameHere]
  simp only [e_X8_newNameHere_0, e_X8_newNameHere_1, e_X8_newNameHere_4, e_X8_newNameHere_7, e_X8_newNameHere_10, e_X8_newNameHere_11, e_X8_newNameHere_14, e_X8_newNameHere_17, e_X8_newNameHere_18, e_X8_newNameHere_19, e_X8_newNameHere_22, e_X8_newNameHere_23, e_X8_newNameHere_26, e_X8_newNameHere_29, e_X8_newNameHere_32, e_X8_newNameHere_33, e_X8_newNameHere_36, e_X8_newNameHere_37, e_X8_newNameHere_40, e_X8_newNameHere_43, e_X8_newNameHere_44, e_X8_newNameHere_47, e_X8_newNameHere_48, c_13, g_tt_0 ha hg, g_tt_1 ha hg, d_atName, hn, bI, if_true, show ((1 : Int32) = 0) = False by decide, hT, d_fail, zfit_b0, Option.bind_some, Option.isSome_some, Option.toList, List.cons_append, List.nil_append, zclr_i, zclr_r, zclr_n, zfit_i, zfit_l, and_self, if_true, if_false]
theorem t_new_ok (hn : dName X JX = true) (hS : X 33 3 = nI S) (h6 : S ≤ 6) (hN : X 33 4 = nI N) (h12 : N ≤ 12) (ht : taken JX N S = false) : Ct t 4 124 [] X JX (some (.int 1)) X JX := by
  intro n m g d a ha hg
  have hT := fun n m g d => d_isTaken (n := n) (m := m) (g := g) (J := JX) t33 hS h6 hN h12 d
  unfold taken at ht
  rw [ht] at hT
  rw [m_X8_newNameHere]
  simp only [e_X8_newNameHere_0, e_X8_newNameHere_1, e_X8_newNameHere_4, e_X8_newNameHere_7, e_X8_newNameHere_10, e_X8_newNameHere_11, e_X8_newNameHere_14, e_X8_newNameHere_17, e_X8_newNameHere_18, e_X8_newNameHere_19, e_X8_newNameHere_22, e_X8_newNameHere_23, e_X8_newNameHere_26, e_X8_newNameHere_29, e_X8_newNameHere_32, e_X8_newNameHere_33, e_X8_newNameHere_36, e_X8_newNameHere_37, e_X8_newNameHere_40, e_X8_newNameHere_43, e_X8_newNameHere_44, e_X8_newNameHere_47, e_X8_newNameHere_48, c_13, g_tt_0 ha hg, g_tt_1 ha hg, d_atName, hn, bI, if_true, Bool.false_eq_true, show ((1 : Int32) = 0) = False by decide, hT, zfit_b1, Option.bind_some, Option.isSome_some, Option.toList, List.cons_append, List.nil_append, zclr_i, zclr_r, zclr_n, zfit_i, zfit_l, and_self, if_true, if_false]
theorem TS.nam0 (h : TS L p t N S X JX Y JY) (hn : dName X JX = true) (d : Nat) : zcall d 292 [.ref 143, .int 4, .int 0] (mk n m g Y JY) = some (some (.int (wPlace JX (33 + 1) S (JX 13 8))), mk n m g Y JY) := by
  obtain ⟨e1, e2⟩ := h.rs.pos hn
  have := v_named (n := n) (m := m) (g := g) (JY := JY) (B := 4) (s := 0) (K := S) (by decide) (by decide) (by have := h.W.h6; omega) (h.R.n0.trans h.W.hS) d
  rw [e1, (TQ.ws h).find e2] at this
  exact this
theorem TS.nam1 (h : TS L p t N S X JX Y JY) (hn : dName X JX = true) (d : Nat) : zcall d 292 [.ref 143, .int 4, .int 1] (mk n m g Y JY) = some (some (.int (wPlace JX (33 + 4) N (JX 13 8))), mk n m g Y JY) := by
  obtain ⟨e1, e2⟩ := h.rs.pos hn
  have := v_named (n := n) (m := m) (g := g) (JY := JY) (B := 4) (s := 1) (K := N) (by decide) (by decide) h.W.h12 (h.R.n1.trans h.W.hN) d
  rw [e1, (TQ.wp h).find e2] at this
  exact this
theorem wP_or {a K : Nat} {w : Int64} : wPlace JX a K w = -1 ∨ ∃ j, j < K ∧ wPlace JX a K w = nI j := by
  rcases zfind_or (c := fun k => decide (JX a k = w)) K 0 with h | ⟨j, _, h2, _, h4⟩
  · exact .inl h.1
  · exact .inr ⟨j, by omega, h4⟩
/-- at the next word, behind 'name' or 'person' -/
theorem v_new0_full (h : TS L p t N S X JX Y JY) (hK : S = 6) : Ca 10 293 [.ref 143, .int 0, .int 6] Y JY (some (.int 0)) (vFail 6 (X 13 4) Y) JY := by
  intro n m g d
  have hc : Y 148 (2024 + 0) = 6 := (h.R.n0.trans h.W.hS).trans (by rw [hK]; rfl)
  have hB := h.rs.fails 6 (by decide) (by decide)
  rw [show nI 6 = 6 from rfl] at hB
  rw [m_X12_readNew]
  simp only [e_X12_readNew_0, e_X12_readNew_1, e_X12_readNew_4, e_X12_readNew_7, e_X12_readNew_8, e_X12_readNew_9, e_X12_readNew_10, e_X12_readNew_11, e_X12_readNew_12, e_X12_readNew_13, e_X12_readNew_16, e_X12_readNew_17, e_X12_readNew_19, e_X12_readNew_20, e_X12_readNew_23, e_X12_readNew_26, e_X12_readNew_27, e_X12_readNew_30, e_X12_readNew_33, e_X12_readNew_34, e_X12_readNew_35, e_X12_readNew_36, e_X12_readNew_39, e_X12_readNew_40, e_X12_readNew_43, e_X12_readNew_46, e_X12_readNew_47, e_X12_readNew_50, e_X12_readNew_51, e_X12_readNew_54, e_X12_readNew_57, e_X12_readNew_58, e_X12_readNew_59, e_X12_readNew_60, e_X12_readNew_63, e_X12_readNew_66, e_X12_readNew_67, e_X12_readNew_68, e_X12_readNew_69, e_X12_readNew_72, e_X12_readNew_75, e_X12_readNew_76, e_X12_readNew_77, e_X12_readNew_78, e_X12_readNew_81, e_X12_readNew_84, e_X12_readNew_85, e_X12_readNew_88, e_X12_readNew_91, e_X12_readNew_92, e_X12_readNew_93, e_X12_readNew_94, e_X12_readNew_97, e_X12_readNew_99, e_X12_readNew_101, e_X12_readNew_102, e_X12_readNew_103, e_X12_readNew_104, e_X12_readNew_105, e_X12_readNew_106, e_X12_readNew_107, e_X12_readNew_110, e_X12_readNew_111, e_X12_readNew_112, e_X12_readNew_115, e_X12_readNew_116, c_143, g_143_12, g_143_15, g_143_20, show (2024 : Int32) + 0 = 2024 by decide, lW_0, hc, h.rs.at, v_fail h.rs.bad, hB.le, hB.ne, Option.bind_some, Option.isSome_some, Option.toList, List.cons_append, List.nil_append, zclr_i, zclr_r, zclr_n, zfit_i, zfit_l, and_self, if_true, if_false]
theorem v_new0_n (h : TS L p t N S X JX Y JY) (hK : S < 6) (hA : Ca 1 257 [.ref 143] Y JY none Y1 JY1) (h1 : TS L p1 t N S X1 JX1 Y1 JY1) (hn : dName X1 JX1 = false) : Ca 10 293 [.ref 143, .int 0, .int 6] Y JY (some (.int 0)) (vFail (kH X1) (X1 13 4) Y1) JY1 := by
  intro n m g d
  have hc : Y 148 (2024 + 0) = nI S := h.R.n0.trans h.W.hS
  have ne : (nI S = 6) = False := nI_nef (j := 6) (by omega) (by decide) (by omega)
  have hB := h1.rs.here
  rw [m_X12_readNew]
  simp only [e_X12_readNew_0, e_X12_readNew_1, e_X12_readNew_4, e_X12_readNew_7, e_X12_readNew_8, e_X12_readNew_9, e_X12_readNew_10, e_X12_readNew_11, e_X12_readNew_12, e_X12_readNew_13, e_X12_readNew_16, e_X12_readNew_17, e_X12_readNew_19, e_X12_readNew_20, e_X12_readNew_23, e_X12_readNew_26, e_X12_readNew_27, e_X12_readNew_30, e_X12_readNew_33, e_X12_readNew_34, e_X12_readNew_35, e_X12_readNew_36, e_X12_readNew_39, e_X12_readNew_40, e_X12_readNew_43, e_X12_readNew_46, e_X12_readNew_47, e_X12_readNew_50, e_X12_readNew_51, e_X12_readNew_54, e_X12_readNew_57, e_X12_readNew_58, e_X12_readNew_59, e_X12_readNew_60, e_X12_readNew_63, e_X12_readNew_66, e_X12_readNew_67, e_X12_readNew_68, e_X12_readNew_69, e_X12_readNew_72, e_X12_readNew_75, e_X12_readNew_76, e_X12_readNew_77, e_X12_readNew_78, e_X12_readNew_81, e_X12_readNew_84, e_X12_readNew_85, e_X12_readNew_88, e_X12_readNew_91, e_X12_readNew_92, e_X12_readNew_93, e_X12_readNew_94, e_X12_readNew_97, e_X12_readNew_99, e_X12_readNew_101, e_X12_readNew_102, e_X12_readNew_103, e_X12_readNew_104, e_X12_readNew_105, e_X12_readNew_106, e_X12_readNew_107, e_X12_readNew_110, e_X12_readNew_111, e_X12_readNew_112, e_X12_readNew_115, e_X12_readNew_116, c_143, g_143_12, g_143_15, g_143_20, show (2024 : Int32) + 0 = 2024 by decide, lW_0, hc, ne, h.rs.bad, z00, hA, v_isName, h1.rs.name, hn, bI, Bool.false_eq_true, v_amiss h1.rs, hB.le, hB.ne, Option.bind_some, Option.isSome_some, Option.toList, List.cons_append, List.nil_append, zclr_i, zclr_r, zclr_n, zfit_i, zfit_l, and_self, if_true, if_false]
theorem v_new0_t (h : TS L p t N S X JX Y JY) (hK : S < 6) (hA : Ca 1 257 [.ref 143] Y JY none Y1 JY1) (h1 : TS L p1 t N S X1 JX1 Y1 JY1) (hn : dName X1 JX1 = true) (ht : taken JX1 N S = true) : Ca 10 293 [.ref 143, .int 0, .int 6] Y JY (some (.int 0)) (vFail 3 (X1 13 4) Y1) JY1 := by
  intro n m g d
  have hc : Y 148 (2024 + 0) = nI S := h.R.n0.trans h.W.hS
  have ne : (nI S = 6) = False := nI_nef (j := 6) (by omega) (by decide) (by omega)
  have hB := h1.rs.fails 3 (by decide) (by decide)
  rw [show nI 3 = 3 from rfl] at hB
  unfold taken at ht
  rw [decide_eq_true_eq] at ht
  have h12 := h1.W.h12
  have h6 := h1.W.h6
  rw [m_X12_readNew]
  rcases wP_or (JX := JX1) (a := 33 + 1) (K := S) (w := JX1 13 8) with e0 | ⟨j, hj, e0⟩
  · rcases wP_or (JX := JX1) (a := 33 + 4) (K := N) (w := JX1 13 8) with e1 | ⟨j, hj, e1⟩
    · exact absurd ht (fun q => q.elim (fun q => q e0) (fun q => q e1))
    · simp only [e_X12_readNew_0, e_X12_readNew_1, e_X12_readNew_4, e_X12_readNew_7, e_X12_readNew_8, e_X12_readNew_9, e_X12_readNew_10, e_X12_readNew_11, e_X12_readNew_12, e_X12_readNew_13, e_X12_readNew_16, e_X12_readNew_17, e_X12_readNew_19, e_X12_readNew_20, e_X12_readNew_23, e_X12_readNew_26, e_X12_readNew_27, e_X12_readNew_30, e_X12_readNew_33, e_X12_readNew_34, e_X12_readNew_35, e_X12_readNew_36, e_X12_readNew_39, e_X12_readNew_40, e_X12_readNew_43, e_X12_readNew_46, e_X12_readNew_47, e_X12_readNew_50, e_X12_readNew_51, e_X12_readNew_54, e_X12_readNew_57, e_X12_readNew_58, e_X12_readNew_59, e_X12_readNew_60, e_X12_readNew_63, e_X12_readNew_66, e_X12_readNew_67, e_X12_readNew_68, e_X12_readNew_69, e_X12_readNew_72, e_X12_readNew_75, e_X12_readNew_76, e_X12_readNew_77, e_X12_readNew_78, e_X12_readNew_81, e_X12_readNew_84, e_X12_readNew_85, e_X12_readNew_88, e_X12_readNew_91, e_X12_readNew_92, e_X12_readNew_93, e_X12_readNew_94, e_X12_readNew_97, e_X12_readNew_99, e_X12_readNew_101, e_X12_readNew_102, e_X12_readNew_103, e_X12_readNew_104, e_X12_readNew_105, e_X12_readNew_106, e_X12_readNew_107, e_X12_readNew_110, e_X12_readNew_111, e_X12_readNew_112, e_X12_readNew_115, e_X12_readNew_116, c_143, g_143_12, g_143_15, g_143_20, show (2024 : Int32) + 0 = 2024 by decide, lW_0, hc, ne, h.rs.bad, h1.rs.bad, h1.rs.at, z00, hA, v_isName, h1.rs.name, hn, bI, if_true, show ((1 : Int32) = 0) = False by decide, h1.nam0 hn, h1.nam1 hn, e0, e1, show ((0 : Int32) ≤ -1) = False by decide, nI_neg (show j < 2 ^ 31 by omega), v_fail h1.rs.bad, hB.le, hB.ne, Option.bind_some, Option.isSome_some, Option.toList, List.cons_append, List.nil_append, zclr_i, zclr_r, zclr_n, zfit_i, zfit_l, and_self, if_true, if_false]
  · simp only [e_X12_readNew_0, e_X12_readNew_1, e_X12_readNew_4, e_X12_readNew_7, e_X12_readNew_8, e_X12_readNew_9, e_X12_readNew_10, e_X12_readNew_11, e_X12_readNew_12, e_X12_readNew_13, e_X12_readNew_16, e_X12_readNew_17, e_X12_readNew_19, e_X12_readNew_20, e_X12_readNew_23, e_X12_readNew_26, e_X12_readNew_27, e_X12_readNew_30, e_X12_readNew_33, e_X12_readNew_34, e_X12_readNew_35, e_X12_readNew_36, e_X12_readNew_39, e_X12_readNew_40, e_X12_readNew_43, e_X12_readNew_46, e_X12_readNew_47, e_X12_readNew_50, e_X12_readNew_51, e_X12_readNew_54, e_X12_readNew_57, e_X12_readNew_58, e_X12_readNew_59, e_X12_readNew_60, e_X12_readNew_63, e_X12_readNew_66, e_X12_readNew_67, e_X12_readNew_68, e_X12_readNew_69, e_X12_readNew_72, e_X12_readNew_75, e_X12_readNew_76, e_X12_readNew_77, e_X12_readNew_78, e_X12_readNew_81, e_X12_readNew_84, e_X12_readNew_85, e_X12_readNew_88, e_X12_readNew_91, e_X12_readNew_92, e_X12_readNew_93, e_X12_readNew_94, e_X12_readNew_97, e_X12_readNew_99, e_X12_readNew_101, e_X12_readNew_102, e_X12_readNew_103, e_X12_readNew_104, e_X12_readNew_105, e_X12_readNew_106, e_X12_readNew_107, e_X12_readNew_110, e_X12_readNew_111, e_X12_readNew_112, e_X12_readNew_115, e_X12_readNew_116, c_143, g_143_12, g_143_15, g_143_20, show (2024 : Int32) + 0 = 2024 by decide, lW_0, hc, ne, h.rs.bad, h1.rs.bad, h1.rs.at, z00, hA, v_isName, h1.rs.name, hn, bI, if_true, show ((1 : Int32) = 0) = False by decide, h1.nam0 hn, e0, eq_true (show (0 : Int32) ≤ nI j from nI_le (a := 0) (Nat.zero_le j) (by omega)), v_fail h1.rs.bad, hB.le, hB.ne, Option.bind_some, Option.isSome_some, Option.toList, List.cons_append, List.nil_append, zclr_i, zclr_r, zclr_n, zfit_i, zfit_l, and_self, if_true, if_false]
theorem v_new0_ok (h : TS L p t N S X JX Y JY) (hK : S < 6) (hA : Ca 1 257 [.ref 143] Y JY none Y1 JY1) (h1 : TS L p1 t N S X1 JX1 Y1 JY1) (hn : dName X1 JX1 = true) (ht : taken JX1 N S = false) (hA2 : Ca 1 257 [.ref 143] Y1 (zu JY1 151 (72 + S) (JX1 13 8)) none Y' JY') : Ca 10 293 [.ref 143, .int 0, .int 6] Y JY (some (.int (nI S))) Y' JY' := by
  intro n m g d
  have hc : Y 148 (2024 + 0) = nI S := h.R.n0.trans h.W.hS
  have ne : (nI S = 6) = False := nI_nef (j := 6) (by omega) (by decide) (by omega)
  unfold taken at ht
  rw [decide_eq_false_iff_not] at ht
  have h12 := h1.W.h12
  have h6 := h1.W.h6
  have e0 : wPlace JX1 (33 + 1) S (JX1 13 8) = -1 := Classical.byContradiction (fun q => ht (.inl q))
  have e1 : wPlace JX1 (33 + 4) N (JX1 13 8) = -1 := Classical.byContradiction (fun q => ht (.inr q))
  have ew := (h1.rs.pos hn).1
  have ei : (72 : Int32) + 6 * 0 + nI S = nI (72 + S) := by
    refine (show (72 : Int32) + 6 * 0 + nI _ = nI (72 + _) from nI_add _ _).trans (congrArg nI (by omega))
  rw [m_X12_readNew]
  simp only [e_X12_readNew_0, e_X12_readNew_1, e_X12_readNew_4, e_X12_readNew_7, e_X12_readNew_8, e_X12_readNew_9, e_X12_readNew_10, e_X12_readNew_11, e_X12_readNew_12, e_X12_readNew_13, e_X12_readNew_16, e_X12_readNew_17, e_X12_readNew_19, e_X12_readNew_20, e_X12_readNew_23, e_X12_readNew_26, e_X12_readNew_27, e_X12_readNew_30, e_X12_readNew_33, e_X12_readNew_34, e_X12_readNew_35, e_X12_readNew_36, e_X12_readNew_39, e_X12_readNew_40, e_X12_readNew_43, e_X12_readNew_46, e_X12_readNew_47, e_X12_readNew_50, e_X12_readNew_51, e_X12_readNew_54, e_X12_readNew_57, e_X12_readNew_58, e_X12_readNew_59, e_X12_readNew_60, e_X12_readNew_63, e_X12_readNew_66, e_X12_readNew_67, e_X12_readNew_68, e_X12_readNew_69, e_X12_readNew_72, e_X12_readNew_75, e_X12_readNew_76, e_X12_readNew_77, e_X12_readNew_78, e_X12_readNew_81, e_X12_readNew_84, e_X12_readNew_85, e_X12_readNew_88, e_X12_readNew_91, e_X12_readNew_92, e_X12_readNew_93, e_X12_readNew_94, e_X12_readNew_97, e_X12_readNew_99, e_X12_readNew_101, e_X12_readNew_102, e_X12_readNew_103, e_X12_readNew_104, e_X12_readNew_105, e_X12_readNew_106, e_X12_readNew_107, e_X12_readNew_110, e_X12_readNew_111, e_X12_readNew_112, e_X12_readNew_115, e_X12_readNew_116, c_143, g_143_12, g_143_15, g_143_19, g_143_20, g_143_23, show (2024 : Int32) + 0 = 2024 by decide, lW_0, hc, ne, h.rs.bad, h1.rs.bad, z00, hA, v_isName, h1.rs.name, hn, bI, if_true, show ((1 : Int32) = 0) = False by decide, h1.nam0 hn, h1.nam1 hn, e0, e1, show ((0 : Int32) ≤ -1) = False by decide, show ((-1 : Int32) < 0) = True by decide, ei, ew, nI_neg (show 72 + S < 2 ^ 31 by omega), nI_clamp (show 72 + S < 2 ^ 31 by omega), k_151 (show 72 + S < 90 by omega), q_151, hA2, Option.bind_some, Option.isSome_some, Option.toList, List.cons_append, List.nil_append, zclr_i, zclr_r, zclr_n, zfit_i, zfit_l, and_self, if_true, if_false]
theorem v_new1_full (h : TS L p t N S X JX Y JY) (hK : N = 12) : Ca 10 293 [.ref 143, .int 1, .int 12] Y JY (some (.int 0)) (vFail 6 (X 13 4) Y) JY := by
  intro n m g d
  have hc : Y 148 (2024 + 1) = 12 := (h.R.n1.trans h.W.hN).trans (by rw [hK]; rfl)
  have hB := h.rs.fails 6 (by decide) (by decide)
  rw [show nI 6 = 6 from rfl] at hB
  rw [m_X12_readNew]
  simp only [e_X12_readNew_0, e_X12_readNew_1, e_X12_readNew_4, e_X12_readNew_7, e_X12_readNew_8, e_X12_readNew_9, e_X12_readNew_10, e_X12_readNew_11, e_X12_readNew_12, e_X12_readNew_13, e_X12_readNew_16, e_X12_readNew_17, e_X12_readNew_19, e_X12_readNew_20, e_X12_readNew_23, e_X12_readNew_26, e_X12_readNew_27, e_X12_readNew_30, e_X12_readNew_33, e_X12_readNew_34, e_X12_readNew_35, e_X12_readNew_36, e_X12_readNew_39, e_X12_readNew_40, e_X12_readNew_43, e_X12_readNew_46, e_X12_readNew_47, e_X12_readNew_50, e_X12_readNew_51, e_X12_readNew_54, e_X12_readNew_57, e_X12_readNew_58, e_X12_readNew_59, e_X12_readNew_60, e_X12_readNew_63, e_X12_readNew_66, e_X12_readNew_67, e_X12_readNew_68, e_X12_readNew_69, e_X12_readNew_72, e_X12_readNew_75, e_X12_readNew_76, e_X12_readNew_77, e_X12_readNew_78, e_X12_readNew_81, e_X12_readNew_84, e_X12_readNew_85, e_X12_readNew_88, e_X12_readNew_91, e_X12_readNew_92, e_X12_readNew_93, e_X12_readNew_94, e_X12_readNew_97, e_X12_readNew_99, e_X12_readNew_101, e_X12_readNew_102, e_X12_readNew_103, e_X12_readNew_104, e_X12_readNew_105, e_X12_readNew_106, e_X12_readNew_107, e_X12_readNew_110, e_X12_readNew_111, e_X12_readNew_112, e_X12_readNew_115, e_X12_readNew_116, c_143, g_143_12, g_143_15, g_143_20, show (2024 : Int32) + 1 = 2025 by decide, lW_1, hc, h.rs.at, v_fail h.rs.bad, hB.le, hB.ne, Option.bind_some, Option.isSome_some, Option.toList, List.cons_append, List.nil_append, zclr_i, zclr_r, zclr_n, zfit_i, zfit_l, and_self, if_true, if_false]
theorem v_new1_n (h : TS L p t N S X JX Y JY) (hK : N < 12) (hA : Ca 1 257 [.ref 143] Y JY none Y1 JY1) (h1 : TS L p1 t N S X1 JX1 Y1 JY1) (hn : dName X1 JX1 = false) : Ca 10 293 [.ref 143, .int 1, .int 12] Y JY (some (.int 0)) (vFail (kH X1) (X1 13 4) Y1) JY1 := by
  intro n m g d
  have hc : Y 148 (2024 + 1) = nI N := h.R.n1.trans h.W.hN
  have ne : (nI N = 12) = False := nI_nef (j := 12) (by omega) (by decide) (by omega)
  have hB := h1.rs.here
  rw [m_X12_readNew]
  simp only [e_X12_readNew_0, e_X12_readNew_1, e_X12_readNew_4, e_X12_readNew_7, e_X12_readNew_8, e_X12_readNew_9, e_X12_readNew_10, e_X12_readNew_11, e_X12_readNew_12, e_X12_readNew_13, e_X12_readNew_16, e_X12_readNew_17, e_X12_readNew_19, e_X12_readNew_20, e_X12_readNew_23, e_X12_readNew_26, e_X12_readNew_27, e_X12_readNew_30, e_X12_readNew_33, e_X12_readNew_34, e_X12_readNew_35, e_X12_readNew_36, e_X12_readNew_39, e_X12_readNew_40, e_X12_readNew_43, e_X12_readNew_46, e_X12_readNew_47, e_X12_readNew_50, e_X12_readNew_51, e_X12_readNew_54, e_X12_readNew_57, e_X12_readNew_58, e_X12_readNew_59, e_X12_readNew_60, e_X12_readNew_63, e_X12_readNew_66, e_X12_readNew_67, e_X12_readNew_68, e_X12_readNew_69, e_X12_readNew_72, e_X12_readNew_75, e_X12_readNew_76, e_X12_readNew_77, e_X12_readNew_78, e_X12_readNew_81, e_X12_readNew_84, e_X12_readNew_85, e_X12_readNew_88, e_X12_readNew_91, e_X12_readNew_92, e_X12_readNew_93, e_X12_readNew_94, e_X12_readNew_97, e_X12_readNew_99, e_X12_readNew_101, e_X12_readNew_102, e_X12_readNew_103, e_X12_readNew_104, e_X12_readNew_105, e_X12_readNew_106, e_X12_readNew_107, e_X12_readNew_110, e_X12_readNew_111, e_X12_readNew_112, e_X12_readNew_115, e_X12_readNew_116, c_143, g_143_12, g_143_15, g_143_20, show (2024 : Int32) + 1 = 2025 by decide, lW_1, hc, ne, h.rs.bad, z00, hA, v_isName, h1.rs.name, hn, bI, Bool.false_eq_true, v_amiss h1.rs, hB.le, hB.ne, Option.bind_some, Option.isSome_some, Option.toList, List.cons_append, List.nil_append, zclr_i, zclr_r, zclr_n, zfit_i, zfit_l, and_self, if_true, if_false]
theorem v_new1_t (h : TS L p t N S X JX Y JY) (hK : N < 12) (hA : Ca 1 257 [.ref 143] Y JY none Y1 JY1) (h1 : TS L p1 t N S X1 JX1 Y1 JY1) (hn : dName X1 JX1 = true) (ht : taken JX1 N S = true) : Ca 10 293 [.ref 143, .int 1, .int 12] Y JY (some (.int 0)) (vFail 3 (X1 13 4) Y1) JY1 := by
  intro n m g d
  have hc : Y 148 (2024 + 1) = nI N := h.R.n1.trans h.W.hN
  have ne : (nI N = 12) = False := nI_nef (j := 12) (by omega) (by decide) (by omega)
  have hB := h1.rs.fails 3 (by decide) (by decide)
  rw [show nI 3 = 3 from rfl] at hB
  unfold taken at ht
  rw [decide_eq_true_eq] at ht
  have h12 := h1.W.h12
  have h6 := h1.W.h6
  rw [m_X12_readNew]
  rcases wP_or (JX := JX1) (a := 33 + 1) (K := S) (w := JX1 13 8) with e0 | ⟨j, hj, e0⟩
  · rcases wP_or (JX := JX1) (a := 33 + 4) (K := N) (w := JX1 13 8) with e1 | ⟨j, hj, e1⟩
    · exact absurd ht (fun q => q.elim (fun q => q e0) (fun q => q e1))
    · simp only [e_X12_readNew_0, e_X12_readNew_1, e_X12_readNew_4, e_X12_readNew_7, e_X12_readNew_8, e_X12_readNew_9, e_X12_readNew_10, e_X12_readNew_11, e_X12_readNew_12, e_X12_readNew_13, e_X12_readNew_16, e_X12_readNew_17, e_X12_readNew_19, e_X12_readNew_20, e_X12_readNew_23, e_X12_readNew_26, e_X12_readNew_27, e_X12_readNew_30, e_X12_readNew_33, e_X12_readNew_34, e_X12_readNew_35, e_X12_readNew_36, e_X12_readNew_39, e_X12_readNew_40, e_X12_readNew_43, e_X12_readNew_46, e_X12_readNew_47, e_X12_readNew_50, e_X12_readNew_51, e_X12_readNew_54, e_X12_readNew_57, e_X12_readNew_58, e_X12_readNew_59, e_X12_readNew_60, e_X12_readNew_63, e_X12_readNew_66, e_X12_readNew_67, e_X12_readNew_68, e_X12_readNew_69, e_X12_readNew_72, e_X12_readNew_75, e_X12_readNew_76, e_X12_readNew_77, e_X12_readNew_78, e_X12_readNew_81, e_X12_readNew_84, e_X12_readNew_85, e_X12_readNew_88, e_X12_readNew_91, e_X12_readNew_92, e_X12_readNew_93, e_X12_readNew_94, e_X12_readNew_97, e_X12_readNew_99, e_X12_readNew_101, e_X12_readNew_102, e_X12_readNew_103, e_X12_readNew_104, e_X12_readNew_105, e_X12_readNew_106, e_X12_readNew_107, e_X12_readNew_110, e_X12_readNew_111, e_X12_readNew_112, e_X12_readNew_115, e_X12_readNew_116, c_143, g_143_12, g_143_15, g_143_20, show (2024 : Int32) + 1 = 2025 by decide, lW_1, hc, ne, h.rs.bad, h1.rs.bad, h1.rs.at, z00, hA, v_isName, h1.rs.name, hn, bI, if_true, show ((1 : Int32) = 0) = False by decide, h1.nam0 hn, h1.nam1 hn, e0, e1, show ((0 : Int32) ≤ -1) = False by decide, nI_neg (show j < 2 ^ 31 by omega), v_fail h1.rs.bad, hB.le, hB.ne, Option.bind_some, Option.isSome_some, Option.toList, List.cons_append, List.nil_append, zclr_i, zclr_r, zclr_n, zfit_i, zfit_l, and_self, if_true, if_false]
  · simp only [e_X12_readNew_0, e_X12_readNew_1, e_X12_readNew_4, e_X12_readNew_7, e_X12_readNew_8, e_X12_readNew_9, e_X12_readNew_10, e_X12_readNew_11, e_X12_readNew_12, e_X12_readNew_13, e_X12_readNew_16, e_X12_readNew_17, e_X12_readNew_19, e_X12_readNew_20, e_X12_readNew_23, e_X12_readNew_26, e_X12_readNew_27, e_X12_readNew_30, e_X12_readNew_33, e_X12_readNew_34, e_X12_readNew_35, e_X12_readNew_36, e_X12_readNew_39, e_X12_readNew_40, e_X12_readNew_43, e_X12_readNew_46, e_X12_readNew_47, e_X12_readNew_50, e_X12_readNew_51, e_X12_readNew_54, e_X12_readNew_57, e_X12_readNew_58, e_X12_readNew_59, e_X12_readNew_60, e_X12_readNew_63, e_X12_readNew_66, e_X12_readNew_67, e_X12_readNew_68, e_X12_readNew_69, e_X12_readNew_72, e_X12_readNew_75, e_X12_readNew_76, e_X12_readNew_77, e_X12_readNew_78, e_X12_readNew_81, e_X12_readNew_84, e_X12_readNew_85, e_X12_readNew_88, e_X12_readNew_91, e_X12_readNew_92, e_X12_readNew_93, e_X12_readNew_94, e_X12_readNew_97, e_X12_readNew_99, e_X12_readNew_101, e_X12_readNew_102, e_X12_readNew_103, e_X12_readNew_104, e_X12_readNew_105, e_X12_readNew_106, e_X12_readNew_107, e_X12_readNew_110, e_X12_readNew_111, e_X12_readNew_112, e_X12_readNew_115, e_X12_readNew_116, c_143, g_143_12, g_143_15, g_143_20, show (2024 : Int32) + 1 = 2025 by decide, lW_1, hc, ne, h.rs.bad, h1.rs.bad, h1.rs.at, z00, hA, v_isName, h1.rs.name, hn, bI, if_true, show ((1 : Int32) = 0) = False by decide, h1.nam0 hn, e0, eq_true (show (0 : Int32) ≤ nI j from nI_le (a := 0) (Nat.zero_le j) (by omega)), v_fail h1.rs.bad, hB.le, hB.ne, Option.bind_some, Option.isSome_some, Option.toList, List.cons_append, List.nil_append, zclr_i, zclr_r, zclr_n, zfit_i, zfit_l, and_self, if_true, if_false]
theorem v_new1_ok (h : TS L p t N S X JX Y JY) (hK : N < 12) (hA : Ca 1 257 [.ref 143] Y JY none Y1 JY1) (h1 : TS L p1 t N S X1 JX1 Y1 JY1) (hn : dName X1 JX1 = true) (ht : taken JX1 N S = false) (hA2 : Ca 1 257 [.ref 143] Y1 (zu JY1 151 (72 + (6 + N)) (JX1 13 8)) none Y' JY') : Ca 10 293 [.ref 143, .int 1, .int 12] Y JY (some (.int (nI N))) Y' JY' := by
  intro n m g d
  have hc : Y 148 (2024 + 1) = nI N := h.R.n1.trans h.W.hN
  have ne : (nI N = 12) = False := nI_nef (j := 12) (by omega) (by decide) (by omega)
  unfold taken at ht
  rw [decide_eq_false_iff_not] at ht
  have h12 := h1.W.h12
  have h6 := h1.W.h6
  have e0 : wPlace JX1 (33 + 1) S (JX1 13 8) = -1 := Classical.byContradiction (fun q => ht (.inl q))
  have e1 : wPlace JX1 (33 + 4) N (JX1 13 8) = -1 := Classical.byContradiction (fun q => ht (.inr q))
  have ew := (h1.rs.pos hn).1
  have ei : (72 : Int32) + 6 * 1 + nI N = nI (72 + (6 + N)) := by
    refine (show (72 : Int32) + 6 * 1 + nI _ = nI (78 + _) from nI_add _ _).trans (congrArg nI (by omega))
  rw [m_X12_readNew]
  simp only [e_X12_readNew_0, e_X12_readNew_1, e_X12_readNew_4, e_X12_readNew_7, e_X12_readNew_8, e_X12_readNew_9, e_X12_readNew_10, e_X12_readNew_11, e_X12_readNew_12, e_X12_readNew_13, e_X12_readNew_16, e_X12_readNew_17, e_X12_readNew_19, e_X12_readNew_20, e_X12_readNew_23, e_X12_readNew_26, e_X12_readNew_27, e_X12_readNew_30, e_X12_readNew_33, e_X12_readNew_34, e_X12_readNew_35, e_X12_readNew_36, e_X12_readNew_39, e_X12_readNew_40, e_X12_readNew_43, e_X12_readNew_46, e_X12_readNew_47, e_X12_readNew_50, e_X12_readNew_51, e_X12_readNew_54, e_X12_readNew_57, e_X12_readNew_58, e_X12_readNew_59, e_X12_readNew_60, e_X12_readNew_63, e_X12_readNew_66, e_X12_readNew_67, e_X12_readNew_68, e_X12_readNew_69, e_X12_readNew_72, e_X12_readNew_75, e_X12_readNew_76, e_X12_readNew_77, e_X12_readNew_78, e_X12_readNew_81, e_X12_readNew_84, e_X12_readNew_85, e_X12_readNew_88, e_X12_readNew_91, e_X12_readNew_92, e_X12_readNew_93, e_X12_readNew_94, e_X12_readNew_97, e_X12_readNew_99, e_X12_readNew_101, e_X12_readNew_102, e_X12_readNew_103, e_X12_readNew_104, e_X12_readNew_105, e_X12_readNew_106, e_X12_readNew_107, e_X12_readNew_110, e_X12_readNew_111, e_X12_readNew_112, e_X12_readNew_115, e_X12_readNew_116, c_143, g_143_12, g_143_15, g_143_19, g_143_20, g_143_23, show (2024 : Int32) + 1 = 2025 by decide, lW_1, hc, ne, h.rs.bad, h1.rs.bad, z00, hA, v_isName, h1.rs.name, hn, bI, if_true, show ((1 : Int32) = 0) = False by decide, h1.nam0 hn, h1.nam1 hn, e0, e1, show ((0 : Int32) ≤ -1) = False by decide, show ((-1 : Int32) < 0) = True by decide, ei, ew, nI_neg (show 72 + (6 + N) < 2 ^ 31 by omega), nI_clamp (show 72 + (6 + N) < 2 ^ 31 by omega), k_151 (show 72 + (6 + N) < 90 by omega), q_151, hA2, Option.bind_some, Option.isSome_some, Option.toList, List.cons_append, List.nil_append, zclr_i, zclr_r, zclr_n, zfit_i, zfit_l, and_self, if_true, if_false]
/-! one more surname -/
def tSur (A : Nat → Nat → Int32) (b S : Nat) : Nat → Nat → Int32 := zu (zu (zu A (b + 2) S 10) (b + 3) S (-1)) b 3 (nI (S + 1))
theorem tSur_0 {l : Nat} : tSur A b S b l = if l = 3 then nI (S + 1) else A b l := by
  simp [tSur, zu]
theorem tSur_2 {l : Nat} : tSur A b S (b + 2) l = if l = S then 10 else A (b + 2) l := by
  simp [tSur, zu]
theorem tSur_3 {l : Nat} : tSur A b S (b + 3) l = if l = S then -1 else A (b + 3) l := by
  simp [tSur, zu]
theorem tSur_o {j : Nat} (h0 : j ≠ b) (h2 : j ≠ b + 2) (h3 : j ≠ b + 3) : tSur A b S j = A j := by
  unfold tSur
  rw [zu_far _ _ _ h0, zu_far _ _ _ h3, zu_far _ _ _ h2]
theorem WT.sur1 (hW : WT A b N S U) (hS : S < 6) : WT (tSur A b S) b N (S + 1) U := by
  have ro : ∀ i, 4 ≤ i → tSur A b S (b + i) = A (b + i) := fun i hi => tSur_o (by omega) (by omega) (by omega)
  have hK : pK (tSur A b S) b = pK A b := pK_far (ro 12 (by decide))
  have hQ : qN (tSur A b S) b = qN A b := qN_far (ro 14 (by decide))
  apply WT.intro
  · rw [tSur_0, if_neg (by decide)]; exact hW.hN
  · exact hW.hU
  · exact hW.h12
  · rw [tSur_0, if_pos rfl]
  · omega
  · rw [tSur_0, if_neg (by decide)]; exact hW.hY
  · rw [tSur_0, if_neg (by decide)]; exact hW.hM
  · rw [tSur_0, if_neg (by decide)]; exact hW.hL
  · intro p h1 h2; rw [tSur_0, if_neg (by decide)]; exact hW.mis p h1 h2
  · intro s hs
    rw [tSur_2]
    by_cases e : s = S
    · rw [if_pos e]; exact ⟨10, by decide, rfl⟩
    · rw [if_neg e]; exact hW.worth s (by omega)
  · intro s hs
    rw [tSur_3]
    by_cases e : s = S
    · rw [if_pos e]; exact .inl rfl
    · rw [if_neg e]; exact hW.sold s (by omega)
  · rw [ro 5 (by decide)]; exact hW.born
  · rw [ro 6 (by decide)]; exact hW.died
  · intro p hp
    rw [ro 7 (by decide)]
    rcases hW.bears p hp with e | ⟨s, hs, e⟩
    · exact .inl e
    · exact .inr ⟨s, by omega, e⟩
  · rw [ro 8 (by decide)]; exact hW.coins
  · rw [ro 9 (by decide)]; exact hW.wed
  · rw [ro 10 (by decide)]; exact hW.one
  · rw [ro 10 (by decide)]; exact hW.two
  · rw [ro 11 (by decide)]; exact hW.away
  · rw [ro 6 (by decide), ro 11 (by decide)]; exact hW.dead
  · rw [ro 12 (by decide)]; exact hW.likes
  · intro p k hp hk
    rw [hK] at hk
    rw [ro 13 (by decide)]
    obtain ⟨s, hs, e⟩ := hW.like p k hp hk
    exact ⟨s, by omega, e⟩
  · rw [ro 14 (by decide), hQ]; exact hW.hQ
  · rw [ro 15 (by decide), hQ]; exact hW.who
  · intro k hk
    rw [hQ] at hk
    rw [ro 16 (by decide)]
    obtain ⟨s, hs, e⟩ := hW.want k hk
    exact ⟨s, by omega, e⟩
  · rw [ro 15 (by decide), hQ]; exact hW.uniq
theorem RT.sur1 (h : RT A b c N S) (hW : WT A b N S U) (hS : S < 6) (v6 : c (6 + S) = 10) (v12 : c (12 + S) = 0) : RT (tSur A b S) b (fu c 0 (nI (S + 1))) N (S + 1) := by
  have ro : ∀ i, 4 ≤ i → tSur A b S (b + i) = A (b + i) := fun i hi => tSur_o (by omega) (by omega) (by omega)
  have hK : pK (tSur A b S) b = pK A b := pK_far (ro 12 (by decide))
  have hQ : qN (tSur A b S) b = qN A b := qN_far (ro 14 (by decide))
  have fc : ∀ j, j ≠ 0 → fu c 0 (nI (S + 1)) j = c j := fun j hj => fu_ne _ _ hj
  apply RT.intro
  · rw [fu_eq, tSur_0, if_pos rfl]
  · rw [fc _ (by decide), tSur_0, if_neg (by decide)]; exact h.n1
  · rw [fc _ (by decide), tSur_0, if_neg (by decide)]; exact h.n2
  · rw [fc _ (by decide), tSur_0, if_neg (by decide)]; exact h.n3
  · rw [fc _ (by decide), tSur_0, if_neg (by decide)]; exact h.n4
  · rw [fc _ (by decide), ro 14 (by decide)]; exact h.n5
  · intro s hs
    rw [fc _ (by omega), tSur_2]
    by_cases e : s = S
    · rw [if_pos e, e]; exact v6
    · rw [if_neg e]; exact h.worth s (by omega)
  · intro s hs
    rw [fc _ (by omega), tSur_3]
    by_cases e : s = S
    · rw [if_pos e, e]; exact v12
    · rw [if_neg e]; exact h.sold s (by omega)
  · intro p hp; rw [fc _ (by omega), ro 5 (by decide)]; exact h.born p hp
  · intro p hp; rw [fc _ (by omega), ro 7 (by decide)]; exact h.bears p hp
  · intro p hp; rw [fc _ (by omega), ro 8 (by decide)]; exact h.coins p hp
  · intro p hp; rw [fc _ (by omega), tSur_0, if_neg (by decide)]; exact h.miser p hp
  · intro p hp; rw [fc _ (by omega), ro 6 (by decide)]; exact h.died p hp
  · intro p hp; rw [fc _ (by omega), ro 9 (by decide)]; exact h.wed p hp
  · intro p hp; rw [fc _ (by omega), ro 10 (by decide)]; exact h.one p hp
  · intro p hp; rw [fc _ (by omega), ro 10 (by decide)]; exact h.two p hp
  · intro p hp; rw [fc _ (by omega), ro 11 (by decide)]; exact h.away p hp
  · intro p hp; rw [fc _ (by omega), ro 12 (by decide)]; exact h.likes p hp
  · intro p k hp hk; rw [hK] at hk; rw [fc _ (by omega), ro 13 (by decide)]; exact h.like p k hp hk
  · intro k hk; rw [hQ] at hk; rw [fc _ (by omega), ro 15 (by decide)]; exact h.who k hk
  · intro k hk; rw [hQ] at hk; rw [fc _ (by omega), ro 16 (by decide)]; exact h.want k hk
theorem JW.sur1 {J : Nat → Nat → Int64} {wd : Nat → Int64} {v : Int64} (h : JW J b wd N S) (hS : S < 6) (hv : 0 < v) : JW (zu J (b + 1) S v) b (fu wd S v) N (S + 1) := by
  refine ⟨fun s hs => ?_, fun p hp => ?_⟩
  · rw [zu_row]
    by_cases e : s = S
    · rw [if_pos e, e, fu_eq]
      exact ⟨rfl, hv⟩
    · rw [if_neg e, fu_ne _ _ e]
      exact h.1 s (by omega)
  · rw [zu_far _ _ _ (by omega), fu_ne _ _ (by omega)]
    exact h.2 p hp
theorem TS.sur1 (h : TS L p t N S X JX Y JY) (hS : S < 6) (hn : dName X JX = true) : TQ L p t N (S + 1) (fu (nb Y) 0 (nI (S + 1))) (tSur X 33 S) (zu JX (33 + 1) S (JX 13 8)) Y (zu JY 151 (72 + S) (JX 13 8)) := by
  have ro : ∀ i, i ≠ 33 → i ≠ 33 + 2 → i ≠ 33 + 3 → tSur X 33 S i = X i := fun i a b c => tSur_o a b c
  obtain ⟨b1, b2⟩ := TQ.nbq h
  refine ⟨?_, h.W.sur1 hS, RT.sur1 (TQ.R h) h.W hS (b1 S (Nat.le_refl S) hS).1 (b1 S (Nat.le_refl S) hS).2, ?_, ((TQ.nbq h).less (Nat.le_refl N) (Nat.le_succ S)).keep (fun r s h1 h2 h3 => fu_ne _ _ (by omega)) (fun r r' h1 h2 h3 => fu_ne _ _ (by omega)), fun q hq => ?_, ?_, TQ.told h⟩
  · refine RDS.w (RDS.xj (h.rs.same (ro 12 (by decide) (by decide) (by decide)) (ro 13 (by decide) (by decide) (by decide)) rfl rfl (fun k _ _ => rfl) rfl rfl) (by decide))
  · rw [nw_zu]
    exact (TQ.jw h).sur1 hS (h.rs.pos hn).2
  · rw [ro _ (by decide) (by decide) (by decide)]
    exact TQ.alive h q hq
  · rw [fu_ne _ _ (by decide)]
    exact TQ.c0 h
theorem GX.sur : GX X JX (tSur X 33 S) JX := by
  unfold tSur
  exact ((GX.rfl'.wr (by decide) (by decide)).wr (by decide) (by decide)).wr (by decide) (by decide)
set_option maxHeartbeats 4000000 in
theorem r_surname (h : TS L p t N S X JX Y JY) : Out L p t 125 297 X JX Y JY := by
  have h6 := h.W.h6
  have h12 := h.W.h12
  by_cases cS : S = 6
  · have hB := h.rs.fails 6 (by decide) (by decide)
    rw [show nI 6 = 6 from rfl] at hB
    have rn := v_new0_full h cS
    have s6 : (nI S < 6) = False := by rw [cS]; decide
    refine Out.f (X' := dFail 6 X) (JX' := JX) (Y' := vFail 6 (X 13 4) Y) (JY' := JY) (fun n m g d => ?_) (fun n m g d a ha hg => ?_) hB (FX.fail _).gx (YG.fail _ _).gy
    · rw [m_X12_readSurname]
      simp only [e_X12_readSurname_0, e_X12_readSurname_1, e_X12_readSurname_2, e_X12_readSurname_4, e_X12_readSurname_7, e_X12_readSurname_8, e_X12_readSurname_9, e_X12_readSurname_10, e_X12_readSurname_13, e_X12_readSurname_16, e_X12_readSurname_19, e_X12_readSurname_20, e_X12_readSurname_23, e_X12_readSurname_26, e_X12_readSurname_27, e_X12_readSurname_28, e_X12_readSurname_29, e_X12_readSurname_30, e_X12_readSurname_32, e_X12_readSurname_35, e_X12_readSurname_36, e_X12_readSurname_37, e_X12_readSurname_40, e_X12_readSurname_43, e_X12_readSurname_44, e_X12_readSurname_47, e_X12_readSurname_50, e_X12_readSurname_51, e_X12_readSurname_52, e_X12_readSurname_53, e_X12_readSurname_54, e_X12_readSurname_55, c_143, rn, v_isWorth, v_perhaps_b hB, g_143_12, hB.ne, Option.bind_some, Option.isSome_some, Option.toList, List.cons_append, List.nil_append, zclr_i, zclr_r, zclr_n, zfit_i, zfit_l, and_self, if_true, if_false]
    · rw [m_X8_surnamePart]
      simp only [e_X8_surnamePart_0, e_X8_surnamePart_1, e_X8_surnamePart_4, e_X8_surnamePart_7, e_X8_surnamePart_9, e_X8_surnamePart_12, e_X8_surnamePart_13, e_X8_surnamePart_16, e_X8_surnamePart_18, e_X8_surnamePart_21, e_X8_surnamePart_22, e_X8_surnamePart_23, e_X8_surnamePart_26, e_X8_surnamePart_29, e_X8_surnamePart_30, e_X8_surnamePart_33, e_X8_surnamePart_36, e_X8_surnamePart_37, e_X8_surnamePart_38, e_X8_surnamePart_39, e_X8_surnamePart_42, e_X8_surnamePart_43, e_X8_surnamePart_46, e_X8_surnamePart_49, e_X8_surnamePart_52, e_X8_surnamePart_53, e_X8_surnamePart_54, e_X8_surnamePart_57, e_X8_surnamePart_60, e_X8_surnamePart_61, e_X8_surnamePart_64, e_X8_surnamePart_67, e_X8_surnamePart_68, e_X8_surnamePart_71, e_X8_surnamePart_72, e_X8_surnamePart_75, e_X8_surnamePart_78, e_X8_surnamePart_79, e_X8_surnamePart_82, e_X8_surnamePart_85, e_X8_surnamePart_86, e_X8_surnamePart_87, e_X8_surnamePart_90, e_X8_surnamePart_91, e_X8_surnamePart_93, e_X8_surnamePart_96, e_X8_surnamePart_97, e_X8_surnamePart_98, e_X8_surnamePart_101, e_X8_surnamePart_104, e_X8_surnamePart_105, e_X8_surnamePart_106, e_X8_surnamePart_107, e_X8_surnamePart_110, e_X8_surnamePart_111, e_X8_surnamePart_114, e_X8_surnamePart_115, e_X8_surnamePart_116, e_X8_surnamePart_117, c_13, g_tt_0 ha hg, g_tt_1 ha hg, g_T0_3 t33, h.W.hS, s6, d_fail, zfit_b0, Option.bind_some, Option.isSome_some, Option.toList, List.cons_append, List.nil_append, zclr_i, zclr_r, zclr_n, zfit_i, zfit_l, and_self, if_true, if_false]
  have hS : S < 6 := by omega
  have s6 : (nI S < 6) = True := eq_true (Int32.not_le.mp (nI_ge (b := 6) hS (by decide)))
  obtain ⟨X1, JX1, Y1, JY1, p1, a1, a2, a3, a4, _, a5, a6⟩ := r_adv h.rs
  have h1 := h.move a3 a5 a6.yg
  by_cases hn : dName X1 JX1 = true
  rotate_left
  · have hn' : dName X1 JX1 = false := Bool.eq_false_iff.mpr hn
    have rn := v_new0_n h hS a2 h1 hn'
    have hB := h1.rs.here
    refine Out.f (X' := dHere X1) (JX' := JX1) (Y' := vFail (kH X1) (X1 13 4) Y1) (JY' := JY1) (fun n m g d => ?_) (fun n m g d a ha hg => ?_) hB (a5.gx.trans FX.here.gx) (a6.yg.gy.trans (YG.fail _ _).gy)
    · rw [m_X12_readSurname]
      simp only [e_X12_readSurname_0, e_X12_readSurname_1, e_X12_readSurname_2, e_X12_readSurname_4, e_X12_readSurname_7, e_X12_readSurname_8, e_X12_readSurname_9, e_X12_readSurname_10, e_X12_readSurname_13, e_X12_readSurname_16, e_X12_readSurname_19, e_X12_readSurname_20, e_X12_readSurname_23, e_X12_readSurname_26, e_X12_readSurname_27, e_X12_readSurname_28, e_X12_readSurname_29, e_X12_readSurname_30, e_X12_readSurname_32, e_X12_readSurname_35, e_X12_readSurname_36, e_X12_readSurname_37, e_X12_readSurname_40, e_X12_readSurname_43, e_X12_readSurname_44, e_X12_readSurname_47, e_X12_readSurname_50, e_X12_readSurname_51, e_X12_readSurname_52, e_X12_readSurname_53, e_X12_readSurname_54, e_X12_readSurname_55, c_143, rn, v_isWorth, v_perhaps_b hB, g_143_12, hB.ne, Option.bind_some, Option.isSome_some, Option.toList, List.cons_append, List.nil_append, zclr_i, zclr_r, zclr_n, zfit_i, zfit_l, and_self, if_true, if_false]
    · have nn := fun n m g d => t_new_n (t := t) hn' n m g d a ha
      rw [m_X8_surnamePart]
      simp only [e_X8_surnamePart_0, e_X8_surnamePart_1, e_X8_surnamePart_4, e_X8_surnamePart_7, e_X8_surnamePart_9, e_X8_surnamePart_12, e_X8_surnamePart_13, e_X8_surnamePart_16, e_X8_surnamePart_18, e_X8_surnamePart_21, e_X8_surnamePart_22, e_X8_surnamePart_23, e_X8_surnamePart_26, e_X8_surnamePart_29, e_X8_surnamePart_30, e_X8_surnamePart_33, e_X8_surnamePart_36, e_X8_surnamePart_37, e_X8_surnamePart_38, e_X8_surnamePart_39, e_X8_surnamePart_42, e_X8_surnamePart_43, e_X8_surnamePart_46, e_X8_surnamePart_49, e_X8_surnamePart_52, e_X8_surnamePart_53, e_X8_surnamePart_54, e_X8_surnamePart_57, e_X8_surnamePart_60, e_X8_surnamePart_61, e_X8_surnamePart_64, e_X8_surnamePart_67, e_X8_surnamePart_68, e_X8_surnamePart_71, e_X8_surnamePart_72, e_X8_surnamePart_75, e_X8_surnamePart_78, e_X8_surnamePart_79, e_X8_surnamePart_82, e_X8_surnamePart_85, e_X8_surnamePart_86, e_X8_surnamePart_87, e_X8_surnamePart_90, e_X8_surnamePart_91, e_X8_surnamePart_93, e_X8_surnamePart_96, e_X8_surnamePart_97, e_X8_surnamePart_98, e_X8_surnamePart_101, e_X8_surnamePart_104, e_X8_surnamePart_105, e_X8_surnamePart_106, e_X8_surnamePart_107, e_X8_surnamePart_110, e_X8_surnamePart_111, e_X8_surnamePart_114, e_X8_surnamePart_115, e_X8_surnamePart_116, e_X8_surnamePart_117, c_13, c_tt ha hg, g_tt_0 ha hg, g_tt_1 ha hg, g_T0_3 t33, h.W.hS, s6, a1, nn _ _ _ _ hg, zfit_b0, Option.bind_some, Option.isSome_some, Option.toList, List.cons_append, List.nil_append, zclr_i, zclr_r, zclr_n, zfit_i, zfit_l, and_self, if_true, if_false]
  by_cases ht : taken JX1 N S = true
  · have rn := v_new0_t h hS a2 h1 hn ht
    have hB := h1.rs.fails 3 (by decide) (by decide)
    rw [show nI 3 = 3 from rfl] at hB
    refine Out.f (X' := dFail 3 X1) (JX' := JX1) (Y' := vFail 3 (X1 13 4) Y1) (JY' := JY1) (fun n m g d => ?_) (fun n m g d a ha hg => ?_) hB (a5.gx.trans (FX.fail _).gx) (a6.yg.gy.trans (YG.fail _ _).gy)
    · rw [m_X12_readSurname]
      simp only [e_X12_readSurname_0, e_X12_readSurname_1, e_X12_readSurname_2, e_X12_readSurname_4, e_X12_readSurname_7, e_X12_readSurname_8, e_X12_readSurname_9, e_X12_readSurname_10, e_X12_readSurname_13, e_X12_readSurname_16, e_X12_readSurname_19, e_X12_readSurname_20, e_X12_readSurname_23, e_X12_readSurname_26, e_X12_readSurname_27, e_X12_readSurname_28, e_X12_readSurname_29, e_X12_readSurname_30, e_X12_readSurname_32, e_X12_readSurname_35, e_X12_readSurname_36, e_X12_readSurname_37, e_X12_readSurname_40, e_X12_readSurname_43, e_X12_readSurname_44, e_X12_readSurname_47, e_X12_readSurname_50, e_X12_readSurname_51, e_X12_readSurname_52, e_X12_readSurname_53, e_X12_readSurname_54, e_X12_readSurname_55, c_143, rn, v_isWorth, v_perhaps_b hB, g_143_12, hB.ne, Option.bind_some, Option.isSome_some, Option.toList, List.cons_append, List.nil_append, zclr_i, zclr_r, zclr_n, zfit_i, zfit_l, and_self, if_true, if_false]
    · have nn := fun n m g d => t_new_t (t := t) hn h1.W.hS h6 h1.W.hN h12 ht n m g d a ha
      rw [m_X8_surnamePart]
      simp only [e_X8_surnamePart_0, e_X8_surnamePart_1, e_X8_surnamePart_4, e_X8_surnamePart_7, e_X8_surnamePart_9, e_X8_surnamePart_12, e_X8_surnamePart_13, e_X8_surnamePart_16, e_X8_surnamePart_18, e_X8_surnamePart_21, e_X8_surnamePart_22, e_X8_surnamePart_23, e_X8_surnamePart_26, e_X8_surnamePart_29, e_X8_surnamePart_30, e_X8_surnamePart_33, e_X8_surnamePart_36, e_X8_surnamePart_37, e_X8_surnamePart_38, e_X8_surnamePart_39, e_X8_surnamePart_42, e_X8_surnamePart_43, e_X8_surnamePart_46, e_X8_surnamePart_49, e_X8_surnamePart_52, e_X8_surnamePart_53, e_X8_surnamePart_54, e_X8_surnamePart_57, e_X8_surnamePart_60, e_X8_surnamePart_61, e_X8_surnamePart_64, e_X8_surnamePart_67, e_X8_surnamePart_68, e_X8_surnamePart_71, e_X8_surnamePart_72, e_X8_surnamePart_75, e_X8_surnamePart_78, e_X8_surnamePart_79, e_X8_surnamePart_82, e_X8_surnamePart_85, e_X8_surnamePart_86, e_X8_surnamePart_87, e_X8_surnamePart_90, e_X8_surnamePart_91, e_X8_surnamePart_93, e_X8_surnamePart_96, e_X8_surnamePart_97, e_X8_surnamePart_98, e_X8_surnamePart_101, e_X8_surnamePart_104, e_X8_surnamePart_105, e_X8_surnamePart_106, e_X8_surnamePart_107, e_X8_surnamePart_110, e_X8_surnamePart_111, e_X8_surnamePart_114, e_X8_surnamePart_115, e_X8_surnamePart_116, e_X8_surnamePart_117, c_13, c_tt ha hg, g_tt_0 ha hg, g_tt_1 ha hg, g_T0_3 t33, h.W.hS, s6, a1, nn _ _ _ _ hg, zfit_b0, Option.bind_some, Option.isSome_some, Option.toList, List.cons_append, List.nil_append, zclr_i, zclr_r, zclr_n, zfit_i, zfit_l, and_self, if_true, if_false]
  have ht' : taken JX1 N S = false := Bool.eq_false_iff.mpr ht
  have h2 := h1.sur1 hS hn
  obtain ⟨X2, JX2, Y2, JY2, p2, b1, b2, b3, b4, _, b5, b6⟩ := r_adv h2.rs
  have h3 := h2.move b3 b5 b6.yg
  have rn := v_new0_ok h hS a2 h1 hn ht' b2
  have gx2 : GX X JX X2 JX2 := ((a5.gx.trans GX.sur).wj (by decide) (by decide)).trans b5.gx
  have gy2 : GY Y JY Y2 JY2 := (a6.yg.gy.w).trans b6.yg.gy
  have nn := fun n m g d a ha => t_new_ok (t := t) hn h1.W.hS h6 h1.W.hN h12 ht' n m g d a ha
  have ad := fun n m g d => t_addSurname (n := n) (m := m) (g := g) (J := JX1) (w := JX1 13 8) t33 h1.W.hS hS d
  have ad' : ∀ n m g d, zcall d 78 [.ref 33, .long (JX1 13 8)] (mk n m g X1 JX1) = some (some (.int (nI S)), mk n m g (tSur X1 33 S) (zu JX1 (33 + 1) S (JX1 13 8))) := ad
  have e20 : nb Y2 = nb Y1 := b6.yg.blk
  have y20 : Y2 148 (2024 + 0) = nI S := by
    have : nb Y2 0 = nI S := by rw [e20]; exact (TQ.R h1).n0.trans h1.W.hS
    exact this
  by_cases cW : X2 13 9 = 4
  rotate_left
  · have T : TS L p2 t N (S + 1) X2 JX2 (zu Y2 148 (2024 + 0) (nI (S + 1))) JY2 := by
      obtain ⟨z1, z2, z3, z4, z5, z6, z7, z8⟩ := h3
      unfold TS
      rw [nb_zu, e20]
      exact ⟨z1.cc, z2, z3, z4, z5, z6, z7, by rw [zu_far _ _ _ (by decide)]; exact z8⟩
    refine Out.tr (p' := p2) (N' := N) (S' := S + 1) (X' := X2) (JX' := JX2) (Y' := zu Y2 148 (2024 + 0) (nI (S + 1))) (JY' := JY2) (fun n m g d => ?_) (fun n m g d a ha hg => ?_) (by omega) T gx2 gy2.cc
    · rw [m_X12_readSurname]
      simp only [e_X12_readSurname_0, e_X12_readSurname_1, e_X12_readSurname_2, e_X12_readSurname_4, e_X12_readSurname_7, e_X12_readSurname_8, e_X12_readSurname_9, e_X12_readSurname_10, e_X12_readSurname_13, e_X12_readSurname_16, e_X12_readSurname_19, e_X12_readSurname_20, e_X12_readSurname_23, e_X12_readSurname_26, e_X12_readSurname_27, e_X12_readSurname_28, e_X12_readSurname_29, e_X12_readSurname_30, e_X12_readSurname_32, e_X12_readSurname_35, e_X12_readSurname_36, e_X12_readSurname_37, e_X12_readSurname_40, e_X12_readSurname_43, e_X12_readSurname_44, e_X12_readSurname_47, e_X12_readSurname_50, e_X12_readSurname_51, e_X12_readSurname_52, e_X12_readSurname_53, e_X12_readSurname_54, e_X12_readSurname_55, c_143, rn, v_isWorth, h3.rs.k4, decide_eq_false cW, bI, Bool.false_eq_true, v_perhaps_f h3.rs.bad, g_143_12, g_143_20, h3.rs.bad, lW_0, y20, ltn_0, cln_0, kW_0, q_148, nI_1, Option.bind_some, Option.isSome_some, Option.toList, List.cons_append, List.nil_append, zclr_i, zclr_r, zclr_n, zfit_i, zfit_l, and_self, if_true, if_false]
    · rw [m_X8_surnamePart]
      simp only [e_X8_surnamePart_0, e_X8_surnamePart_1, e_X8_surnamePart_4, e_X8_surnamePart_7, e_X8_surnamePart_9, e_X8_surnamePart_12, e_X8_surnamePart_13, e_X8_surnamePart_16, e_X8_surnamePart_18, e_X8_surnamePart_21, e_X8_surnamePart_22, e_X8_surnamePart_23, e_X8_surnamePart_26, e_X8_surnamePart_29, e_X8_surnamePart_30, e_X8_surnamePart_33, e_X8_surnamePart_36, e_X8_surnamePart_37, e_X8_surnamePart_38, e_X8_surnamePart_39, e_X8_surnamePart_42, e_X8_surnamePart_43, e_X8_surnamePart_46, e_X8_surnamePart_49, e_X8_surnamePart_52, e_X8_surnamePart_53, e_X8_surnamePart_54, e_X8_surnamePart_57, e_X8_surnamePart_60, e_X8_surnamePart_61, e_X8_surnamePart_64, e_X8_surnamePart_67, e_X8_surnamePart_68, e_X8_surnamePart_71, e_X8_surnamePart_72, e_X8_surnamePart_75, e_X8_surnamePart_78, e_X8_surnamePart_79, e_X8_surnamePart_82, e_X8_surnamePart_85, e_X8_surnamePart_86, e_X8_surnamePart_87, e_X8_surnamePart_90, e_X8_surnamePart_91, e_X8_surnamePart_93, e_X8_surnamePart_96, e_X8_surnamePart_97, e_X8_surnamePart_98, e_X8_surnamePart_101, e_X8_surnamePart_104, e_X8_surnamePart_105, e_X8_surnamePart_106, e_X8_surnamePart_107, e_X8_surnamePart_110, e_X8_surnamePart_111, e_X8_surnamePart_114, e_X8_surnamePart_115, e_X8_surnamePart_116, e_X8_surnamePart_117, c_13, c_tt ha hg, g_tt_0 ha hg, g_tt_1 ha hg, c_T0 t33, g_T0_3 t33, g_13_8, g_13_9, h.W.hS, s6, a1, nn _ _ _ _ _ ha hg, show ((1 : Int32) = 0) = False by decide, ad', b1, cW, zfit_b1, Option.bind_some, Option.isSome_some, Option.toList, List.cons_append, List.nil_append, zclr_i, zclr_r, zclr_n, zfit_i, zfit_l, and_self, if_true, if_false]
  obtain ⟨X3, JX3, Y3, JY3, p3, c1, c2, c3, c4, _, c5, c6⟩ := r_adv h3.rs
  have h4 := h3.move c3 c5 c6.yg
  have gx3 := gx2.trans c5.gx
  have gy3 := gy2.trans c6.yg.gy
  rcases r_number h4.rs 0 99 (by decide) (by decide) with ⟨v, X4, JX4, Y4, JY4, p4, v1, v2, d1, d2, d3, d4, d5, d6⟩ | ⟨X4, Y4, d1, d2, hB, d5, d6⟩
  · have d1' : Ca 2 57 [.ref 13, .int 0, .int 99] X3 JX3 (some (.int (nI v))) X4 JX4 := d1
    have d2' : Ca 2 282 [.ref 143, .int 0, .int 99] Y3 JY3 (some (.int (nI v))) Y4 JY4 := d2
    have h5 := h4.move d3 d5 d6
    have e40 : nb Y4 = nb Y1 := by rw [d6.blk, c6.yg.blk, e20]
    have y40 : zu Y4 148 (2024 + (6 + S)) (nI v) 148 (2024 + 0) = nI S := by
      rw [zu_row, if_neg (by omega)]
      have : nb Y4 0 = nI S := by rw [e40]; exact (TQ.R h1).n0.trans h1.W.hS
      exact this
    have T : TS L p4 t N (S + 1) (zu X4 (33 + 2) S (nI v)) JX4 (zu (zu Y4 148 (2024 + (6 + S)) (nI v)) 148 (2024 + 0) (nI (S + 1))) JY4 := by
      have hW := h5.W
      have hR := RT.set2 (x := nI v) h5.R hW.h12 hW.h6 (show S < 6 from hS)
      obtain ⟨z1, z2, z3, z4, z5, z6, z7, z8⟩ := h5
      unfold TS
      rw [nb_zu, nb_zu, e40, fu_comm _ _ _ (show 6 + S ≠ 0 by omega)]
      refine ⟨(z1.x (by decide)).cc.cc, ?_, hR, z4, z5.keep (fun r s h1 h2 h3 => fu_ne _ _ (by omega)) (fun r r' h1 h2 h3 => fu_ne _ _ (by omega)), fun q hq => ?_, ?_, ?_⟩
      · refine hW.row2 (fun j _ hj => zu_far _ _ _ (by omega)) (fun s hs => ?_)
        rw [zu_row]
        by_cases e : s = S
        · rw [if_pos e]
          exact ⟨v, v2, rfl⟩
        · rw [if_neg e]
          exact hW.worth s hs
      · rw [zu_far _ _ _ (by decide)]
        exact z6 q hq
      · rw [fu_ne _ _ (by omega)]
        exact z7
      · rw [zu_far _ _ _ (by decide), zu_far _ _ _ (by decide)]
        exact z8
    have x33 : zu X4 (33 + 2) S (nI v) (33 + 2) S = nI v := by rw [zu_row, if_pos rfl]
    refine Out.tr (p' := p4) (N' := N) (S' := S + 1) (X' := zu X4 (33 + 2) S (nI v)) (JX' := JX4) (Y' := zu (zu Y4 148 (2024 + (6 + S)) (nI v)) 148 (2024 + 0) (nI (S + 1))) (JY' := JY4) (fun n m g d => ?_) (fun n m g d a ha hg => ?_) (by omega) T ((gx3.trans d5.gx).wr (by decide) (by decide)) (gy3.trans d6.gy).cc.cc
    · rw [m_X12_readSurname]
      simp only [e_X12_readSurname_0, e_X12_readSurname_1, e_X12_readSurname_2, e_X12_readSurname_4, e_X12_readSurname_7, e_X12_readSurname_8, e_X12_readSurname_9, e_X12_readSurname_10, e_X12_readSurname_13, e_X12_readSurname_16, e_X12_readSurname_19, e_X12_readSurname_20, e_X12_readSurname_23, e_X12_readSurname_26, e_X12_readSurname_27, e_X12_readSurname_28, e_X12_readSurname_29, e_X12_readSurname_30, e_X12_readSurname_32, e_X12_readSurname_35, e_X12_readSurname_36, e_X12_readSurname_37, e_X12_readSurname_40, e_X12_readSurname_43, e_X12_readSurname_44, e_X12_readSurname_47, e_X12_readSurname_50, e_X12_readSurname_51, e_X12_readSurname_52, e_X12_readSurname_53, e_X12_readSurname_54, e_X12_readSurname_55, c_143, rn, v_isWorth, h3.rs.k4, decide_eq_true cW, bI, if_true, v_perhaps_t h3.rs.bad c2, show ((1 : Int32) = 0) = False by decide, d2', cB_6, nI_neg (show 2024 + (6 + S) < 2 ^ 31 by omega), nI_clamp (show 2024 + (6 + S) < 2 ^ 31 by omega), k_148 (show 2024 + (6 + S) < 2530 by omega), l_148 (show 2024 + (6 + S) < 2530 by omega), zu_far _ _ _ (show 143 ≠ 148 by decide), g_143_12, g_143_20, h5.rs.bad, lW_0, y40, ltn_0, cln_0, kW_0, q_148, nI_1, Option.bind_some, Option.isSome_some, Option.toList, List.cons_append, List.nil_append, zclr_i, zclr_r, zclr_n, zfit_i, zfit_l, and_self, if_true, if_false]
    · rw [m_X8_surnamePart]
      simp only [e_X8_surnamePart_0, e_X8_surnamePart_1, e_X8_surnamePart_4, e_X8_surnamePart_7, e_X8_surnamePart_9, e_X8_surnamePart_12, e_X8_surnamePart_13, e_X8_surnamePart_16, e_X8_surnamePart_18, e_X8_surnamePart_21, e_X8_surnamePart_22, e_X8_surnamePart_23, e_X8_surnamePart_26, e_X8_surnamePart_29, e_X8_surnamePart_30, e_X8_surnamePart_33, e_X8_surnamePart_36, e_X8_surnamePart_37, e_X8_surnamePart_38, e_X8_surnamePart_39, e_X8_surnamePart_42, e_X8_surnamePart_43, e_X8_surnamePart_46, e_X8_surnamePart_49, e_X8_surnamePart_52, e_X8_surnamePart_53, e_X8_surnamePart_54, e_X8_surnamePart_57, e_X8_surnamePart_60, e_X8_surnamePart_61, e_X8_surnamePart_64, e_X8_surnamePart_67, e_X8_surnamePart_68, e_X8_surnamePart_71, e_X8_surnamePart_72, e_X8_surnamePart_75, e_X8_surnamePart_78, e_X8_surnamePart_79, e_X8_surnamePart_82, e_X8_surnamePart_85, e_X8_surnamePart_86, e_X8_surnamePart_87, e_X8_surnamePart_90, e_X8_surnamePart_91, e_X8_surnamePart_93, e_X8_surnamePart_96, e_X8_surnamePart_97, e_X8_surnamePart_98, e_X8_surnamePart_101, e_X8_surnamePart_104, e_X8_surnamePart_105, e_X8_surnamePart_106, e_X8_surnamePart_107, e_X8_surnamePart_110, e_X8_surnamePart_111, e_X8_surnamePart_114, e_X8_surnamePart_115, e_X8_surnamePart_116, e_X8_surnamePart_117, c_13, c_tt ha hg, g_tt_0 ha hg, g_tt_1 ha hg, c_T0 t33, g_T0_3 t33, g_T0_7 t33, g_13_8, g_13_9, h.W.hS, s6, a1, nn _ _ _ _ _ ha hg, show ((1 : Int32) = 0) = False by decide, ad', b1, cW, c1, d1', nI_neg (show S < 2 ^ 31 by omega), nI_clamp (show S < 2 ^ 31 by omega), k_T2 t33 hS, l_T2 t33 hS, q_T2 t33, x33, eq_false (nI_m1 (show v < 2 ^ 31 by omega)), zfit_b1, Option.bind_some, Option.isSome_some, Option.toList, List.cons_append, List.nil_append, zclr_i, zclr_r, zclr_n, zfit_i, zfit_l, and_self, if_true, if_false]
  · have d1' : Ca 2 57 [.ref 13, .int 0, .int 99] X3 JX3 (some (.int (-1))) X4 JX3 := d1
    have d2' : Ca 2 282 [.ref 143, .int 0, .int 99] Y3 JY3 (some (.int 0)) Y4 JY3 := d2
    have x33 : zu X4 (33 + 2) S (-1) (33 + 2) S = -1 := by rw [zu_row, if_pos rfl]
    have hB2 : BAD (zu X4 (33 + 2) S (-1)) (zu Y4 148 (2024 + (6 + S)) 0) := (hB.x (by decide)).cc
    refine Out.f (X' := zu X4 (33 + 2) S (-1)) (JX' := JX3) (Y' := zu Y4 148 (2024 + (6 + S)) 0) (JY' := JY3) (fun n m g d => ?_) (fun n m g d a ha hg => ?_) hB2 ((gx3.trans d5.gx).wr (by decide) (by decide)) (gy3.trans d6.gy).cc
    · rw [m_X12_readSurname]
      simp only [e_X12_readSurname_0, e_X12_readSurname_1, e_X12_readSurname_2, e_X12_readSurname_4, e_X12_readSurname_7, e_X12_readSurname_8, e_X12_readSurname_9, e_X12_readSurname_10, e_X12_readSurname_13, e_X12_readSurname_16, e_X12_readSurname_19, e_X12_readSurname_20, e_X12_readSurname_23, e_X12_readSurname_26, e_X12_readSurname_27, e_X12_readSurname_28, e_X12_readSurname_29, e_X12_readSurname_30, e_X12_readSurname_32, e_X12_readSurname_35, e_X12_readSurname_36, e_X12_readSurname_37, e_X12_readSurname_40, e_X12_readSurname_43, e_X12_readSurname_44, e_X12_readSurname_47, e_X12_readSurname_50, e_X12_readSurname_51, e_X12_readSurname_52, e_X12_readSurname_53, e_X12_readSurname_54, e_X12_readSurname_55, c_143, rn, v_isWorth, h3.rs.k4, decide_eq_true cW, bI, if_true, v_perhaps_t h3.rs.bad c2, show ((1 : Int32) = 0) = False by decide, d2', cB_6, nI_neg (show 2024 + (6 + S) < 2 ^ 31 by omega), nI_clamp (show 2024 + (6 + S) < 2 ^ 31 by omega), k_148 (show 2024 + (6 + S) < 2530 by omega), l_148 (show 2024 + (6 + S) < 2530 by omega), q_148, g_143_12, g_143_20, hB2.ne, Option.bind_some, Option.isSome_some, Option.toList, List.cons_append, List.nil_append, zclr_i, zclr_r, zclr_n, zfit_i, zfit_l, and_self, if_true, if_false]
    · rw [m_X8_surnamePart]
      simp only [e_X8_surnamePart_0, e_X8_surnamePart_1, e_X8_surnamePart_4, e_X8_surnamePart_7, e_X8_surnamePart_9, e_X8_surnamePart_12, e_X8_surnamePart_13, e_X8_surnamePart_16, e_X8_surnamePart_18, e_X8_surnamePart_21, e_X8_surnamePart_22, e_X8_surnamePart_23, e_X8_surnamePart_26, e_X8_surnamePart_29, e_X8_surnamePart_30, e_X8_surnamePart_33, e_X8_surnamePart_36, e_X8_surnamePart_37, e_X8_surnamePart_38, e_X8_surnamePart_39, e_X8_surnamePart_42, e_X8_surnamePart_43, e_X8_surnamePart_46, e_X8_surnamePart_49, e_X8_surnamePart_52, e_X8_surnamePart_53, e_X8_surnamePart_54, e_X8_surnamePart_57, e_X8_surnamePart_60, e_X8_surnamePart_61, e_X8_surnamePart_64, e_X8_surnamePart_67, e_X8_surnamePart_68, e_X8_surnamePart_71, e_X8_surnamePart_72, e_X8_surnamePart_75, e_X8_surnamePart_78, e_X8_surnamePart_79, e_X8_surnamePart_82, e_X8_surnamePart_85, e_X8_surnamePart_86, e_X8_surnamePart_87, e_X8_surnamePart_90, e_X8_surnamePart_91, e_X8_surnamePart_93, e_X8_surnamePart_96, e_X8_surnamePart_97, e_X8_surnamePart_98, e_X8_surnamePart_101, e_X8_surnamePart_104, e_X8_surnamePart_105, e_X8_surnamePart_106, e_X8_surnamePart_107, e_X8_surnamePart_110, e_X8_surnamePart_111, e_X8_surnamePart_114, e_X8_surnamePart_115, e_X8_surnamePart_116, e_X8_surnamePart_117, c_13, c_tt ha hg, g_tt_0 ha hg, g_tt_1 ha hg, c_T0 t33, g_T0_3 t33, g_T0_7 t33, g_13_8, g_13_9, h.W.hS, s6, a1, nn _ _ _ _ _ ha hg, show ((1 : Int32) = 0) = False by decide, ad', b1, cW, c1, d1', nI_neg (show S < 2 ^ 31 by omega), nI_clamp (show S < 2 ^ 31 by omega), k_T2 t33 hS, l_T2 t33 hS, q_T2 t33, x33, zfit_b0, Option.bind_some, Option.isSome_some, Option.toList, List.cons_append, List.nil_append, zclr_i, zclr_r, zclr_n, zfit_i, zfit_l, and_self, if_true, if_false]
end TF
