/-! READING A TOWN: wed, waits -/
section TC
variable {n m : Nat} {g : Nat → zC} {X Y : Nat → Nat → Int32} {JX JY : Nat → Nat → Int64} {L p N S : Nat} {t : Int32} {c c' : Nat → Int32} {X' Y' : Nat → Nat → Int32} {JX' JY' : Nat → Nat → Int64}
theorem cN (r k : Nat) : nI (2024 + r) + nI k = nI (2024 + (r + k)) := by rw [nI_add, Nat.add_assoc]
theorem cB_0 (k : Nat) : (2024 : Int32) + nI k = nI (2024 + (0 + k)) := cN 0 k
theorem cB_6 (k : Nat) : (2030 : Int32) + nI k = nI (2024 + (6 + k)) := cN 6 k
theorem cB_12 (k : Nat) : (2036 : Int32) + nI k = nI (2024 + (12 + k)) := cN 12 k
theorem cB_18 (k : Nat) : (2042 : Int32) + nI k = nI (2024 + (18 + k)) := cN 18 k
theorem cB_30 (k : Nat) : (2054 : Int32) + nI k = nI (2024 + (30 + k)) := cN 30 k
theorem cB_42 (k : Nat) : (2066 : Int32) + nI k = nI (2024 + (42 + k)) := cN 42 k
theorem cB_54 (k : Nat) : (2078 : Int32) + nI k = nI (2024 + (54 + k)) := cN 54 k
theorem cB_66 (k : Nat) : (2090 : Int32) + nI k = nI (2024 + (66 + k)) := cN 66 k
theorem cB_78 (k : Nat) : (2102 : Int32) + nI k = nI (2024 + (78 + k)) := cN 78 k
theorem cB_90 (k : Nat) : (2114 : Int32) + nI k = nI (2024 + (90 + k)) := cN 90 k
theorem cB_102 (k : Nat) : (2126 : Int32) + nI k = nI (2024 + (102 + k)) := cN 102 k
theorem cB_114 (k : Nat) : (2138 : Int32) + nI k = nI (2024 + (114 + k)) := cN 114 k
theorem cB_126 (k : Nat) : (2150 : Int32) + nI k = nI (2024 + (126 + k)) := cN 126 k
theorem cB_138 (k : Nat) : (2162 : Int32) + nI k = nI (2024 + (138 + k)) := cN 138 k
theorem cB_210 (k : Nat) : (2234 : Int32) + nI k = nI (2024 + (210 + k)) := cN 210 k
theorem cB_222 (k : Nat) : (2246 : Int32) + nI k = nI (2024 + (222 + k)) := cN 222 k
theorem ltn_0 : ((2024 : Int32) < 0) = False := by decide
theorem cln_0 : (2024 : Int32).toNatClampNeg = 2024 + 0 := by decide
theorem lW_0 : zld (mk n m g Y JY) 148 2024 = some (Y 148 (2024 + 0)) := l_148 (k := 2024 + 0) (by decide)
theorem kW_0 : zig (mk n m g Y JY) 148 (2024 + 0) = some (Y 148 (2024 + 0)) := k_148 (by decide)
theorem ltn_1 : ((2025 : Int32) < 0) = False := by decide
theorem cln_1 : (2025 : Int32).toNatClampNeg = 2024 + 1 := by decide
theorem lW_1 : zld (mk n m g Y JY) 148 2025 = some (Y 148 (2024 + 1)) := l_148 (k := 2024 + 1) (by decide)
theorem kW_1 : zig (mk n m g Y JY) 148 (2024 + 1) = some (Y 148 (2024 + 1)) := k_148 (by decide)
theorem ltn_2 : ((2026 : Int32) < 0) = False := by decide
theorem cln_2 : (2026 : Int32).toNatClampNeg = 2024 + 2 := by decide
theorem lW_2 : zld (mk n m g Y JY) 148 2026 = some (Y 148 (2024 + 2)) := l_148 (k := 2024 + 2) (by decide)
theorem kW_2 : zig (mk n m g Y JY) 148 (2024 + 2) = some (Y 148 (2024 + 2)) := k_148 (by decide)
theorem ltn_3 : ((2027 : Int32) < 0) = False := by decide
theorem cln_3 : (2027 : Int32).toNatClampNeg = 2024 + 3 := by decide
theorem lW_3 : zld (mk n m g Y JY) 148 2027 = some (Y 148 (2024 + 3)) := l_148 (k := 2024 + 3) (by decide)
theorem kW_3 : zig (mk n m g Y JY) 148 (2024 + 3) = some (Y 148 (2024 + 3)) := k_148 (by decide)
theorem ltn_4 : ((2028 : Int32) < 0) = False := by decide
theorem cln_4 : (2028 : Int32).toNatClampNeg = 2024 + 4 := by decide
theorem lW_4 : zld (mk n m g Y JY) 148 2028 = some (Y 148 (2024 + 4)) := l_148 (k := 2024 + 4) (by decide)
theorem kW_4 : zig (mk n m g Y JY) 148 (2024 + 4) = some (Y 148 (2024 + 4)) := k_148 (by decide)
theorem ltn_5 : ((2029 : Int32) < 0) = False := by decide
theorem cln_5 : (2029 : Int32).toNatClampNeg = 2024 + 5 := by decide
theorem lW_5 : zld (mk n m g Y JY) 148 2029 = some (Y 148 (2024 + 5)) := l_148 (k := 2024 + 5) (by decide)
theorem kW_5 : zig (mk n m g Y JY) 148 (2024 + 5) = some (Y 148 (2024 + 5)) := k_148 (by decide)
theorem NB.keep (h : NB c N S) (h1 : ∀ r s, S ≤ s → s < 6 → (r = 6 ∨ r = 12) → c' (r + s) = c (r + s)) (h2 : ∀ r p, N ≤ p → p < 12 → (r = 30 ∨ r = 42 ∨ r = 54 ∨ r = 66 ∨ r = 78 ∨ r = 90 ∨ r = 102 ∨ r = 114 ∨ r = 126) → c' (r + p) = c (r + p)) : NB c' N S := by
  obtain ⟨b1, b2⟩ := h
  refine ⟨fun s s1 s2 => ?_, fun p p1 p2 => ?_⟩
  · rw [h1 6 s s1 s2 (by decide), h1 12 s s1 s2 (by decide)]
    exact b1 s s1 s2
  · rw [h2 30 p p1 p2 (by decide), h2 42 p p1 p2 (by decide), h2 54 p p1 p2 (by decide), h2 66 p p1 p2 (by decide), h2 78 p p1 p2 (by decide), h2 90 p p1 p2 (by decide), h2 102 p p1 p2 (by decide), h2 114 p p1 p2 (by decide), h2 126 p p1 p2 (by decide)]
    exact b2 p p1 p2
theorem NB.less {N' S' : Nat} (h : NB c N S) (hN : N ≤ N') (hS : S ≤ S') : NB c N' S' := ⟨fun s s1 s2 => h.1 s (by omega) s2, fun p p1 p2 => h.2 p (by omega) p2⟩
theorem TS.weds (h : TS L p t N S X JX Y JY) {k u : Nat} (hk : k < N) (hu : u < N) : TS L p t N S (zu (zu X (33 + 9) k (nI u)) (33 + 9) u (nI k)) JX (zu (zu Y 148 (2024 + (78 + k)) (nI u)) 148 (2024 + (78 + u)) (nI k)) JY := by
  have h12 := h.W.h12
  have h6 := h.W.h6
  have hro : ∀ j, j ≠ 33 + 9 → zu (zu X (33 + 9) k (nI u)) (33 + 9) u (nI k) j = X j := fun j hj => by rw [zu_far _ _ _ hj, zu_far _ _ _ hj]
  unfold TS
  rw [nb_zu, nb_zu]
  refine ⟨((h.rs.x (by decide)).x (by decide)).cc.cc, ?_, (RT.set9 (TQ.R h) h12 h6 (by omega)).set9 h12 h6 (by omega), TQ.jw h, (TQ.nbq h).keep (fun r s h1 h2 h3 => ?_) (fun r q h1 h2 h3 => ?_), fun q hq => ?_, ?_, ?_⟩
  · refine h.W.row9 (fun j _ hj => hro _ (by omega)) (fun q hq => ?_)
    rw [zu_row]
    by_cases e : q = u
    · rw [if_pos e]
      exact .inr ⟨k, hk, rfl⟩
    · rw [if_neg e, zu_row]
      by_cases e2 : q = k
      · rw [if_pos e2]
        exact .inr ⟨u, hu, rfl⟩
      · rw [if_neg e2]
        exact h.W.wed q hq
  · rw [fu_ne _ _ (by omega), fu_ne _ _ (by omega)]
  · rw [fu_ne _ _ (by omega), fu_ne _ _ (by omega)]
  · rw [hro _ (by decide)]
    exact TQ.alive h q hq
  · rw [fu_ne _ _ (by omega), fu_ne _ _ (by omega)]
    exact TQ.c0 h
  · rw [zu_far _ _ _ (by decide), zu_far _ _ _ (by decide)]
    exact TQ.told h
set_option maxHeartbeats 4000000 in
theorem r_wed (h : TS L p t N S X JX Y JY) : Out L p t 132 301 X JX Y JY := by
  obtain ⟨X1, JX1, Y1, JY1, p1, a1, a2, a3, a4, _, a5, a6⟩ := r_adv h.rs
  have h1 := h.move a3 a5 a6.yg
  have h12 := h1.W.h12
  rcases h1.pers with ⟨k, hk, _, hpk, tk⟩ | ⟨X2, Y2, hp2, tk, hB, fx, yg⟩
  rotate_left
  · refine Out.f (X' := X2) (JX' := JX1) (Y' := Y2) (JY' := JY1) (fun n m g d => ?_) (fun n m g d a ha hg => ?_) hB (a5.gx.trans fx.gx) (a6.yg.gy.trans yg.gy)
    · rw [m_X12_readWed]
      simp only [e_X12_readWed_0, e_X12_readWed_1, e_X12_readWed_4, e_X12_readWed_5, e_X12_readWed_6, e_X12_readWed_7, e_X12_readWed_10, e_X12_readWed_11, e_X12_readWed_12, e_X12_readWed_15, e_X12_readWed_18, e_X12_readWed_19, e_X12_readWed_22, e_X12_readWed_25, e_X12_readWed_26, e_X12_readWed_27, e_X12_readWed_28, e_X12_readWed_31, e_X12_readWed_32, e_X12_readWed_33, e_X12_readWed_34, e_X12_readWed_37, e_X12_readWed_40, e_X12_readWed_41, e_X12_readWed_42, e_X12_readWed_45, e_X12_readWed_46, e_X12_readWed_47, e_X12_readWed_48, e_X12_readWed_51, e_X12_readWed_52, e_X12_readWed_53, e_X12_readWed_56, e_X12_readWed_59, e_X12_readWed_60, e_X12_readWed_61, e_X12_readWed_64, e_X12_readWed_65, e_X12_readWed_68, e_X12_readWed_71, e_X12_readWed_72, e_X12_readWed_73, e_X12_readWed_74, e_X12_readWed_77, e_X12_readWed_78, e_X12_readWed_79, e_X12_readWed_80, e_X12_readWed_83, e_X12_readWed_86, e_X12_readWed_87, e_X12_readWed_88, e_X12_readWed_91, e_X12_readWed_92, e_X12_readWed_95, e_X12_readWed_98, e_X12_readWed_99, e_X12_readWed_100, e_X12_readWed_103, e_X12_readWed_106, e_X12_readWed_107, e_X12_readWed_108, e_X12_readWed_109, e_X12_readWed_110, e_X12_readWed_111, e_X12_readWed_114, e_X12_readWed_117, e_X12_readWed_118, e_X12_readWed_119, e_X12_readWed_120, e_X12_readWed_121, c_143, a2, tk, v_must_b hB, v_told_b hB, g_143_12, hB.ne, hB.lt, hB.le, Option.bind_some, Option.isSome_some, Option.toList, List.cons_append, List.nil_append, zclr_i, zclr_r, zclr_n, zfit_i, zfit_l, and_self, if_true, if_false]
    · have o1 := fun n m g d => t_single_no (t := t) (x := -1) h1.W.hN h1.W.h12 hp2 n m g d a ha
      rw [m_X8_wedPart]
      simp only [e_X8_wedPart_0, e_X8_wedPart_1, e_X8_wedPart_4, e_X8_wedPart_7, e_X8_wedPart_8, e_X8_wedPart_9, e_X8_wedPart_12, e_X8_wedPart_13, e_X8_wedPart_14, e_X8_wedPart_15, e_X8_wedPart_18, e_X8_wedPart_19, e_X8_wedPart_20, e_X8_wedPart_21, e_X8_wedPart_22, e_X8_wedPart_25, e_X8_wedPart_26, e_X8_wedPart_27, e_X8_wedPart_28, e_X8_wedPart_31, e_X8_wedPart_32, e_X8_wedPart_33, e_X8_wedPart_34, e_X8_wedPart_37, e_X8_wedPart_38, e_X8_wedPart_39, e_X8_wedPart_40, e_X8_wedPart_43, e_X8_wedPart_44, c_13, c_tt ha hg, g_tt_0 ha hg, g_tt_1 ha hg, a1, o1 _ _ _ _ hg, zfit_b0, Option.bind_some, Option.isSome_some, Option.toList, List.cons_append, List.nil_append, zclr_i, zclr_r, zclr_n, zfit_i, zfit_l, and_self, if_true, if_false]
  have km : nI k ≠ -1 := nI_m1 (by omega)
  have kmf : (nI k = -1) = False := eq_false km
  have vk : Y1 148 (2024 + (78 + k)) = X1 (33 + 9) k := (TQ.R h1).wed k hk
  by_cases ck : X1 (33 + 9) k = -1
  rotate_left
  · have hB := h1.rs.fails 5 (by decide) (by decide)
    rw [show nI 5 = 5 from rfl] at hB
    obtain ⟨q, hq, eq⟩ := (h1.W.wed k hk).resolve_left ck
    rw [eq] at vk
    refine Out.f (X' := dFail 5 X1) (JX' := JX1) (Y' := vFail 5 (X1 13 4) Y1) (JY' := JY1) (fun n m g d => ?_) (fun n m g d a ha hg => ?_) hB (a5.gx.trans (FX.fail _).gx) (a6.yg.gy.trans (YG.fail _ _).gy)
    · rw [m_X12_readWed]
      simp only [e_X12_readWed_0, e_X12_readWed_1, e_X12_readWed_4, e_X12_readWed_5, e_X12_readWed_6, e_X12_readWed_7, e_X12_readWed_10, e_X12_readWed_11, e_X12_readWed_12, e_X12_readWed_15, e_X12_readWed_18, e_X12_readWed_19, e_X12_readWed_22, e_X12_readWed_25, e_X12_readWed_26, e_X12_readWed_27, e_X12_readWed_28, e_X12_readWed_31, e_X12_readWed_32, e_X12_readWed_33, e_X12_readWed_34, e_X12_readWed_37, e_X12_readWed_40, e_X12_readWed_41, e_X12_readWed_42, e_X12_readWed_45, e_X12_readWed_46, e_X12_readWed_47, e_X12_readWed_48, e_X12_readWed_51, e_X12_readWed_52, e_X12_readWed_53, e_X12_readWed_56, e_X12_readWed_59, e_X12_readWed_60, e_X12_readWed_61, e_X12_readWed_64, e_X12_readWed_65, e_X12_readWed_68, e_X12_readWed_71, e_X12_readWed_72, e_X12_readWed_73, e_X12_readWed_74, e_X12_readWed_77, e_X12_readWed_78, e_X12_readWed_79, e_X12_readWed_80, e_X12_readWed_83, e_X12_readWed_86, e_X12_readWed_87, e_X12_readWed_88, e_X12_readWed_91, e_X12_readWed_92, e_X12_readWed_95, e_X12_readWed_98, e_X12_readWed_99, e_X12_readWed_100, e_X12_readWed_103, e_X12_readWed_106, e_X12_readWed_107, e_X12_readWed_108, e_X12_readWed_109, e_X12_readWed_110, e_X12_readWed_111, e_X12_readWed_114, e_X12_readWed_117, e_X12_readWed_118, e_X12_readWed_119, e_X12_readWed_120, e_X12_readWed_121, c_143, a2, tk, g_143_12, g_143_15, g_143_20, h1.rs.bad, h1.rs.at, cB_78, nI_neg (show 2024 + (78 + k) < 2 ^ 31 by omega), nI_clamp (show 2024 + (78 + k) < 2 ^ 31 by omega), k_148 (show 2024 + (78 + k) < 2530 by omega), l_148 (show 2024 + (78 + k) < 2530 by omega), vk, nI_neg (show q < 2 ^ 31 by omega), v_fail h1.rs.bad, v_must_b hB, v_told_b hB, hB.ne, hB.lt, hB.le, Option.bind_some, Option.isSome_some, Option.toList, List.cons_append, List.nil_append, zclr_i, zclr_r, zclr_n, zfit_i, zfit_l, and_self, if_true, if_false]
    · have o1 := fun n m g d => t_single_eq (t := t) (x := -1) h1.W.hN h1.W.h12 hk hpk (.inr ck) n m g d a ha
      rw [m_X8_wedPart]
      simp only [e_X8_wedPart_0, e_X8_wedPart_1, e_X8_wedPart_4, e_X8_wedPart_7, e_X8_wedPart_8, e_X8_wedPart_9, e_X8_wedPart_12, e_X8_wedPart_13, e_X8_wedPart_14, e_X8_wedPart_15, e_X8_wedPart_18, e_X8_wedPart_19, e_X8_wedPart_20, e_X8_wedPart_21, e_X8_wedPart_22, e_X8_wedPart_25, e_X8_wedPart_26, e_X8_wedPart_27, e_X8_wedPart_28, e_X8_wedPart_31, e_X8_wedPart_32, e_X8_wedPart_33, e_X8_wedPart_34, e_X8_wedPart_37, e_X8_wedPart_38, e_X8_wedPart_39, e_X8_wedPart_40, e_X8_wedPart_43, e_X8_wedPart_44, c_13, c_tt ha hg, g_tt_0 ha hg, g_tt_1 ha hg, a1, o1 _ _ _ _ hg, zfit_b0, Option.bind_some, Option.isSome_some, Option.toList, List.cons_append, List.nil_append, zclr_i, zclr_r, zclr_n, zfit_i, zfit_l, and_self, if_true, if_false]
  rw [ck] at vk
  obtain ⟨X2, JX2, Y2, JY2, p2, b1, b2, b3, b4, _, b5, b6⟩ := r_adv h1.rs
  have h2 := h1.move b3 b5 b6.yg
  have gx2 := a5.gx.trans b5.gx
  have gy2 := a6.yg.gy.trans b6.yg.gy
  have o1 := fun n m g d a (ha : 158 ≤ a) => t_single_ok (t := t) (x := -1) h1.W.hN h1.W.h12 hk hpk km ck b1 n m g d a ha
  have m10 : ((-1 : Int32) < 0) = True := by decide
  rcases h2.pers with ⟨u, hu, _, hpu, tu⟩ | ⟨X3, Y3, hp3, tu, hB, fx, yg⟩
  rotate_left
  · refine Out.f (X' := X3) (JX' := JX2) (Y' := Y3) (JY' := JY2) (fun n m g d => ?_) (fun n m g d a ha hg => ?_) hB (gx2.trans fx.gx) (gy2.trans yg.gy)
    · rw [m_X12_readWed]
      simp only [e_X12_readWed_0, e_X12_readWed_1, e_X12_readWed_4, e_X12_readWed_5, e_X12_readWed_6, e_X12_readWed_7, e_X12_readWed_10, e_X12_readWed_11, e_X12_readWed_12, e_X12_readWed_15, e_X12_readWed_18, e_X12_readWed_19, e_X12_readWed_22, e_X12_readWed_25, e_X12_readWed_26, e_X12_readWed_27, e_X12_readWed_28, e_X12_readWed_31, e_X12_readWed_32, e_X12_readWed_33, e_X12_readWed_34, e_X12_readWed_37, e_X12_readWed_40, e_X12_readWed_41, e_X12_readWed_42, e_X12_readWed_45, e_X12_readWed_46, e_X12_readWed_47, e_X12_readWed_48, e_X12_readWed_51, e_X12_readWed_52, e_X12_readWed_53, e_X12_readWed_56, e_X12_readWed_59, e_X12_readWed_60, e_X12_readWed_61, e_X12_readWed_64, e_X12_readWed_65, e_X12_readWed_68, e_X12_readWed_71, e_X12_readWed_72, e_X12_readWed_73, e_X12_readWed_74, e_X12_readWed_77, e_X12_readWed_78, e_X12_readWed_79, e_X12_readWed_80, e_X12_readWed_83, e_X12_readWed_86, e_X12_readWed_87, e_X12_readWed_88, e_X12_readWed_91, e_X12_readWed_92, e_X12_readWed_95, e_X12_readWed_98, e_X12_readWed_99, e_X12_readWed_100, e_X12_readWed_103, e_X12_readWed_106, e_X12_readWed_107, e_X12_readWed_108, e_X12_readWed_109, e_X12_readWed_110, e_X12_readWed_111, e_X12_readWed_114, e_X12_readWed_117, e_X12_readWed_118, e_X12_readWed_119, e_X12_readWed_120, e_X12_readWed_121, c_143, a2, tk, g_143_12, g_143_15, g_143_20, h1.rs.bad, cB_78, nI_neg (show 2024 + (78 + k) < 2 ^ 31 by omega), nI_clamp (show 2024 + (78 + k) < 2 ^ 31 by omega), k_148 (show 2024 + (78 + k) < 2530 by omega), l_148 (show 2024 + (78 + k) < 2530 by omega), vk, m10, v_must_t h1.rs.bad b2, tu, v_must_b hB, hB.ne, hB.lt, hB.le, Option.bind_some, Option.isSome_some, Option.toList, List.cons_append, List.nil_append, zclr_i, zclr_r, zclr_n, zfit_i, zfit_l, and_self, if_true, if_false]
    · have o2 := fun n m g d => t_single_no (t := t) (x := nI k) h2.W.hN h2.W.h12 hp3 n m g d a ha
      rw [m_X8_wedPart]
      simp only [e_X8_wedPart_0, e_X8_wedPart_1, e_X8_wedPart_4, e_X8_wedPart_7, e_X8_wedPart_8, e_X8_wedPart_9, e_X8_wedPart_12, e_X8_wedPart_13, e_X8_wedPart_14, e_X8_wedPart_15, e_X8_wedPart_18, e_X8_wedPart_19, e_X8_wedPart_20, e_X8_wedPart_21, e_X8_wedPart_22, e_X8_wedPart_25, e_X8_wedPart_26, e_X8_wedPart_27, e_X8_wedPart_28, e_X8_wedPart_31, e_X8_wedPart_32, e_X8_wedPart_33, e_X8_wedPart_34, e_X8_wedPart_37, e_X8_wedPart_38, e_X8_wedPart_39, e_X8_wedPart_40, e_X8_wedPart_43, e_X8_wedPart_44, c_13, c_tt ha hg, g_tt_0 ha hg, g_tt_1 ha hg, a1, o1 _ _ _ _ _ ha hg, kmf, o2 _ _ _ _ hg, zfit_b0, Option.bind_some, Option.isSome_some, Option.toList, List.cons_append, List.nil_append, zclr_i, zclr_r, zclr_n, zfit_i, zfit_l, and_self, if_true, if_false]
  have um : nI u ≠ -1 := nI_m1 (by omega)
  have umf : (nI u = -1) = False := eq_false um
  have vu : Y2 148 (2024 + (78 + u)) = X2 (33 + 9) u := (TQ.R h2).wed u hu
  by_cases cu : u = k ∨ X2 (33 + 9) u ≠ -1
  · have hB := h2.rs.fails 5 (by decide) (by decide)
    rw [show nI 5 = 5 from rfl] at hB
    refine Out.f (X' := dFail 5 X2) (JX' := JX2) (Y' := vFail 5 (X2 13 4) Y2) (JY' := JY2) (fun n m g d => ?_) (fun n m g d a ha hg => ?_) hB (gx2.trans (FX.fail _).gx) (gy2.trans (YG.fail _ _).gy)
    · rw [m_X12_readWed]
      by_cases e : u = k
      · have e' : nI u = nI k := by rw [e]
        simp only [e_X12_readWed_0, e_X12_readWed_1, e_X12_readWed_4, e_X12_readWed_5, e_X12_readWed_6, e_X12_readWed_7, e_X12_readWed_10, e_X12_readWed_11, e_X12_readWed_12, e_X12_readWed_15, e_X12_readWed_18, e_X12_readWed_19, e_X12_readWed_22, e_X12_readWed_25, e_X12_readWed_26, e_X12_readWed_27, e_X12_readWed_28, e_X12_readWed_31, e_X12_readWed_32, e_X12_readWed_33, e_X12_readWed_34, e_X12_readWed_37, e_X12_readWed_40, e_X12_readWed_41, e_X12_readWed_42, e_X12_readWed_45, e_X12_readWed_46, e_X12_readWed_47, e_X12_readWed_48, e_X12_readWed_51, e_X12_readWed_52, e_X12_readWed_53, e_X12_readWed_56, e_X12_readWed_59, e_X12_readWed_60, e_X12_readWed_61, e_X12_readWed_64, e_X12_readWed_65, e_X12_readWed_68, e_X12_readWed_71, e_X12_readWed_72, e_X12_readWed_73, e_X12_readWed_74, e_X12_readWed_77, e_X12_readWed_78, e_X12_readWed_79, e_X12_readWed_80, e_X12_readWed_83, e_X12_readWed_86, e_X12_readWed_87, e_X12_readWed_88, e_X12_readWed_91, e_X12_readWed_92, e_X12_readWed_95, e_X12_readWed_98, e_X12_readWed_99, e_X12_readWed_100, e_X12_readWed_103, e_X12_readWed_106, e_X12_readWed_107, e_X12_readWed_108, e_X12_readWed_109, e_X12_readWed_110, e_X12_readWed_111, e_X12_readWed_114, e_X12_readWed_117, e_X12_readWed_118, e_X12_readWed_119, e_X12_readWed_120, e_X12_readWed_121, c_143, a2, tk, g_143_12, g_143_15, g_143_20, h1.rs.bad, cB_78, nI_neg (show 2024 + (78 + k) < 2 ^ 31 by omega), nI_clamp (show 2024 + (78 + k) < 2 ^ 31 by omega), k_148 (show 2024 + (78 + k) < 2530 by omega), l_148 (show 2024 + (78 + k) < 2530 by omega), vk, m10, v_must_t h1.rs.bad b2, tu, e', h2.rs.bad, h2.rs.at, v_fail h2.rs.bad, v_must_b hB, hB.ne, hB.lt, hB.le, Option.bind_some, Option.isSome_some, Option.toList, List.cons_append, List.nil_append, zclr_i, zclr_r, zclr_n, zfit_i, zfit_l, and_self, if_true, if_false]
      · obtain ⟨q, hq, eq⟩ := (h2.W.wed u hu).resolve_left (cu.resolve_left e)
        rw [eq] at vu
        have f1 := nI_nef (show k < 2 ^ 31 by omega) (show u < 2 ^ 31 by omega) (Ne.symm e)
        simp only [e_X12_readWed_0, e_X12_readWed_1, e_X12_readWed_4, e_X12_readWed_5, e_X12_readWed_6, e_X12_readWed_7, e_X12_readWed_10, e_X12_readWed_11, e_X12_readWed_12, e_X12_readWed_15, e_X12_readWed_18, e_X12_readWed_19, e_X12_readWed_22, e_X12_readWed_25, e_X12_readWed_26, e_X12_readWed_27, e_X12_readWed_28, e_X12_readWed_31, e_X12_readWed_32, e_X12_readWed_33, e_X12_readWed_34, e_X12_readWed_37, e_X12_readWed_40, e_X12_readWed_41, e_X12_readWed_42, e_X12_readWed_45, e_X12_readWed_46, e_X12_readWed_47, e_X12_readWed_48, e_X12_readWed_51, e_X12_readWed_52, e_X12_readWed_53, e_X12_readWed_56, e_X12_readWed_59, e_X12_readWed_60, e_X12_readWed_61, e_X12_readWed_64, e_X12_readWed_65, e_X12_readWed_68, e_X12_readWed_71, e_X12_readWed_72, e_X12_readWed_73, e_X12_readWed_74, e_X12_readWed_77, e_X12_readWed_78, e_X12_readWed_79, e_X12_readWed_80, e_X12_readWed_83, e_X12_readWed_86, e_X12_readWed_87, e_X12_readWed_88, e_X12_readWed_91, e_X12_readWed_92, e_X12_readWed_95, e_X12_readWed_98, e_X12_readWed_99, e_X12_readWed_100, e_X12_readWed_103, e_X12_readWed_106, e_X12_readWed_107, e_X12_readWed_108, e_X12_readWed_109, e_X12_readWed_110, e_X12_readWed_111, e_X12_readWed_114, e_X12_readWed_117, e_X12_readWed_118, e_X12_readWed_119, e_X12_readWed_120, e_X12_readWed_121, c_143, a2, tk, g_143_12, g_143_15, g_143_20, h1.rs.bad, cB_78, nI_neg (show 2024 + (78 + k) < 2 ^ 31 by omega), nI_clamp (show 2024 + (78 + k) < 2 ^ 31 by omega), k_148 (show 2024 + (78 + k) < 2530 by omega), l_148 (show 2024 + (78 + k) < 2530 by omega), nI_neg (show 2024 + (78 + u) < 2 ^ 31 by omega), nI_clamp (show 2024 + (78 + u) < 2 ^ 31 by omega), k_148 (show 2024 + (78 + u) < 2530 by omega), l_148 (show 2024 + (78 + u) < 2530 by omega), vk, m10, v_must_t h1.rs.bad b2, tu, f1, vu, nI_neg (show q < 2 ^ 31 by omega), h2.rs.bad, h2.rs.at, v_fail h2.rs.bad, v_must_b hB, hB.ne, hB.lt, hB.le, Option.bind_some, Option.isSome_some, Option.toList, List.cons_append, List.nil_append, zclr_i, zclr_r, zclr_n, zfit_i, zfit_l, and_self, if_true, if_false]
    · have o2 := fun n m g d => t_single_eq (t := t) (x := nI k) h2.W.hN h2.W.h12 hu hpu (cu.elim (fun e => .inl (by rw [e])) .inr) n m g d a ha
      rw [m_X8_wedPart]
      simp only [e_X8_wedPart_0, e_X8_wedPart_1, e_X8_wedPart_4, e_X8_wedPart_7, e_X8_wedPart_8, e_X8_wedPart_9, e_X8_wedPart_12, e_X8_wedPart_13, e_X8_wedPart_14, e_X8_wedPart_15, e_X8_wedPart_18, e_X8_wedPart_19, e_X8_wedPart_20, e_X8_wedPart_21, e_X8_wedPart_22, e_X8_wedPart_25, e_X8_wedPart_26, e_X8_wedPart_27, e_X8_wedPart_28, e_X8_wedPart_31, e_X8_wedPart_32, e_X8_wedPart_33, e_X8_wedPart_34, e_X8_wedPart_37, e_X8_wedPart_38, e_X8_wedPart_39, e_X8_wedPart_40, e_X8_wedPart_43, e_X8_wedPart_44, c_13, c_tt ha hg, g_tt_0 ha hg, g_tt_1 ha hg, a1, o1 _ _ _ _ _ ha hg, kmf, o2 _ _ _ _ hg, zfit_b0, Option.bind_some, Option.isSome_some, Option.toList, List.cons_append, List.nil_append, zclr_i, zclr_r, zclr_n, zfit_i, zfit_l, and_self, if_true, if_false]
  have e : u ≠ k := fun q => cu (.inl q)
  have cu2 : X2 (33 + 9) u = -1 := Classical.byContradiction (fun q => cu (.inr q))
  rw [cu2] at vu
  have f1 := nI_nef (show k < 2 ^ 31 by omega) (show u < 2 ^ 31 by omega) (Ne.symm e)
  obtain ⟨X3, JX3, Y3, JY3, p3, c1, c2, c3, c4, _, c5, c6⟩ := r_adv h2.rs
  have h3 := h2.move c3 c5 c6.yg
  have o2 := fun n m g d a (ha : 158 ≤ a) => t_single_ok (t := t) (x := nI k) h2.W.hN h2.W.h12 hu hpu (fun q => e (nI_inj (by omega) (by omega) q)) cu2 c1 n m g d a ha
  refine Out.tr (p' := p3) (N' := N) (S' := S) (X' := zu (zu X3 (33 + 9) k (nI u)) (33 + 9) u (nI k)) (JX' := JX3) (Y' := zu (zu Y3 148 (2024 + (78 + k)) (nI u)) 148 (2024 + (78 + u)) (nI k)) (JY' := JY3) (fun n m g d => ?_) (fun n m g d a ha hg => ?_) (by omega) (h3.weds hk hu) (((gx2.trans c5.gx).wr (by decide) (by decide)).wr (by decide) (by decide)) (gy2.trans c6.yg.gy).cc.cc
  · rw [m_X12_readWed]
    simp only [e_X12_readWed_0, e_X12_readWed_1, e_X12_readWed_4, e_X12_readWed_5, e_X12_readWed_6, e_X12_readWed_7, e_X12_readWed_10, e_X12_readWed_11, e_X12_readWed_12, e_X12_readWed_15, e_X12_readWed_18, e_X12_readWed_19, e_X12_readWed_22, e_X12_readWed_25, e_X12_readWed_26, e_X12_readWed_27, e_X12_readWed_28, e_X12_readWed_31, e_X12_readWed_32, e_X12_readWed_33, e_X12_readWed_34, e_X12_readWed_37, e_X12_readWed_40, e_X12_readWed_41, e_X12_readWed_42, e_X12_readWed_45, e_X12_readWed_46, e_X12_readWed_47, e_X12_readWed_48, e_X12_readWed_51, e_X12_readWed_52, e_X12_readWed_53, e_X12_readWed_56, e_X12_readWed_59, e_X12_readWed_60, e_X12_readWed_61, e_X12_readWed_64, e_X12_readWed_65, e_X12_readWed_68, e_X12_readWed_71, e_X12_readWed_72, e_X12_readWed_73, e_X12_readWed_74, e_X12_readWed_77, e_X12_readWed_78, e_X12_readWed_79, e_X12_readWed_80, e_X12_readWed_83, e_X12_readWed_86, e_X12_readWed_87, e_X12_readWed_88, e_X12_readWed_91, e_X12_readWed_92, e_X12_readWed_95, e_X12_readWed_98, e_X12_readWed_99, e_X12_readWed_100, e_X12_readWed_103, e_X12_readWed_106, e_X12_readWed_107, e_X12_readWed_108, e_X12_readWed_109, e_X12_readWed_110, e_X12_readWed_111, e_X12_readWed_114, e_X12_readWed_117, e_X12_readWed_118, e_X12_readWed_119, e_X12_readWed_120, e_X12_readWed_121, c_143, a2, tk, g_143_12, g_143_15, g_143_20, h1.rs.bad, cB_78, nI_neg (show 2024 + (78 + k) < 2 ^ 31 by omega), nI_clamp (show 2024 + (78 + k) < 2 ^ 31 by omega), k_148 (show 2024 + (78 + k) < 2530 by omega), l_148 (show 2024 + (78 + k) < 2530 by omega), nI_neg (show 2024 + (78 + u) < 2 ^ 31 by omega), nI_clamp (show 2024 + (78 + u) < 2 ^ 31 by omega), k_148 (show 2024 + (78 + u) < 2530 by omega), l_148 (show 2024 + (78 + u) < 2530 by omega), vk, m10, v_must_t h1.rs.bad b2, tu, f1, vu, h2.rs.bad, v_must_t h2.rs.bad c2, h3.rs.bad, z00, q_148, Option.bind_some, Option.isSome_some, Option.toList, List.cons_append, List.nil_append, zclr_i, zclr_r, zclr_n, zfit_i, zfit_l, and_self, if_true, if_false]
  · rw [m_X8_wedPart]
    simp only [e_X8_wedPart_0, e_X8_wedPart_1, e_X8_wedPart_4, e_X8_wedPart_7, e_X8_wedPart_8, e_X8_wedPart_9, e_X8_wedPart_12, e_X8_wedPart_13, e_X8_wedPart_14, e_X8_wedPart_15, e_X8_wedPart_18, e_X8_wedPart_19, e_X8_wedPart_20, e_X8_wedPart_21, e_X8_wedPart_22, e_X8_wedPart_25, e_X8_wedPart_26, e_X8_wedPart_27, e_X8_wedPart_28, e_X8_wedPart_31, e_X8_wedPart_32, e_X8_wedPart_33, e_X8_wedPart_34, e_X8_wedPart_37, e_X8_wedPart_38, e_X8_wedPart_39, e_X8_wedPart_40, e_X8_wedPart_43, e_X8_wedPart_44, c_13, c_tt ha hg, g_tt_0 ha hg, g_tt_1 ha hg, a1, o1 _ _ _ _ _ ha hg, kmf, o2 _ _ _ _ _ ha hg, umf, c_T0 t33, t_marry t33 (show k < 12 by omega) (show u < 12 by omega), show ((0 : Int32) = 1) = False by decide, show ((0 : Int32) = 2) = False by decide, zfit_b1, Option.bind_some, Option.isSome_some, Option.toList, List.cons_append, List.nil_append, zclr_i, zclr_r, zclr_n, zfit_i, zfit_l, and_self, if_true, if_false]
/-! waits -/
theorem zfind_b {c : Nat → Bool} : ∀ k p, (∃ j, p ≤ j ∧ j < p + k ∧ c j = true) → zfind c (fun _ => (1 : Int32)) 0 p k = 1
  | 0, p, ⟨j, h1, h2, _⟩ => by omega
  | k + 1, p, ⟨j, h1, h2, h3⟩ => by
    rw [zfind]
    by_cases e : c p = true
    · rw [if_pos e]
    · rw [if_neg e]
      refine zfind_b k (p + 1) ⟨j, ?_, by omega, h3⟩
      by_cases e2 : j = p
      · rw [e2] at h3
        exact absurd h3 e
      · omega
theorem v_isQueued {Q : Nat} {x : Int32} (hQ : Q ≤ 12) (h5 : Y 148 (2024 + 5) = nI Q) (d : Nat) : zcall d 303 [.ref 143, .int 2024, .int x] (mk n m g Y JY) = some (some (.int (zfind (fun k => decide (Y 148 (2024 + (210 + k)) = x)) (fun _ => (1 : Int32)) 0 0 Q)), mk n m g Y JY) := by
  have e5 : (2024 : Int32) + 5 = 2029 := by decide
  have e210 : (2024 : Int32) + 210 = 2234 := by decide
  rw [m_X12_isQueued]
  simp only [e_X12_isQueued_0, e_X12_isQueued_1, e_X12_isQueued_3, e_X12_isQueued_4, e_X12_isQueued_7, e_X12_isQueued_8, e_X12_isQueued_9, e_X12_isQueued_10, e_X12_isQueued_11, e_X12_isQueued_14, e_X12_isQueued_15, e_X12_isQueued_18, e_X12_isQueued_19, e_X12_isQueued_22, e_X12_isQueued_23, e_X12_isQueued_24, e_X12_isQueued_25, e_X12_isQueued_26, e_X12_isQueued_27, e_X12_isQueued_30, e_X12_isQueued_31, e_X12_isQueued_32, e_X12_isQueued_35, e_X12_isQueued_38, e_X12_isQueued_39, Option.bind_some, Option.isSome_some, Option.toList, List.cons_append, List.nil_append, zclr_i, zclr_r, zclr_n, zfit_i, zfit_l, and_self, if_true, if_false]
  have h := zsearch (fun k => zexec d 303 2 [some (.ref 143), some (.int 2024), some (.int x), some (.int (nI k))] [] (mk n m g Y JY)) (fun k => decide (Y 148 (2024 + (210 + k)) = x)) (fun k => some (some (.int 1), mk n m g Y JY)) Q ?_ Q 0 (by omega)
  · refine h.trans ?_
    have h2 : zexec d 303 2 [some (.ref 143), some (.int 2024), some (.int x), some (.int (nI Q))] [] (mk n m g Y JY) = some (some (.int 0), mk n m g Y JY) := by
      rw [e_X12_isQueued_2]
      simp only [e_X12_isQueued_0, e_X12_isQueued_1, e_X12_isQueued_3, e_X12_isQueued_4, e_X12_isQueued_7, e_X12_isQueued_8, e_X12_isQueued_9, e_X12_isQueued_10, e_X12_isQueued_11, e_X12_isQueued_14, e_X12_isQueued_15, e_X12_isQueued_18, e_X12_isQueued_19, e_X12_isQueued_22, e_X12_isQueued_23, e_X12_isQueued_24, e_X12_isQueued_25, e_X12_isQueued_26, e_X12_isQueued_27, e_X12_isQueued_30, e_X12_isQueued_31, e_X12_isQueued_32, e_X12_isQueued_35, e_X12_isQueued_38, e_X12_isQueued_39, g_143_20, e5, lW_5, h5, if_pos (nI_le (Nat.le_refl Q) (show Q < 2 ^ 31 by omega)), zfit_b0, Option.bind_some, Option.isSome_some, Option.toList, List.cons_append, List.nil_append, zclr_i, zclr_r, zclr_n, zfit_i, zfit_l, and_self, if_true, if_false]
    rw [h2]
    exact zfind_app (fun v => some (some (Value.int v), mk n m g Y JY)) _ (fun _ => (1 : Int32)) 0 Q 0
  · intro k hk
    rw [e_X12_isQueued_2]
    simp only [e_X12_isQueued_0, e_X12_isQueued_1, e_X12_isQueued_3, e_X12_isQueued_4, e_X12_isQueued_7, e_X12_isQueued_8, e_X12_isQueued_9, e_X12_isQueued_10, e_X12_isQueued_11, e_X12_isQueued_14, e_X12_isQueued_15, e_X12_isQueued_18, e_X12_isQueued_19, e_X12_isQueued_22, e_X12_isQueued_23, e_X12_isQueued_24, e_X12_isQueued_25, e_X12_isQueued_26, e_X12_isQueued_27, e_X12_isQueued_30, e_X12_isQueued_31, e_X12_isQueued_32, e_X12_isQueued_35, e_X12_isQueued_38, e_X12_isQueued_39, g_143_20, e5, e210, lW_5, h5, if_neg (nI_ge hk (show Q < 2 ^ 31 by omega)), cB_210, nI_neg (show 2024 + (210 + k) < 2 ^ 31 by omega), nI_clamp (show 2024 + (210 + k) < 2 ^ 31 by omega), k_148 (show 2024 + (210 + k) < 2530 by omega), l_148 (show 2024 + (210 + k) < 2530 by omega), nI_1, zfit_b1, Option.bind_some, Option.isSome_some, Option.toList, List.cons_append, List.nil_append, zclr_i, zclr_r, zclr_n, zfit_i, zfit_l, and_self, if_true, if_false]
    by_cases h1 : Y 148 (2024 + (210 + k)) = x <;> simp [h1]
theorem TS.enq (h : TS L p t N S X JX Y JY) {k s : Nat} (hk : k < N) (hs : s < S) (hno : ∀ j, j < qN X 33 → X (33 + 15) j ≠ nI k) : TS L p t N S (qAdd X 33 (qN X 33) (nI k) (nI s)) JX (zu (zu (zu Y 148 (2024 + (210 + qN X 33)) (nI k)) 148 (2024 + (222 + qN X 33)) (nI s)) 148 (2024 + 5) (nI (qN X 33 + 1))) JY := by
  have hQ := h.W.room hk hno
  have h12 := h.W.h12
  have h6 := h.W.h6
  have hro : ∀ j, j ≠ 33 + 14 → j ≠ 33 + 15 → j ≠ 33 + 16 → qAdd X 33 (qN X 33) (nI k) (nI s) j = X j := fun j a b c => by
    unfold qAdd
    rw [zu_far _ _ _ a, zu_far _ _ _ c, zu_far _ _ _ b]
  unfold TS
  rw [nb_zu, nb_zu, nb_zu]
  refine ⟨(h.rs.same (hro 12 (by decide) (by decide) (by decide)) (hro 13 (by decide) (by decide) (by decide)) rfl rfl (fun k _ _ => rfl) rfl rfl).cc.cc.cc, h.W.enq hk hs hno, RT.enq (TQ.R h) h.W hQ, TQ.jw h, (TQ.nbq h).keep (fun r s h1 h2 h3 => ?_) (fun r q h1 h2 h3 => ?_), fun q hq => ?_, ?_, ?_⟩
  · rw [fu_ne _ _ (by omega), fu_ne _ _ (by omega), fu_ne _ _ (by omega)]
  · rw [fu_ne _ _ (by omega), fu_ne _ _ (by omega), fu_ne _ _ (by omega)]
  · rw [hro _ (by decide) (by decide) (by decide)]
    exact TQ.alive h q hq
  · rw [fu_ne _ _ (by omega), fu_ne _ _ (by omega), fu_ne _ _ (by omega)]
    exact TQ.c0 h
  · rw [zu_far _ _ _ (by decide), zu_far _ _ _ (by decide), zu_far _ _ _ (by decide)]
    exact TQ.told h
set_option maxHeartbeats 4000000 in
theorem r_waits (h : TS L p t N S X JX Y JY) : Out L p t 135 304 X JX Y JY := by
  obtain ⟨X1, JX1, Y1, JY1, p1, a1, a2, a3, a4, _, a5, a6⟩ := r_adv h.rs
  have h1 := h.move a3 a5 a6.yg
  have h12 := h1.W.h12
  have h6 := h1.W.h6
  have pH := fun n m g d => d_personHere (n := n) (m := m) (g := g) (J := JX1) t33 h1.W.hN h12 d
  rcases h1.pers with ⟨k, hk, _, hpk, tk⟩ | ⟨X2, Y2, hp2, tk, hB, fx, yg⟩
  rotate_left
  · rw [hp2] at pH
    refine Out.f (X' := X2) (JX' := JX1) (Y' := Y2) (JY' := JY1) (fun n m g d => ?_) (fun n m g d a ha hg => ?_) hB (a5.gx.trans fx.gx) (a6.yg.gy.trans yg.gy)
    · rw [m_X12_readWaits]
      simp only [e_X12_readWaits_0, e_X12_readWaits_1, e_X12_readWaits_4, e_X12_readWaits_5, e_X12_readWaits_6, e_X12_readWaits_7, e_X12_readWaits_10, e_X12_readWaits_11, e_X12_readWaits_12, e_X12_readWaits_15, e_X12_readWaits_18, e_X12_readWaits_19, e_X12_readWaits_22, e_X12_readWaits_23, e_X12_readWaits_26, e_X12_readWaits_29, e_X12_readWaits_30, e_X12_readWaits_31, e_X12_readWaits_32, e_X12_readWaits_35, e_X12_readWaits_38, e_X12_readWaits_39, e_X12_readWaits_40, e_X12_readWaits_43, e_X12_readWaits_44, e_X12_readWaits_45, e_X12_readWaits_48, e_X12_readWaits_51, e_X12_readWaits_52, e_X12_readWaits_53, e_X12_readWaits_54, e_X12_readWaits_57, e_X12_readWaits_58, e_X12_readWaits_59, e_X12_readWaits_62, e_X12_readWaits_65, e_X12_readWaits_66, e_X12_readWaits_69, e_X12_readWaits_72, e_X12_readWaits_73, e_X12_readWaits_74, e_X12_readWaits_75, e_X12_readWaits_76, e_X12_readWaits_79, e_X12_readWaits_80, e_X12_readWaits_81, e_X12_readWaits_82, e_X12_readWaits_85, e_X12_readWaits_88, e_X12_readWaits_89, e_X12_readWaits_90, e_X12_readWaits_93, e_X12_readWaits_94, e_X12_readWaits_97, e_X12_readWaits_100, e_X12_readWaits_101, e_X12_readWaits_102, e_X12_readWaits_105, e_X12_readWaits_108, e_X12_readWaits_109, e_X12_readWaits_112, e_X12_readWaits_115, e_X12_readWaits_116, e_X12_readWaits_117, e_X12_readWaits_118, e_X12_readWaits_119, e_X12_readWaits_120, e_X12_readWaits_123, e_X12_readWaits_126, e_X12_readWaits_127, e_X12_readWaits_130, e_X12_readWaits_133, e_X12_readWaits_134, e_X12_readWaits_135, e_X12_readWaits_136, e_X12_readWaits_137, e_X12_readWaits_138, e_X12_readWaits_141, e_X12_readWaits_144, e_X12_readWaits_145, e_X12_readWaits_146, e_X12_readWaits_147, e_X12_readWaits_148, e_X12_readWaits_149, c_143, a2, tk, v_isFor, v_must_b hB, v_told_b hB, g_143_12, hB.ne, hB.lt, hB.le, Option.bind_some, Option.isSome_some, Option.toList, List.cons_append, List.nil_append, zclr_i, zclr_r, zclr_n, zfit_i, zfit_l, and_self, if_true, if_false]
    · rw [m_X8_waitsPart]
      simp only [e_X8_waitsPart_0, e_X8_waitsPart_1, e_X8_waitsPart_4, e_X8_waitsPart_7, e_X8_waitsPart_8, e_X8_waitsPart_11, e_X8_waitsPart_12, e_X8_waitsPart_15, e_X8_waitsPart_18, e_X8_waitsPart_19, e_X8_waitsPart_20, e_X8_waitsPart_21, e_X8_waitsPart_24, e_X8_waitsPart_25, e_X8_waitsPart_26, e_X8_waitsPart_27, e_X8_waitsPart_30, e_X8_waitsPart_33, e_X8_waitsPart_34, e_X8_waitsPart_37, e_X8_waitsPart_38, e_X8_waitsPart_41, e_X8_waitsPart_42, e_X8_waitsPart_45, e_X8_waitsPart_46, e_X8_waitsPart_49, e_X8_waitsPart_50, e_X8_waitsPart_51, e_X8_waitsPart_54, e_X8_waitsPart_57, e_X8_waitsPart_58, e_X8_waitsPart_61, e_X8_waitsPart_63, e_X8_waitsPart_66, e_X8_waitsPart_69, e_X8_waitsPart_70, e_X8_waitsPart_71, e_X8_waitsPart_72, e_X8_waitsPart_75, e_X8_waitsPart_76, e_X8_waitsPart_79, e_X8_waitsPart_82, e_X8_waitsPart_83, e_X8_waitsPart_84, e_X8_waitsPart_85, e_X8_waitsPart_88, e_X8_waitsPart_89, e_X8_waitsPart_90, e_X8_waitsPart_91, e_X8_waitsPart_94, e_X8_waitsPart_97, e_X8_waitsPart_98, e_X8_waitsPart_99, e_X8_waitsPart_100, e_X8_waitsPart_103, e_X8_waitsPart_104, e_X8_waitsPart_107, e_X8_waitsPart_108, e_X8_waitsPart_111, e_X8_waitsPart_112, e_X8_waitsPart_113, e_X8_waitsPart_116, e_X8_waitsPart_119, e_X8_waitsPart_120, e_X8_waitsPart_121, e_X8_waitsPart_124, e_X8_waitsPart_125, e_X8_waitsPart_128, e_X8_waitsPart_131, e_X8_waitsPart_132, c_13, c_tt ha hg, g_tt_0 ha hg, g_tt_1 ha hg, a1, pH, zfit_b0, Option.bind_some, Option.isSome_some, Option.toList, List.cons_append, List.nil_append, zclr_i, zclr_r, zclr_n, zfit_i, zfit_l, and_self, if_true, if_false]
  rw [hpk] at pH
  have km : nI k ≠ -1 := nI_m1 (by omega)
  have kmf : (nI k = -1) = False := eq_false km
  have hQ := h1.W.hQ
  have h5 : Y1 148 (2024 + 5) = nI (qN X1 33) := (TQ.R h1).n5.trans hQ.1
  have hwho : ∀ j, j < qN X1 33 → Y1 148 (2024 + (210 + j)) = X1 (33 + 15) j := (TQ.R h1).who
  rcases zfind_or (c := fun j => decide (X1 (33 + 15) j = nI k)) (qN X1 33) 0 with ⟨q1, q2⟩ | ⟨j, j1, j2, j3, j4⟩
  rotate_left
  · have hB := h1.rs.fails 5 (by decide) (by decide)
    rw [show nI 5 = 5 from rfl] at hB
    have e1 : qPlace X1 33 (nI k) (qN X1 33) = nI j := j4
    have e2 : zfind (fun j => decide (Y1 148 (2024 + (210 + j)) = nI k)) (fun _ => (1 : Int32)) 0 0 (qN X1 33) = 1 := zfind_b _ _ ⟨j, j1, j2, by rw [hwho j (by omega)]; exact j3⟩
    have jmf : (nI j = -1) = False := eq_false (nI_m1 (by omega))
    refine Out.f (X' := dFail 5 X1) (JX' := JX1) (Y' := vFail 5 (X1 13 4) Y1) (JY' := JY1) (fun n m g d => ?_) (fun n m g d a ha hg => ?_) hB (a5.gx.trans (FX.fail _).gx) (a6.yg.gy.trans (YG.fail _ _).gy)
    · rw [m_X12_readWaits]
      simp only [e_X12_readWaits_0, e_X12_readWaits_1, e_X12_readWaits_4, e_X12_readWaits_5, e_X12_readWaits_6, e_X12_readWaits_7, e_X12_readWaits_10, e_X12_readWaits_11, e_X12_readWaits_12, e_X12_readWaits_15, e_X12_readWaits_18, e_X12_readWaits_19, e_X12_readWaits_22, e_X12_readWaits_23, e_X12_readWaits_26, e_X12_readWaits_29, e_X12_readWaits_30, e_X12_readWaits_31, e_X12_readWaits_32, e_X12_readWaits_35, e_X12_readWaits_38, e_X12_readWaits_39, e_X12_readWaits_40, e_X12_readWaits_43, e_X12_readWaits_44, e_X12_readWaits_45, e_X12_readWaits_48, e_X12_readWaits_51, e_X12_readWaits_52, e_X12_readWaits_53, e_X12_readWaits_54, e_X12_readWaits_57, e_X12_readWaits_58, e_X12_readWaits_59, e_X12_readWaits_62, e_X12_readWaits_65, e_X12_readWaits_66, e_X12_readWaits_69, e_X12_readWaits_72, e_X12_readWaits_73, e_X12_readWaits_74, e_X12_readWaits_75, e_X12_readWaits_76, e_X12_readWaits_79, e_X12_readWaits_80, e_X12_readWaits_81, e_X12_readWaits_82, e_X12_readWaits_85, e_X12_readWaits_88, e_X12_readWaits_89, e_X12_readWaits_90, e_X12_readWaits_93, e_X12_readWaits_94, e_X12_readWaits_97, e_X12_readWaits_100, e_X12_readWaits_101, e_X12_readWaits_102, e_X12_readWaits_105, e_X12_readWaits_108, e_X12_readWaits_109, e_X12_readWaits_112, e_X12_readWaits_115, e_X12_readWaits_116, e_X12_readWaits_117, e_X12_readWaits_118, e_X12_readWaits_119, e_X12_readWaits_120, e_X12_readWaits_123, e_X12_readWaits_126, e_X12_readWaits_127, e_X12_readWaits_130, e_X12_readWaits_133, e_X12_readWaits_134, e_X12_readWaits_135, e_X12_readWaits_136, e_X12_readWaits_137, e_X12_readWaits_138, e_X12_readWaits_141, e_X12_readWaits_144, e_X12_readWaits_145, e_X12_readWaits_146, e_X12_readWaits_147, e_X12_readWaits_148, e_X12_readWaits_149, c_143, a2, tk, g_143_12, g_143_15, h1.rs.bad, h1.rs.at, v_isQueued hQ.2 h5, e2, show ((1 : Int32) = 0) = False by decide, v_fail h1.rs.bad, v_isFor, v_must_b hB, v_told_b hB, hB.ne, hB.lt, hB.le, Option.bind_some, Option.isSome_some, Option.toList, List.cons_append, List.nil_append, zclr_i, zclr_r, zclr_n, zfit_i, zfit_l, and_self, if_true, if_false]
    · rw [m_X8_waitsPart]
      simp only [e_X8_waitsPart_0, e_X8_waitsPart_1, e_X8_waitsPart_4, e_X8_waitsPart_7, e_X8_waitsPart_8, e_X8_waitsPart_11, e_X8_waitsPart_12, e_X8_waitsPart_15, e_X8_waitsPart_18, e_X8_waitsPart_19, e_X8_waitsPart_20, e_X8_waitsPart_21, e_X8_waitsPart_24, e_X8_waitsPart_25, e_X8_waitsPart_26, e_X8_waitsPart_27, e_X8_waitsPart_30, e_X8_waitsPart_33, e_X8_waitsPart_34, e_X8_waitsPart_37, e_X8_waitsPart_38, e_X8_waitsPart_41, e_X8_waitsPart_42, e_X8_waitsPart_45, e_X8_waitsPart_46, e_X8_waitsPart_49, e_X8_waitsPart_50, e_X8_waitsPart_51, e_X8_waitsPart_54, e_X8_waitsPart_57, e_X8_waitsPart_58, e_X8_waitsPart_61, e_X8_waitsPart_63, e_X8_waitsPart_66, e_X8_waitsPart_69, e_X8_waitsPart_70, e_X8_waitsPart_71, e_X8_waitsPart_72, e_X8_waitsPart_75, e_X8_waitsPart_76, e_X8_waitsPart_79, e_X8_waitsPart_82, e_X8_waitsPart_83, e_X8_waitsPart_84, e_X8_waitsPart_85, e_X8_waitsPart_88, e_X8_waitsPart_89, e_X8_waitsPart_90, e_X8_waitsPart_91, e_X8_waitsPart_94, e_X8_waitsPart_97, e_X8_waitsPart_98, e_X8_waitsPart_99, e_X8_waitsPart_100, e_X8_waitsPart_103, e_X8_waitsPart_104, e_X8_waitsPart_107, e_X8_waitsPart_108, e_X8_waitsPart_111, e_X8_waitsPart_112, e_X8_waitsPart_113, e_X8_waitsPart_116, e_X8_waitsPart_119, e_X8_waitsPart_120, e_X8_waitsPart_121, e_X8_waitsPart_124, e_X8_waitsPart_125, e_X8_waitsPart_128, e_X8_waitsPart_131, e_X8_waitsPart_132, c_13, c_tt ha hg, g_tt_0 ha hg, g_tt_1 ha hg, a1, pH, kmf, g_T0_19 t33, c_T14 t33, q_placeOf t33 hQ.1 hQ.2, e1, jmf, d_fail, zfit_b0, Option.bind_some, Option.isSome_some, Option.toList, List.cons_append, List.nil_append, zclr_i, zclr_r, zclr_n, zfit_i, zfit_l, and_self, if_true, if_false]
  have e1 : qPlace X1 33 (nI k) (qN X1 33) = -1 := q1
  have hno : ∀ j, j < qN X1 33 → X1 (33 + 15) j ≠ nI k := fun j hj e => by
    have := q2 j (by omega) (by omega)
    rw [decide_eq_false_iff_not] at this
    exact this e
  have e2 : zfind (fun j => decide (Y1 148 (2024 + (210 + j)) = nI k)) (fun _ => (1 : Int32)) 0 0 (qN X1 33) = 0 := zfind_none _ _ (fun j _ hj => by rw [hwho j (by omega)]; exact q2 j (by omega) hj)
  obtain ⟨X2, JX2, Y2, JY2, p2, b1, b2, b3, b4, _, b5, b6⟩ := r_adv h1.rs
  have h2 := h1.move b3 b5 b6.yg
  have gx2 := a5.gx.trans b5.gx
  have gy2 := a6.yg.gy.trans b6.yg.gy
  by_cases cF : X2 13 9 = 14
  rotate_left
  · refine Out.f (X' := dHere X2) (JX' := JX2) (Y' := vFail (kH X2) (X2 13 4) Y2) (JY' := JY2) (fun n m g d => ?_) (fun n m g d a ha hg => ?_) h2.rs.here (gx2.trans FX.here.gx) (gy2.trans (YG.fail _ _).gy)
    · rw [m_X12_readWaits]
      simp only [e_X12_readWaits_0, e_X12_readWaits_1, e_X12_readWaits_4, e_X12_readWaits_5, e_X12_readWaits_6, e_X12_readWaits_7, e_X12_readWaits_10, e_X12_readWaits_11, e_X12_readWaits_12, e_X12_readWaits_15, e_X12_readWaits_18, e_X12_readWaits_19, e_X12_readWaits_22, e_X12_readWaits_23, e_X12_readWaits_26, e_X12_readWaits_29, e_X12_readWaits_30, e_X12_readWaits_31, e_X12_readWaits_32, e_X12_readWaits_35, e_X12_readWaits_38, e_X12_readWaits_39, e_X12_readWaits_40, e_X12_readWaits_43, e_X12_readWaits_44, e_X12_readWaits_45, e_X12_readWaits_48, e_X12_readWaits_51, e_X12_readWaits_52, e_X12_readWaits_53, e_X12_readWaits_54, e_X12_readWaits_57, e_X12_readWaits_58, e_X12_readWaits_59, e_X12_readWaits_62, e_X12_readWaits_65, e_X12_readWaits_66, e_X12_readWaits_69, e_X12_readWaits_72, e_X12_readWaits_73, e_X12_readWaits_74, e_X12_readWaits_75, e_X12_readWaits_76, e_X12_readWaits_79, e_X12_readWaits_80, e_X12_readWaits_81, e_X12_readWaits_82, e_X12_readWaits_85, e_X12_readWaits_88, e_X12_readWaits_89, e_X12_readWaits_90, e_X12_readWaits_93, e_X12_readWaits_94, e_X12_readWaits_97, e_X12_readWaits_100, e_X12_readWaits_101, e_X12_readWaits_102, e_X12_readWaits_105, e_X12_readWaits_108, e_X12_readWaits_109, e_X12_readWaits_112, e_X12_readWaits_115, e_X12_readWaits_116, e_X12_readWaits_117, e_X12_readWaits_118, e_X12_readWaits_119, e_X12_readWaits_120, e_X12_readWaits_123, e_X12_readWaits_126, e_X12_readWaits_127, e_X12_readWaits_130, e_X12_readWaits_133, e_X12_readWaits_134, e_X12_readWaits_135, e_X12_readWaits_136, e_X12_readWaits_137, e_X12_readWaits_138, e_X12_readWaits_141, e_X12_readWaits_144, e_X12_readWaits_145, e_X12_readWaits_146, e_X12_readWaits_147, e_X12_readWaits_148, e_X12_readWaits_149, c_143, a2, tk, g_143_12, g_143_15, h1.rs.bad, v_isQueued hQ.2 h5, e2, v_must_t h1.rs.bad b2, v_isFor, h2.rs.k14, decide_eq_false cF, bI, Bool.false_eq_true, v_must_f h2.rs, v_must_b h2.rs.here, v_told_b h2.rs.here, h2.rs.here.ne, h2.rs.here.lt, h2.rs.here.le, Option.bind_some, Option.isSome_some, Option.toList, List.cons_append, List.nil_append, zclr_i, zclr_r, zclr_n, zfit_i, zfit_l, and_self, if_true, if_false]
    · rw [m_X8_waitsPart]
      simp only [e_X8_waitsPart_0, e_X8_waitsPart_1, e_X8_waitsPart_4, e_X8_waitsPart_7, e_X8_waitsPart_8, e_X8_waitsPart_11, e_X8_waitsPart_12, e_X8_waitsPart_15, e_X8_waitsPart_18, e_X8_waitsPart_19, e_X8_waitsPart_20, e_X8_waitsPart_21, e_X8_waitsPart_24, e_X8_waitsPart_25, e_X8_waitsPart_26, e_X8_waitsPart_27, e_X8_waitsPart_30, e_X8_waitsPart_33, e_X8_waitsPart_34, e_X8_waitsPart_37, e_X8_waitsPart_38, e_X8_waitsPart_41, e_X8_waitsPart_42, e_X8_waitsPart_45, e_X8_waitsPart_46, e_X8_waitsPart_49, e_X8_waitsPart_50, e_X8_waitsPart_51, e_X8_waitsPart_54, e_X8_waitsPart_57, e_X8_waitsPart_58, e_X8_waitsPart_61, e_X8_waitsPart_63, e_X8_waitsPart_66, e_X8_waitsPart_69, e_X8_waitsPart_70, e_X8_waitsPart_71, e_X8_waitsPart_72, e_X8_waitsPart_75, e_X8_waitsPart_76, e_X8_waitsPart_79, e_X8_waitsPart_82, e_X8_waitsPart_83, e_X8_waitsPart_84, e_X8_waitsPart_85, e_X8_waitsPart_88, e_X8_waitsPart_89, e_X8_waitsPart_90, e_X8_waitsPart_91, e_X8_waitsPart_94, e_X8_waitsPart_97, e_X8_waitsPart_98, e_X8_waitsPart_99, e_X8_waitsPart_100, e_X8_waitsPart_103, e_X8_waitsPart_104, e_X8_waitsPart_107, e_X8_waitsPart_108, e_X8_waitsPart_111, e_X8_waitsPart_112, e_X8_waitsPart_113, e_X8_waitsPart_116, e_X8_waitsPart_119, e_X8_waitsPart_120, e_X8_waitsPart_121, e_X8_waitsPart_124, e_X8_waitsPart_125, e_X8_waitsPart_128, e_X8_waitsPart_131, e_X8_waitsPart_132, c_13, c_tt ha hg, g_tt_0 ha hg, g_tt_1 ha hg, a1, pH, kmf, g_T0_19 t33, c_T14 t33, q_placeOf t33 hQ.1 hQ.2, e1, b1, d_key_no h2.rs cF, zfit_b0, Option.bind_some, Option.isSome_some, Option.toList, List.cons_append, List.nil_append, zclr_i, zclr_r, zclr_n, zfit_i, zfit_l, and_self, if_true, if_false]
  obtain ⟨X3, JX3, Y3, JY3, p3, c1, c2, c3, c4, _, c5, c6⟩ := r_adv h2.rs
  have h3 := h2.move c3 c5 c6.yg
  have gx3 := gx2.trans c5.gx
  have gy3 := gy2.trans c6.yg.gy
  have sH := fun n m g d => d_surnameHere (n := n) (m := m) (g := g) (J := JX3) t33 h3.W.hS h6 d
  rcases h3.surn with ⟨s, hs, _, hps, ts⟩ | ⟨X4, Y4, hp4, ts, hB, fx, yg⟩
  rotate_left
  · rw [hp4] at sH
    refine Out.f (X' := X4) (JX' := JX3) (Y' := Y4) (JY' := JY3) (fun n m g d => ?_) (fun n m g d a ha hg => ?_) hB (gx3.trans fx.gx) (gy3.trans yg.gy)
    · rw [m_X12_readWaits]
      simp only [e_X12_readWaits_0, e_X12_readWaits_1, e_X12_readWaits_4, e_X12_readWaits_5, e_X12_readWaits_6, e_X12_readWaits_7, e_X12_readWaits_10, e_X12_readWaits_11, e_X12_readWaits_12, e_X12_readWaits_15, e_X12_readWaits_18, e_X12_readWaits_19, e_X12_readWaits_22, e_X12_readWaits_23, e_X12_readWaits_26, e_X12_readWaits_29, e_X12_readWaits_30, e_X12_readWaits_31, e_X12_readWaits_32, e_X12_readWaits_35, e_X12_readWaits_38, e_X12_readWaits_39, e_X12_readWaits_40, e_X12_readWaits_43, e_X12_readWaits_44, e_X12_readWaits_45, e_X12_readWaits_48, e_X12_readWaits_51, e_X12_readWaits_52, e_X12_readWaits_53, e_X12_readWaits_54, e_X12_readWaits_57, e_X12_readWaits_58, e_X12_readWaits_59, e_X12_readWaits_62, e_X12_readWaits_65, e_X12_readWaits_66, e_X12_readWaits_69, e_X12_readWaits_72, e_X12_readWaits_73, e_X12_readWaits_74, e_X12_readWaits_75, e_X12_readWaits_76, e_X12_readWaits_79, e_X12_readWaits_80, e_X12_readWaits_81, e_X12_readWaits_82, e_X12_readWaits_85, e_X12_readWaits_88, e_X12_readWaits_89, e_X12_readWaits_90, e_X12_readWaits_93, e_X12_readWaits_94, e_X12_readWaits_97, e_X12_readWaits_100, e_X12_readWaits_101, e_X12_readWaits_102, e_X12_readWaits_105, e_X12_readWaits_108, e_X12_readWaits_109, e_X12_readWaits_112, e_X12_readWaits_115, e_X12_readWaits_116, e_X12_readWaits_117, e_X12_readWaits_118, e_X12_readWaits_119, e_X12_readWaits_120, e_X12_readWaits_123, e_X12_readWaits_126, e_X12_readWaits_127, e_X12_readWaits_130, e_X12_readWaits_133, e_X12_readWaits_134, e_X12_readWaits_135, e_X12_readWaits_136, e_X12_readWaits_137, e_X12_readWaits_138, e_X12_readWaits_141, e_X12_readWaits_144, e_X12_readWaits_145, e_X12_readWaits_146, e_X12_readWaits_147, e_X12_readWaits_148, e_X12_readWaits_149, c_143, a2, tk, g_143_12, g_143_15, h1.rs.bad, v_isQueued hQ.2 h5, e2, v_must_t h1.rs.bad b2, v_isFor, h2.rs.k14, decide_eq_true cF, bI, if_true, v_must_t h2.rs.bad c2, ts, v_must_b hB, hB.ne, hB.lt, hB.le, Option.bind_some, Option.isSome_some, Option.toList, List.cons_append, List.nil_append, zclr_i, zclr_r, zclr_n, zfit_i, zfit_l, and_self, if_true, if_false]
    · rw [m_X8_waitsPart]
      simp only [e_X8_waitsPart_0, e_X8_waitsPart_1, e_X8_waitsPart_4, e_X8_waitsPart_7, e_X8_waitsPart_8, e_X8_waitsPart_11, e_X8_waitsPart_12, e_X8_waitsPart_15, e_X8_waitsPart_18, e_X8_waitsPart_19, e_X8_waitsPart_20, e_X8_waitsPart_21, e_X8_waitsPart_24, e_X8_waitsPart_25, e_X8_waitsPart_26, e_X8_waitsPart_27, e_X8_waitsPart_30, e_X8_waitsPart_33, e_X8_waitsPart_34, e_X8_waitsPart_37, e_X8_waitsPart_38, e_X8_waitsPart_41, e_X8_waitsPart_42, e_X8_waitsPart_45, e_X8_waitsPart_46, e_X8_waitsPart_49, e_X8_waitsPart_50, e_X8_waitsPart_51, e_X8_waitsPart_54, e_X8_waitsPart_57, e_X8_waitsPart_58, e_X8_waitsPart_61, e_X8_waitsPart_63, e_X8_waitsPart_66, e_X8_waitsPart_69, e_X8_waitsPart_70, e_X8_waitsPart_71, e_X8_waitsPart_72, e_X8_waitsPart_75, e_X8_waitsPart_76, e_X8_waitsPart_79, e_X8_waitsPart_82, e_X8_waitsPart_83, e_X8_waitsPart_84, e_X8_waitsPart_85, e_X8_waitsPart_88, e_X8_waitsPart_89, e_X8_waitsPart_90, e_X8_waitsPart_91, e_X8_waitsPart_94, e_X8_waitsPart_97, e_X8_waitsPart_98, e_X8_waitsPart_99, e_X8_waitsPart_100, e_X8_waitsPart_103, e_X8_waitsPart_104, e_X8_waitsPart_107, e_X8_waitsPart_108, e_X8_waitsPart_111, e_X8_waitsPart_112, e_X8_waitsPart_113, e_X8_waitsPart_116, e_X8_waitsPart_119, e_X8_waitsPart_120, e_X8_waitsPart_121, e_X8_waitsPart_124, e_X8_waitsPart_125, e_X8_waitsPart_128, e_X8_waitsPart_131, e_X8_waitsPart_132, c_13, c_tt ha hg, g_tt_0 ha hg, g_tt_1 ha hg, a1, pH, kmf, g_T0_19 t33, c_T14 t33, q_placeOf t33 hQ.1 hQ.2, e1, b1, d_key_yes h2.rs cF c1, show ((1 : Int32) = 0) = False by decide, sH, zfit_b0, Option.bind_some, Option.isSome_some, Option.toList, List.cons_append, List.nil_append, zclr_i, zclr_r, zclr_n, zfit_i, zfit_l, and_self, if_true, if_false]
  rw [hps] at sH
  have smf : (nI s = -1) = False := eq_false (nI_m1 (by omega))
  have vb : Y3 148 (2024 + (30 + k)) = X3 (33 + 7) k := (TQ.R h3).bears k hk
  by_cases cb : X3 (33 + 7) k = nI s
  · have hB := h3.rs.fails 5 (by decide) (by decide)
    rw [show nI 5 = 5 from rfl] at hB
    rw [cb] at vb
    refine Out.f (X' := dFail 5 X3) (JX' := JX3) (Y' := vFail 5 (X3 13 4) Y3) (JY' := JY3) (fun n m g d => ?_) (fun n m g d a ha hg => ?_) hB (gx3.trans (FX.fail _).gx) (gy3.trans (YG.fail _ _).gy)
    · rw [m_X12_readWaits]
      simp only [e_X12_readWaits_0, e_X12_readWaits_1, e_X12_readWaits_4, e_X12_readWaits_5, e_X12_readWaits_6, e_X12_readWaits_7, e_X12_readWaits_10, e_X12_readWaits_11, e_X12_readWaits_12, e_X12_readWaits_15, e_X12_readWaits_18, e_X12_readWaits_19, e_X12_readWaits_22, e_X12_readWaits_23, e_X12_readWaits_26, e_X12_readWaits_29, e_X12_readWaits_30, e_X12_readWaits_31, e_X12_readWaits_32, e_X12_readWaits_35, e_X12_readWaits_38, e_X12_readWaits_39, e_X12_readWaits_40, e_X12_readWaits_43, e_X12_readWaits_44, e_X12_readWaits_45, e_X12_readWaits_48, e_X12_readWaits_51, e_X12_readWaits_52, e_X12_readWaits_53, e_X12_readWaits_54, e_X12_readWaits_57, e_X12_readWaits_58, e_X12_readWaits_59, e_X12_readWaits_62, e_X12_readWaits_65, e_X12_readWaits_66, e_X12_readWaits_69, e_X12_readWaits_72, e_X12_readWaits_73, e_X12_readWaits_74, e_X12_readWaits_75, e_X12_readWaits_76, e_X12_readWaits_79, e_X12_readWaits_80, e_X12_readWaits_81, e_X12_readWaits_82, e_X12_readWaits_85, e_X12_readWaits_88, e_X12_readWaits_89, e_X12_readWaits_90, e_X12_readWaits_93, e_X12_readWaits_94, e_X12_readWaits_97, e_X12_readWaits_100, e_X12_readWaits_101, e_X12_readWaits_102, e_X12_readWaits_105, e_X12_readWaits_108, e_X12_readWaits_109, e_X12_readWaits_112, e_X12_readWaits_115, e_X12_readWaits_116, e_X12_readWaits_117, e_X12_readWaits_118, e_X12_readWaits_119, e_X12_readWaits_120, e_X12_readWaits_123, e_X12_readWaits_126, e_X12_readWaits_127, e_X12_readWaits_130, e_X12_readWaits_133, e_X12_readWaits_134, e_X12_readWaits_135, e_X12_readWaits_136, e_X12_readWaits_137, e_X12_readWaits_138, e_X12_readWaits_141, e_X12_readWaits_144, e_X12_readWaits_145, e_X12_readWaits_146, e_X12_readWaits_147, e_X12_readWaits_148, e_X12_readWaits_149, c_143, a2, tk, g_143_12, g_143_15, g_143_20, h1.rs.bad, v_isQueued hQ.2 h5, e2, v_must_t h1.rs.bad b2, v_isFor, h2.rs.k14, decide_eq_true cF, bI, if_true, v_must_t h2.rs.bad c2, ts, h3.rs.bad, h3.rs.at, cB_30, nI_neg (show 2024 + (30 + k) < 2 ^ 31 by omega), nI_clamp (show 2024 + (30 + k) < 2 ^ 31 by omega), k_148 (show 2024 + (30 + k) < 2530 by omega), l_148 (show 2024 + (30 + k) < 2530 by omega), vb, v_fail h3.rs.bad, v_must_b hB, hB.ne, hB.lt, hB.le, Option.bind_some, Option.isSome_some, Option.toList, List.cons_append, List.nil_append, zclr_i, zclr_r, zclr_n, zfit_i, zfit_l, and_self, if_true, if_false]
    · rw [m_X8_waitsPart]
      simp only [e_X8_waitsPart_0, e_X8_waitsPart_1, e_X8_waitsPart_4, e_X8_waitsPart_7, e_X8_waitsPart_8, e_X8_waitsPart_11, e_X8_waitsPart_12, e_X8_waitsPart_15, e_X8_waitsPart_18, e_X8_waitsPart_19, e_X8_waitsPart_20, e_X8_waitsPart_21, e_X8_waitsPart_24, e_X8_waitsPart_25, e_X8_waitsPart_26, e_X8_waitsPart_27, e_X8_waitsPart_30, e_X8_waitsPart_33, e_X8_waitsPart_34, e_X8_waitsPart_37, e_X8_waitsPart_38, e_X8_waitsPart_41, e_X8_waitsPart_42, e_X8_waitsPart_45, e_X8_waitsPart_46, e_X8_waitsPart_49, e_X8_waitsPart_50, e_X8_waitsPart_51, e_X8_waitsPart_54, e_X8_waitsPart_57, e_X8_waitsPart_58, e_X8_waitsPart_61, e_X8_waitsPart_63, e_X8_waitsPart_66, e_X8_waitsPart_69, e_X8_waitsPart_70, e_X8_waitsPart_71, e_X8_waitsPart_72, e_X8_waitsPart_75, e_X8_waitsPart_76, e_X8_waitsPart_79, e_X8_waitsPart_82, e_X8_waitsPart_83, e_X8_waitsPart_84, e_X8_waitsPart_85, e_X8_waitsPart_88, e_X8_waitsPart_89, e_X8_waitsPart_90, e_X8_waitsPart_91, e_X8_waitsPart_94, e_X8_waitsPart_97, e_X8_waitsPart_98, e_X8_waitsPart_99, e_X8_waitsPart_100, e_X8_waitsPart_103, e_X8_waitsPart_104, e_X8_waitsPart_107, e_X8_waitsPart_108, e_X8_waitsPart_111, e_X8_waitsPart_112, e_X8_waitsPart_113, e_X8_waitsPart_116, e_X8_waitsPart_119, e_X8_waitsPart_120, e_X8_waitsPart_121, e_X8_waitsPart_124, e_X8_waitsPart_125, e_X8_waitsPart_128, e_X8_waitsPart_131, e_X8_waitsPart_132, c_13, c_tt ha hg, g_tt_0 ha hg, g_tt_1 ha hg, a1, pH, kmf, g_T0_19 t33, c_T14 t33, q_placeOf t33 hQ.1 hQ.2, e1, b1, d_key_yes h2.rs cF c1, show ((1 : Int32) = 0) = False by decide, sH, smf, g_T0_12 t33, l_T7 t33 (show k < 12 by omega), cb, d_fail, zfit_b0, Option.bind_some, Option.isSome_some, Option.toList, List.cons_append, List.nil_append, zclr_i, zclr_r, zclr_n, zfit_i, zfit_l, and_self, if_true, if_false]
  obtain ⟨X4, JX4, Y4, JY4, p4, d1, d2, d3, d4, _, d5, d6⟩ := r_adv h3.rs
  have h4 := h3.move d3 d5 d6.yg
  have hX : ∀ j, 33 ≤ j → X4 j = X1 j := fun j hj => by rw [d5.1 j (by omega), c5.1 j (by omega), b5.1 j (by omega)]
  have hX3 : ∀ j, 33 ≤ j → X3 j = X1 j := fun j hj => by rw [c5.1 j (by omega), b5.1 j (by omega)]
  have hq4 : qN X4 33 = qN X1 33 := qN_far (hX _ (by decide))
  have hq3 : qN X3 33 = qN X1 33 := qN_far (hX3 _ (by decide))
  have hno4 : ∀ j, j < qN X4 33 → X4 (33 + 15) j ≠ nI k := fun j hj => by
    rw [hq4] at hj
    rw [hX _ (by decide)]
    exact hno j hj
  have hno3 : ∀ j, j < qN X3 33 → X3 (33 + 15) j ≠ nI k := fun j hj => by
    rw [hq3] at hj
    rw [hX3 _ (by decide)]
    exact hno j hj
  have room := h4.W.room hk hno4
  have h54 : Y4 148 (2024 + 5) = nI (qN X4 33) := (TQ.R h4).n5.trans h4.W.hQ.1
  have cbf : (X3 (33 + 7) k = nI s) = False := eq_false cb
  -- the class adds before it reads on: the same rows
  obtain ⟨X5, JX5, Y5, JY5, p5, i1, i2, i3, i4, _, i5, i6⟩ := r_adv (X := qAdd X3 33 (qN X3 33) (nI k) (nI s)) (JX := JX3) (Y := Y3) (JY := JY3) (L := L) (p := p3) (h3.rs.same (by unfold qAdd; rw [zu_far _ _ _ (by decide), zu_far _ _ _ (by decide), zu_far _ _ _ (by decide)]) (by unfold qAdd; rw [zu_far _ _ _ (by decide), zu_far _ _ _ (by decide), zu_far _ _ _ (by decide)]) rfl rfl (fun k _ _ => rfl) rfl rfl)
  have hq5 : qN X3 33 = qN X1 33 := hq3
  have room3 := h3.W.room hk hno3
  have h53 : Y3 148 (2024 + 5) = nI (qN X3 33) := (TQ.R h3).n5.trans h3.W.hQ.1
  have y5 : Y5 148 (2024 + 5) = nI (qN X3 33) := by rw [i6.1 148 (by decide)]; exact h53
  have T := (h3.enq hk hs hno3)
  have T2 : TS L p5 t N S X5 JX5 (zu (zu (zu Y5 148 (2024 + (210 + qN X3 33)) (nI k)) 148 (2024 + (222 + qN X3 33)) (nI s)) 148 (2024 + 5) (nI (qN X3 33 + 1))) JY5 := by
    refine T.move i3.cc.cc.cc i5 ⟨fun a ha => ?_, fun j hj => ?_, i6.2.2.1, i6.2.2.2⟩
    · by_cases e : a = 148
      · subst e
        funext j
        simp only [zu_row]
        rw [i6.1 148 (by decide)]
      · rw [zu_far _ _ _ e, zu_far _ _ _ e, zu_far _ _ _ e, zu_far _ _ _ e, zu_far _ _ _ e, zu_far _ _ _ e, i6.1 a ha]
    · rw [zu_far _ _ _ (by decide), zu_far _ _ _ (by decide), zu_far _ _ _ (by decide), zu_far _ _ _ (by decide), zu_far _ _ _ (by decide), zu_far _ _ _ (by decide)]
      exact i6.yg.2.1 j hj
  have gxa : GX X3 JX3 (qAdd X3 33 (qN X3 33) (nI k) (nI s)) JX3 := by
    unfold qAdd
    exact ((GX.rfl'.wr (by decide) (by decide)).wr (by decide) (by decide)).wr (by decide) (by decide)
  have y5a : ∀ v w : Int32, zu (zu Y5 148 (2024 + (210 + qN X3 33)) v) 148 (2024 + (222 + qN X3 33)) w 148 (2024 + 5) = nI (qN X3 33) := fun v w => by rw [zu_row, if_neg (by omega), zu_row, if_neg (by omega), y5]
  have y5b : ∀ v : Int32, zu Y5 148 (2024 + (210 + qN X3 33)) v 148 (2024 + 5) = nI (qN X3 33) := fun v => by rw [zu_row, if_neg (by omega), y5]
  refine Out.tr (p' := p5) (N' := N) (S' := S) (X' := X5) (JX' := JX5) (Y' := zu (zu (zu Y5 148 (2024 + (210 + qN X3 33)) (nI k)) 148 (2024 + (222 + qN X3 33)) (nI s)) 148 (2024 + 5) (nI (qN X3 33 + 1))) (JY' := JY5) (fun n m g d => ?_) (fun n m g d a ha hg => ?_) (by omega) T2 ((gx3.trans gxa).trans i5.gx) (gy3.trans i6.yg.gy).cc.cc.cc
  · rw [m_X12_readWaits]
    simp only [e_X12_readWaits_0, e_X12_readWaits_1, e_X12_readWaits_4, e_X12_readWaits_5, e_X12_readWaits_6, e_X12_readWaits_7, e_X12_readWaits_10, e_X12_readWaits_11, e_X12_readWaits_12, e_X12_readWaits_15, e_X12_readWaits_18, e_X12_readWaits_19, e_X12_readWaits_22, e_X12_readWaits_23, e_X12_readWaits_26, e_X12_readWaits_29, e_X12_readWaits_30, e_X12_readWaits_31, e_X12_readWaits_32, e_X12_readWaits_35, e_X12_readWaits_38, e_X12_readWaits_39, e_X12_readWaits_40, e_X12_readWaits_43, e_X12_readWaits_44, e_X12_readWaits_45, e_X12_readWaits_48, e_X12_readWaits_51, e_X12_readWaits_52, e_X12_readWaits_53, e_X12_readWaits_54, e_X12_readWaits_57, e_X12_readWaits_58, e_X12_readWaits_59, e_X12_readWaits_62, e_X12_readWaits_65, e_X12_readWaits_66, e_X12_readWaits_69, e_X12_readWaits_72, e_X12_readWaits_73, e_X12_readWaits_74, e_X12_readWaits_75, e_X12_readWaits_76, e_X12_readWaits_79, e_X12_readWaits_80, e_X12_readWaits_81, e_X12_readWaits_82, e_X12_readWaits_85, e_X12_readWaits_88, e_X12_readWaits_89, e_X12_readWaits_90, e_X12_readWaits_93, e_X12_readWaits_94, e_X12_readWaits_97, e_X12_readWaits_100, e_X12_readWaits_101, e_X12_readWaits_102, e_X12_readWaits_105, e_X12_readWaits_108, e_X12_readWaits_109, e_X12_readWaits_112, e_X12_readWaits_115, e_X12_readWaits_116, e_X12_readWaits_117, e_X12_readWaits_118, e_X12_readWaits_119, e_X12_readWaits_120, e_X12_readWaits_123, e_X12_readWaits_126, e_X12_readWaits_127, e_X12_readWaits_130, e_X12_readWaits_133, e_X12_readWaits_134, e_X12_readWaits_135, e_X12_readWaits_136, e_X12_readWaits_137, e_X12_readWaits_138, e_X12_readWaits_141, e_X12_readWaits_144, e_X12_readWaits_145, e_X12_readWaits_146, e_X12_readWaits_147, e_X12_readWaits_148, e_X12_readWaits_149, c_143, a2, tk, g_143_12, g_143_15, g_143_20, h1.rs.bad, v_isQueued hQ.2 h5, e2, v_must_t h1.rs.bad b2, v_isFor, h2.rs.k14, decide_eq_true cF, bI, if_true, v_must_t h2.rs.bad c2, ts, h3.rs.bad, cB_30, nI_neg (show 2024 + (30 + k) < 2 ^ 31 by omega), nI_clamp (show 2024 + (30 + k) < 2 ^ 31 by omega), k_148 (show 2024 + (30 + k) < 2530 by omega), l_148 (show 2024 + (30 + k) < 2530 by omega), vb, cbf, v_must_t h3.rs.bad i2, i3.bad, z00, lW_5, y5, y5a, y5b, cB_210, cB_222, ltn_5, cln_5, kW_5, nI_neg (show 2024 + (210 + qN X3 33) < 2 ^ 31 by omega), nI_clamp (show 2024 + (210 + qN X3 33) < 2 ^ 31 by omega), k_148 (show 2024 + (210 + qN X3 33) < 2530 by omega), l_148 (show 2024 + (210 + qN X3 33) < 2530 by omega), nI_neg (show 2024 + (222 + qN X3 33) < 2 ^ 31 by omega), nI_clamp (show 2024 + (222 + qN X3 33) < 2 ^ 31 by omega), k_148 (show 2024 + (222 + qN X3 33) < 2530 by omega), l_148 (show 2024 + (222 + qN X3 33) < 2530 by omega), q_148, nI_1, Option.bind_some, Option.isSome_some, Option.toList, List.cons_append, List.nil_append, zclr_i, zclr_r, zclr_n, zfit_i, zfit_l, and_self, if_true, if_false]
  · have qa := fun n m g d => q_add (n := n) (m := m) (g := g) (J := JX3) (x := nI k) (s := nI s) t33 h3.W.hQ.1 room3 d
    rw [m_X8_waitsPart]
    simp only [e_X8_waitsPart_0, e_X8_waitsPart_1, e_X8_waitsPart_4, e_X8_waitsPart_7, e_X8_waitsPart_8, e_X8_waitsPart_11, e_X8_waitsPart_12, e_X8_waitsPart_15, e_X8_waitsPart_18, e_X8_waitsPart_19, e_X8_waitsPart_20, e_X8_waitsPart_21, e_X8_waitsPart_24, e_X8_waitsPart_25, e_X8_waitsPart_26, e_X8_waitsPart_27, e_X8_waitsPart_30, e_X8_waitsPart_33, e_X8_waitsPart_34, e_X8_waitsPart_37, e_X8_waitsPart_38, e_X8_waitsPart_41, e_X8_waitsPart_42, e_X8_waitsPart_45, e_X8_waitsPart_46, e_X8_waitsPart_49, e_X8_waitsPart_50, e_X8_waitsPart_51, e_X8_waitsPart_54, e_X8_waitsPart_57, e_X8_waitsPart_58, e_X8_waitsPart_61, e_X8_waitsPart_63, e_X8_waitsPart_66, e_X8_waitsPart_69, e_X8_waitsPart_70, e_X8_waitsPart_71, e_X8_waitsPart_72, e_X8_waitsPart_75, e_X8_waitsPart_76, e_X8_waitsPart_79, e_X8_waitsPart_82, e_X8_waitsPart_83, e_X8_waitsPart_84, e_X8_waitsPart_85, e_X8_waitsPart_88, e_X8_waitsPart_89, e_X8_waitsPart_90, e_X8_waitsPart_91, e_X8_waitsPart_94, e_X8_waitsPart_97, e_X8_waitsPart_98, e_X8_waitsPart_99, e_X8_waitsPart_100, e_X8_waitsPart_103, e_X8_waitsPart_104, e_X8_waitsPart_107, e_X8_waitsPart_108, e_X8_waitsPart_111, e_X8_waitsPart_112, e_X8_waitsPart_113, e_X8_waitsPart_116, e_X8_waitsPart_119, e_X8_waitsPart_120, e_X8_waitsPart_121, e_X8_waitsPart_124, e_X8_waitsPart_125, e_X8_waitsPart_128, e_X8_waitsPart_131, e_X8_waitsPart_132, c_13, c_tt ha hg, g_tt_0 ha hg, g_tt_1 ha hg, a1, pH, kmf, g_T0_19 t33, c_T14 t33, q_placeOf t33 hQ.1 hQ.2, e1, b1, d_key_yes h2.rs cF c1, show ((1 : Int32) = 0) = False by decide, sH, smf, g_T0_12 t33, l_T7 t33 (show k < 12 by omega), cbf, qa, zfit_b1, Option.bind_some, Option.isSome_some, Option.toList, List.cons_append, List.nil_append, zclr_i, zclr_r, zclr_n, zfit_i, zfit_l, and_self, if_true, if_false]
    rw [show zcall (d + 19) 45 [.ref 13] (mk n m g (zu (zu (zu X3 (33 + 15) (qN X3 33) (nI k)) (33 + 16) (qN X3 33) (nI s)) (33 + 14) 2 (nI (qN X3 33 + 1))) JX3) = _ from i1 n m g (d + 18)]
    simp only [e_X8_waitsPart_0, e_X8_waitsPart_1, e_X8_waitsPart_4, e_X8_waitsPart_7, e_X8_waitsPart_8, e_X8_waitsPart_11, e_X8_waitsPart_12, e_X8_waitsPart_15, e_X8_waitsPart_18, e_X8_waitsPart_19, e_X8_waitsPart_20, e_X8_waitsPart_21, e_X8_waitsPart_24, e_X8_waitsPart_25, e_X8_waitsPart_26, e_X8_waitsPart_27, e_X8_waitsPart_30, e_X8_waitsPart_33, e_X8_waitsPart_34, e_X8_waitsPart_37, e_X8_waitsPart_38, e_X8_waitsPart_41, e_X8_waitsPart_42, e_X8_waitsPart_45, e_X8_waitsPart_46, e_X8_waitsPart_49, e_X8_waitsPart_50, e_X8_waitsPart_51, e_X8_waitsPart_54, e_X8_waitsPart_57, e_X8_waitsPart_58, e_X8_waitsPart_61, e_X8_waitsPart_63, e_X8_waitsPart_66, e_X8_waitsPart_69, e_X8_waitsPart_70, e_X8_waitsPart_71, e_X8_waitsPart_72, e_X8_waitsPart_75, e_X8_waitsPart_76, e_X8_waitsPart_79, e_X8_waitsPart_82, e_X8_waitsPart_83, e_X8_waitsPart_84, e_X8_waitsPart_85, e_X8_waitsPart_88, e_X8_waitsPart_89, e_X8_waitsPart_90, e_X8_waitsPart_91, e_X8_waitsPart_94, e_X8_waitsPart_97, e_X8_waitsPart_98, e_X8_waitsPart_99, e_X8_waitsPart_100, e_X8_waitsPart_103, e_X8_waitsPart_104, e_X8_waitsPart_107, e_X8_waitsPart_108, e_X8_waitsPart_111, e_X8_waitsPart_112, e_X8_waitsPart_113, e_X8_waitsPart_116, e_X8_waitsPart_119, e_X8_waitsPart_120, e_X8_waitsPart_121, e_X8_waitsPart_124, e_X8_waitsPart_125, e_X8_waitsPart_128, e_X8_waitsPart_131, e_X8_waitsPart_132, zfit_b1, Option.bind_some, Option.isSome_some, Option.toList, List.cons_append, List.nil_append, zclr_i, zclr_r, zclr_n, zfit_i, zfit_l, and_self, if_true, if_false]
end TC
