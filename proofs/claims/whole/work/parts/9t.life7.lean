/-! LIVES: when and loop -/
section LP
variable {n m : Nat} {g : Nat → zC} {X X' X1 Y Y' B : Nat → Nat → Int32} {J JY : Nat → Nat → Int64} {N N' N0 S l t s q q' k k' a a0 e i i1 j x1 L d dep w : Nat} {c0 : Nat → Int32} {x : Int32} {y : Option Int32} {over : Bool}
theorem sim_act (hS : Scr B l t s L) (hC : CW B l t s q N S X) (hsim : Sim B s c0 N0 a i) (hN : N0 ≤ N) (hi : i < 30) (ho2 : B (s + 1) a ≠ 26) : B (s + 1) a ≠ 25 ∧ (∃ kd, kd < 7 ∧ c0 (236 + 9 * i) = nI kd) ∧ ActOk n m g c0 l t N S (B (s + 1) a) (B (s + 2) a) (B (s + 3) a) (236 + 9 * i) (zu X l 0 (nI (q + 1))) := by
  obtain ⟨hsc, hl, ht, h60, hL⟩ := hS
  have hW : WT (zu X l 0 (nI (q + 1))) t N S 2999 := hC.1.far (fun i hi => zu_far _ _ _ (life_town hl ht hi).1)
  have hs : ∃ sd, sd < 65536 ∧ zu X l 0 (nI (q + 1)) l 7 = nI sd := by
    rw [zu_row, if_neg (by decide)]
    exact hC.2.2.2.2
  have hw : 234 ≤ 236 + 9 * i ∧ 236 + 9 * i < 520 := by omega
  obtain ⟨_, _, h3⟩ := hsim
  rcases h3 with ⟨e1, e2, k, k1, k2, e3, e4⟩ | ⟨e1, e2, p, hp, e3, e4⟩ | ⟨o, kk, hm, e1, e2, p, p', hp, hp', e3, e4, e5, e6⟩ | ⟨e1, e2⟩ | ⟨e1, e2⟩
  · rw [e1, e3]
    exact ⟨by decide, ⟨0, by decide, e2⟩, al_year hl ht hs hW k1 k2 hw e2 e4⟩
  · rw [e1, e3]
    exact ⟨by decide, ⟨1, by decide, e2⟩, al_die hl ht hs hW (by omega) hw e2 e4⟩
  · rw [e1, e3, e5]
    simp only [List.mem_cons, Prod.mk.injEq, List.not_mem_nil, or_false] at hm
    rcases hm with ⟨rfl, rfl⟩ | ⟨rfl, rfl⟩ | ⟨rfl, rfl⟩ | ⟨rfl, rfl⟩
    · exact ⟨by decide, ⟨2, by decide, e2⟩, al_birth hl ht hs hW (by omega) (by omega) hw e2 e4 e6⟩
    · exact ⟨by decide, ⟨3, by decide, e2⟩, al_wed hl ht hs hW (by omega) (by omega) hw e2 e4 e6⟩
    · exact ⟨by decide, ⟨4, by decide, e2⟩, al_sell hl ht hs hW (by omega) (by omega) hw e2 e4 e6⟩
    · exact ⟨by decide, ⟨5, by decide, e2⟩, al_swap hl ht hs hW (by omega) (by omega) hw e2 e4 e6⟩
  · rw [e1]
    exact ⟨by decide, ⟨6, by decide, e2⟩, al_any hl ht hs hW hw e2⟩
  · exact absurd e1 ho2
/-- a when: what it asks -/
def Ask (X : Nat → Nat → Int32) (s : Nat) (c0 : Nat → Int32) (N S a w : Nat) : Prop := (X (s + 1) a = 21 ∧ c0 (w + 6) = 0 ∧ ∃ p t, p < N ∧ t < S ∧ X (s + 2) a = nI p ∧ c0 (w + 1) = nI p ∧ X (s + 3) a = nI t ∧ c0 (w + 2) = nI t) ∨ (X (s + 1) a = 22 ∧ c0 (w + 6) = 1 ∧ ∃ p, p < N ∧ X (s + 2) a = nI p ∧ c0 (w + 1) = nI p) ∨ (X (s + 1) a = 23 ∧ c0 (w + 6) = 2 ∧ X (s + 4) a = c0 (w + 7) ∧ ∃ t v, t < S ∧ v ≤ 9 ∧ X (s + 2) a = nI t ∧ c0 (w + 1) = nI t ∧ X (s + 3) a = nI v ∧ c0 (w + 2) = nI v)
theorem Ask.far (h : Ask B s c0 N0 S a w) (hN : N0 ≤ N) (hX : ∀ r, r < 6 → X (s + r) = B (s + r)) : Ask X s c0 N S a w := by
  unfold Ask at *
  rw [hX 1 (by decide), hX 2 (by decide), hX 3 (by decide), hX 4 (by decide)]
  rcases h with ⟨h1, h2, p, t, hp, h3⟩ | ⟨h1, h2, p, hp, h3⟩ | h
  · exact .inl ⟨h1, h2, p, t, by omega, h3⟩
  · exact .inr (.inl ⟨h1, h2, p, by omega, h3⟩)
  · exact .inr (.inr h)
theorem Ask.op (h : Ask X s c0 N S a w) : X (s + 1) a ≠ 24 ∧ X (s + 1) a ≠ 25 ∧ X (s + 1) a ≠ 26 := by
  rcases h with ⟨h1, _⟩ | ⟨h1, _⟩ | ⟨h1, _⟩ <;> rw [h1] <;> decide
theorem v_isSo (hW : WT X t N S 2999) (h : LR c0 l t N S X Y) (hw : 234 ≤ w ∧ w < 520) (hA : Ask X s c0 N S a w) (d : Nat) : zcall (d + 3) 400 [.ref 143, .int (nI w)] (mk n m g Y JY) = some (some (.int (bI (lHolds X s t N a))), mk n m g Y JY) := by
  have h12 := hW.h12
  rw [m_X12_isSo]
  unfold lHolds
  rcases hA with ⟨e0, e1, p, u, hp, hu, e2, e3, e4, e5⟩ | ⟨e0, e1, p, hp, e2, e3⟩ | ⟨e0, e1, e6, u, v, hu, hv, e2, e3, e4, e5⟩
  · rw [if_pos e0, e2, nI_clamp (by omega), e4]
    simp only [e_X12_isSo_0, e_X12_isSo_1, e_X12_isSo_4, e_X12_isSo_5, e_X12_isSo_7, e_X12_isSo_8, e_X12_isSo_9, e_X12_isSo_10, e_X12_isSo_11, e_X12_isSo_14, e_X12_isSo_15, e_X12_isSo_16, e_X12_isSo_17, e_X12_isSo_18, e_X12_isSo_19, e_X12_isSo_20, e_X12_isSo_23, e_X12_isSo_24, e_X12_isSo_25, e_X12_isSo_28, e_X12_isSo_31, e_X12_isSo_32, e_X12_isSo_35, e_X12_isSo_37, e_X12_isSo_38, e_X12_isSo_39, e_X12_isSo_40, e_X12_isSo_41, e_X12_isSo_44, e_X12_isSo_45, e_X12_isSo_46, e_X12_isSo_47, e_X12_isSo_48, e_X12_isSo_51, e_X12_isSo_52, e_X12_isSo_55, e_X12_isSo_56, c_143, cA_6, cA_12, cA_18, cA_30, cA_42, cA_54, cA_66, cA_78, cA_90, cA_102, cA_114, cA_126, cA_138, cA_210, cA_222, lc_0, lc_1, lc_2, lc_3, lc_4, lc_5, g_143_20, q_148, nI_neg (show w + 6 < 2 ^ 31 by omega), nI_clamp (show w + 6 < 2 ^ 31 by omega), k_148 (show w + 6 < 2530 by omega), l_148 (show w + 6 < 2530 by omega), nI_neg (show w + 1 < 2 ^ 31 by omega), nI_clamp (show w + 1 < 2 ^ 31 by omega), k_148 (show w + 1 < 2530 by omega), l_148 (show w + 1 < 2530 by omega), nI_neg (show w + 2 < 2 ^ 31 by omega), nI_clamp (show w + 2 < 2 ^ 31 by omega), k_148 (show w + 2 < 2530 by omega), l_148 (show w + 2 < 2530 by omega), nI_neg (show 30 + p < 2 ^ 31 by omega), nI_clamp (show 30 + p < 2 ^ 31 by omega), k_148 (show 30 + p < 2530 by omega), l_148 (show 30 + p < 2530 by omega), nI_1, nI_p2, nI_p6, h.rd (show 234 ≤ w + 6 by omega), h.rd (show 234 ≤ w + 1 by omega), h.rd (show 234 ≤ w + 2 by omega), e1, e3, e5, ne_eq, not_true, v_lives hW h.1 hp, h.1.bears p hp, Option.bind_some, Option.isSome_some, Option.toList, List.cons_append, List.nil_append, zclr_i, zclr_r, zclr_n, zfit_i, zfit_l, and_self, if_true, if_false]
    by_cases c1 : X (t + 6) p = -1
    · by_cases c2 : X (t + 7) p = nI u
      · simp [c1, c2, bI, zfit_b1]
      · simp [c1, c2, bI, zfit_b0]
    · simp [c1, bI, zfit_b0]
  · rw [if_neg (by rw [e0]; decide), if_pos e0, e2, nI_clamp (by omega)]
    simp only [e_X12_isSo_0, e_X12_isSo_1, e_X12_isSo_4, e_X12_isSo_5, e_X12_isSo_7, e_X12_isSo_8, e_X12_isSo_9, e_X12_isSo_10, e_X12_isSo_11, e_X12_isSo_14, e_X12_isSo_15, e_X12_isSo_16, e_X12_isSo_17, e_X12_isSo_18, e_X12_isSo_19, e_X12_isSo_20, e_X12_isSo_57, e_X12_isSo_58, e_X12_isSo_59, e_X12_isSo_62, e_X12_isSo_63, e_X12_isSo_64, e_X12_isSo_67, e_X12_isSo_70, e_X12_isSo_71, e_X12_isSo_74, e_X12_isSo_76, e_X12_isSo_77, e_X12_isSo_78, e_X12_isSo_79, e_X12_isSo_82, e_X12_isSo_83, e_X12_isSo_86, e_X12_isSo_87, c_143, cA_6, cA_12, cA_18, cA_30, cA_42, cA_54, cA_66, cA_78, cA_90, cA_102, cA_114, cA_126, cA_138, cA_210, cA_222, lc_0, lc_1, lc_2, lc_3, lc_4, lc_5, g_143_20, q_148, nI_neg (show w + 6 < 2 ^ 31 by omega), nI_clamp (show w + 6 < 2 ^ 31 by omega), k_148 (show w + 6 < 2530 by omega), l_148 (show w + 6 < 2530 by omega), nI_neg (show w + 1 < 2 ^ 31 by omega), nI_clamp (show w + 1 < 2 ^ 31 by omega), k_148 (show w + 1 < 2530 by omega), l_148 (show w + 1 < 2530 by omega), nI_neg (show 30 + p < 2 ^ 31 by omega), nI_clamp (show 30 + p < 2 ^ 31 by omega), k_148 (show 30 + p < 2530 by omega), l_148 (show 30 + p < 2530 by omega), nI_1, nI_p6, h.rd (show 234 ≤ w + 6 by omega), h.rd (show 234 ≤ w + 1 by omega), e1, e3, show ((1 : Int32) = 0) = False by decide, ne_eq, not_true, not_false_eq_true, v_lives hW h.1 hp, h.1.bears p hp, Option.bind_some, Option.isSome_some, Option.toList, List.cons_append, List.nil_append, zclr_i, zclr_r, zclr_n, zfit_i, zfit_l, and_self, if_true, if_false]
    by_cases c1 : X (t + 6) p = -1
    · by_cases c2 : X (t + 7) p = -1
      · simp [c1, c2, bI, zfit_b1]
      · have c3 : 0 ≤ X (t + 7) p := by rw [hW.bears0 hp]; exact c2
        simp [c1, c2, c3, bI, zfit_b0]
    · simp [c1, bI, zfit_b0]
  · rw [if_neg (by rw [e0]; decide), if_neg (by rw [e0]; decide), e2, e4, e6]
    simp only [e_X12_isSo_0, e_X12_isSo_1, e_X12_isSo_4, e_X12_isSo_5, e_X12_isSo_7, e_X12_isSo_8, e_X12_isSo_9, e_X12_isSo_10, e_X12_isSo_11, e_X12_isSo_14, e_X12_isSo_15, e_X12_isSo_16, e_X12_isSo_17, e_X12_isSo_18, e_X12_isSo_19, e_X12_isSo_20, e_X12_isSo_57, e_X12_isSo_58, e_X12_isSo_59, e_X12_isSo_88, e_X12_isSo_89, e_X12_isSo_90, e_X12_isSo_93, e_X12_isSo_95, e_X12_isSo_96, e_X12_isSo_99, e_X12_isSo_100, e_X12_isSo_102, e_X12_isSo_103, e_X12_isSo_104, e_X12_isSo_106, e_X12_isSo_109, e_X12_isSo_111, e_X12_isSo_112, e_X12_isSo_115, e_X12_isSo_116, e_X12_isSo_117, e_X12_isSo_118, e_X12_isSo_119, e_X12_isSo_122, e_X12_isSo_123, e_X12_isSo_126, e_X12_isSo_127, e_X12_isSo_130, e_X12_isSo_131, e_X12_isSo_134, e_X12_isSo_135, e_X12_isSo_137, e_X12_isSo_138, e_X12_isSo_139, e_X12_isSo_141, e_X12_isSo_144, e_X12_isSo_146, e_X12_isSo_147, e_X12_isSo_150, e_X12_isSo_151, e_X12_isSo_152, e_X12_isSo_153, e_X12_isSo_154, e_X12_isSo_157, e_X12_isSo_158, e_X12_isSo_161, e_X12_isSo_162, e_X12_isSo_165, e_X12_isSo_167, e_X12_isSo_168, e_X12_isSo_171, e_X12_isSo_172, e_X12_isSo_173, e_X12_isSo_174, e_X12_isSo_175, e_X12_isSo_178, e_X12_isSo_179, e_X12_isSo_182, e_X12_isSo_183, c_143, cA_6, cA_12, cA_18, cA_30, cA_42, cA_54, cA_66, cA_78, cA_90, cA_102, cA_114, cA_126, cA_138, cA_210, cA_222, lc_0, lc_1, lc_2, lc_3, lc_4, lc_5, g_143_20, q_148, nI_neg (show w + 6 < 2 ^ 31 by omega), nI_clamp (show w + 6 < 2 ^ 31 by omega), k_148 (show w + 6 < 2530 by omega), l_148 (show w + 6 < 2530 by omega), nI_neg (show w + 1 < 2 ^ 31 by omega), nI_clamp (show w + 1 < 2 ^ 31 by omega), k_148 (show w + 1 < 2530 by omega), l_148 (show w + 1 < 2530 by omega), nI_neg (show w + 2 < 2 ^ 31 by omega), nI_clamp (show w + 2 < 2 ^ 31 by omega), k_148 (show w + 2 < 2530 by omega), l_148 (show w + 2 < 2530 by omega), nI_neg (show w + 7 < 2 ^ 31 by omega), nI_clamp (show w + 7 < 2 ^ 31 by omega), k_148 (show w + 7 < 2530 by omega), l_148 (show w + 7 < 2530 by omega), nI_1, nI_p2, nI_p6, nI_p7, h.rd (show 234 ≤ w + 6 by omega), h.rd (show 234 ≤ w + 1 by omega), h.rd (show 234 ≤ w + 2 by omega), h.rd (show 234 ≤ w + 7 by omega), e1, e3, e5, show ((2 : Int32) = 0) = False by decide, show ((2 : Int32) = 1) = False by decide, ne_eq, not_false_eq_true, v_freeOf hW h.1, Option.bind_some, Option.isSome_some, Option.toList, List.cons_append, List.nil_append, zclr_i, zclr_r, zclr_n, zfit_i, zfit_l, and_self, if_true, if_false]
    unfold lCmp
    by_cases c1 : c0 (w + 7) = 60
    · by_cases c2 : tFr X t (nI u) N < nI v
      · simp [c1, c2, Int32.not_le.mpr c2, bI, zfit_b1]
      · simp [c1, c2, Int32.not_lt.mp c2, bI, zfit_b0]
    · by_cases c3 : c0 (w + 7) = 62
      · by_cases c2 : nI v < tFr X t (nI u) N
        · simp [c3, c2, Int32.not_le.mpr c2, bI, zfit_b1]
        · simp [c3, c2, Int32.not_lt.mp c2, bI, zfit_b0]
      · by_cases c2 : tFr X t (nI u) N = nI v <;> simp [c1, c2, c3, bI, zfit_b0, zfit_b1]
theorem v_one_when {Y2 : Nat → Nat → Int32} {J2 : Nat → Nat → Int64} (hi : i < 30) (hq : q < 300) (h : Y 143 37 = nI q) (hw : Y 148 (236 + 9 * i) = 7) (hw8 : Y 148 (236 + 9 * i + 8) = nI i1) (d : Nat) (hso : zcall d 400 [.ref 143, .int (nI (236 + 9 * i))] (mk n m g (zu Y 143 37 (nI (q + 1))) JY) = some (some (.int 1), mk n m g (zu Y 143 37 (nI (q + 1))) JY)) (hda : zcall d 402 [.ref 143, .int (nI (i + 1)), .int (nI i1)] (mk n m g (zu Y 143 37 (nI (q + 1))) JY) = some (none, mk n m g Y2 J2)) : zcall (d + 1) 401 [.ref 143, .int (nI i)] (mk n m g Y JY) = some (none, mk n m g Y2 J2) := by
  have hne : ¬ nI q = 300 := fun e => by
    have : q = 300 := nI_inj (by omega) (by decide) e
    omega
  have h148 : zu Y 143 37 (nI (q + 1)) 148 (236 + 9 * i) = 7 := by rw [zu_far _ _ _ (by decide)]; exact hw
  have h1488 : zu Y 143 37 (nI (q + 1)) 148 (236 + 9 * i + 8) = nI i1 := by rw [zu_far _ _ _ (by decide)]; exact hw8
  rw [m_X12_doOne]
  simp only [e_X12_doOne_0, e_X12_doOne_1, e_X12_doOne_4, e_X12_doOne_7, e_X12_doOne_21, e_X12_doOne_22, e_X12_doOne_23, e_X12_doOne_26, e_X12_doOne_27, e_X12_doOne_28, e_X12_doOne_31, e_X12_doOne_34, e_X12_doOne_36, e_X12_doOne_37, e_X12_doOne_38, e_X12_doOne_39, e_X12_doOne_40, e_X12_doOne_41, e_X12_doOne_44, e_X12_doOne_45, e_X12_doOne_46, e_X12_doOne_47, e_X12_doOne_48, e_X12_doOne_50, e_X12_doOne_78, e_X12_doOne_79, e_X12_doOne_81, e_X12_doOne_84, e_X12_doOne_85, e_X12_doOne_86, e_X12_doOne_89, e_X12_doOne_92, e_X12_doOne_93, e_X12_doOne_94, e_X12_doOne_95, e_X12_doOne_96, e_X12_doOne_97, e_X12_doOne_100, e_X12_doOne_101, e_X12_doOne_103, e_X12_doOne_104, e_X12_doOne_105, e_X12_doOne_108, e_X12_doOne_176, c_143, cA_6, cA_12, cA_18, cA_30, cA_42, cA_54, cA_66, cA_78, cA_90, cA_102, cA_114, cA_126, cA_138, cA_210, cA_222, lc_0, lc_1, lc_2, lc_3, lc_4, lc_5, g_143_20, q_148, nI_neg (show 236 + 9 * i < 2 ^ 31 by omega), nI_clamp (show 236 + 9 * i < 2 ^ 31 by omega), k_148 (show 236 + 9 * i < 2530 by omega), l_148 (show 236 + 9 * i < 2530 by omega), nI_neg (show 236 + 9 * i + 8 < 2 ^ 31 by omega), nI_clamp (show 236 + 9 * i + 8 < 2 ^ 31 by omega), k_148 (show 236 + 9 * i + 8 < 2530 by omega), l_148 (show 236 + 9 * i + 8 < 2530 by omega), wI, nI_p8, g_143_37, p_143_37, h, hne, ne_eq, not_false_eq_true, not_true, nI_1, h148, h1488, if_pos (show (7 : Int32) ≤ 7 by decide), hso, hda, show ((1 : Int32) = 0) = False by decide, Option.bind_some, Option.isSome_some, Option.toList, List.cons_append, List.nil_append, zclr_i, zclr_r, zclr_n, zfit_i, zfit_l, and_self, if_true, if_false]
theorem v_one_skip (hi : i < 30) (hq : q < 300) (h : Y 143 37 = nI q) (hw : Y 148 (236 + 9 * i) = 7) (d : Nat) (hso : zcall d 400 [.ref 143, .int (nI (236 + 9 * i))] (mk n m g (zu Y 143 37 (nI (q + 1))) JY) = some (some (.int 0), mk n m g (zu Y 143 37 (nI (q + 1))) JY)) : zcall (d + 1) 401 [.ref 143, .int (nI i)] (mk n m g Y JY) = some (none, mk n m g (zu Y 143 37 (nI (q + 1))) JY) := by
  have hne : ¬ nI q = 300 := fun e => by
    have : q = 300 := nI_inj (by omega) (by decide) e
    omega
  have h148 : zu Y 143 37 (nI (q + 1)) 148 (236 + 9 * i) = 7 := by rw [zu_far _ _ _ (by decide)]; exact hw
  rw [m_X12_doOne]
  simp only [e_X12_doOne_0, e_X12_doOne_1, e_X12_doOne_4, e_X12_doOne_7, e_X12_doOne_21, e_X12_doOne_22, e_X12_doOne_23, e_X12_doOne_26, e_X12_doOne_27, e_X12_doOne_28, e_X12_doOne_31, e_X12_doOne_34, e_X12_doOne_36, e_X12_doOne_37, e_X12_doOne_38, e_X12_doOne_39, e_X12_doOne_40, e_X12_doOne_41, e_X12_doOne_44, e_X12_doOne_45, e_X12_doOne_46, e_X12_doOne_47, e_X12_doOne_48, e_X12_doOne_50, e_X12_doOne_78, e_X12_doOne_79, e_X12_doOne_81, e_X12_doOne_84, e_X12_doOne_85, e_X12_doOne_86, e_X12_doOne_89, e_X12_doOne_111, e_X12_doOne_112, e_X12_doOne_114, e_X12_doOne_165, e_X12_doOne_166, e_X12_doOne_168, e_X12_doOne_171, e_X12_doOne_172, e_X12_doOne_173, e_X12_doOne_176, c_143, cA_6, cA_12, cA_18, cA_30, cA_42, cA_54, cA_66, cA_78, cA_90, cA_102, cA_114, cA_126, cA_138, cA_210, cA_222, lc_0, lc_1, lc_2, lc_3, lc_4, lc_5, g_143_20, q_148, nI_neg (show 236 + 9 * i < 2 ^ 31 by omega), nI_clamp (show 236 + 9 * i < 2 ^ 31 by omega), k_148 (show 236 + 9 * i < 2530 by omega), l_148 (show 236 + 9 * i < 2530 by omega), wI, g_143_37, p_143_37, h, hne, ne_eq, not_false_eq_true, not_true, nI_1, h148, if_pos (show (7 : Int32) ≤ 7 by decide), hso, show ((7 : Int32) = 8) = False by decide, if_pos (show (7 : Int32) ≤ 8 by decide), Option.bind_some, Option.isSome_some, Option.toList, List.cons_append, List.nil_append, zclr_i, zclr_r, zclr_n, zfit_i, zfit_l, and_self, if_true, if_false]
theorem cost2 {P Q : Nat} (h : k' ≤ k + 1 + (1 + dep) * (q' - (q + 1))) (hq : q + 1 ≤ q') : k' + 1 ≤ k + (1 + (dep + 1)) * (q' - q) := by
  obtain ⟨z, rfl⟩ : ∃ z, q' = q + 1 + z := ⟨q' - (q + 1), by omega⟩
  have e1 : q + 1 + z - (q + 1) = z := by omega
  have e2 : q + 1 + z - q = z + 1 := by omega
  rw [e1] at h
  rw [e2, Nat.mul_add, Nat.mul_one, show 1 + (dep + 1) = (1 + dep) + 1 from by omega, Nat.add_mul, Nat.one_mul]
  omega
theorem cost3 (h : k' ≤ k + (1 + dep) * (q' - q)) (hq : q < q') : k' + 1 ≤ k + (1 + (dep + 1)) * (q' - q) := by
  rw [show 1 + (dep + 1) = (1 + dep) + 1 from by omega, Nat.add_mul, Nat.one_mul]
  omega
theorem one_when (hS : Scr B l t s L) (hC : CW B l t s q N S X) (hq : q < 300) (hdep : dep + 1 ≤ 3) (hb : k + 4 * (300 - q) ≤ 1200) (ha : a < L) (hi : i < 30) (hx1 : x1 < L) (hm : B (s + 5) a = nI x1) (hoe : B (s + 1) x1 = 25) (hme : B (s + 5) x1 = nI a) (hc : c0 (236 + 9 * i) = 7) (hc8 : c0 (236 + 9 * i + 8) = nI i1) (hA : Ask B s c0 N0 S a (236 + 9 * i)) (hN : N0 ≤ N) (hax : a < x1) (hbody : ∀ q' N' k' X', CW B l t s q' N' S X' → N ≤ N' → k' + 4 * (300 - q') ≤ 1200 → Run n m g B c0 l t s S x d dep (a + 1) x1 (i + 1) i1 q' N' k' X') : One n m g B c0 l t s S x d (dep + 1) a (x1 + 1) i q N k X := by
  have hS0 := hS
  obtain ⟨hsc, hl, ht, h60, hL⟩ := hS
  obtain ⟨lo, lo1⟩ := lif_out hl ht
  obtain ⟨X1, eX1⟩ : ∃ X1, X1 = zu X l 0 (nI (q + 1)) := ⟨_, rfl⟩
  have hX : ∀ r, r < 6 → X (s + r) = B (s + r) := hC.2.1
  have hxf : XF l t X X1 := by rw [eX1]; exact XF.rfl'.wr
  have hW1 : WT X1 t N S 2999 := by rw [eX1]; exact hC.1.far (fun i hi => zu_far _ _ _ (life_town hl ht hi).1)
  have hl1 : ∀ k, k ≠ 0 → X1 l k = X l k := fun k hk => by rw [eX1, zu_row, if_neg hk]
  have hl11 : X1 (l + 1) = X (l + 1) := by rw [eX1, zu_far _ _ _ (by omega)]
  have hC1 : CW B l t s (q + 1) N S X1 := hC.next hsc hl ht hxf hW1 (by rw [eX1, zu_row, if_pos rfl]) (by omega) (by rw [hl1 7 (by decide)]; exact hC.2.2.2.2)
  have hX1 : ∀ r, r < 6 → X1 (s + r) = B (s + r) := hC1.2.1
  have hA1 : Ask X1 s c0 N S a (236 + 9 * i) := hA.far hN hX1
  obtain ⟨o24, o25, o26⟩ := hA.op
  have hs2 : X s 2 = nI L := by rw [show X s = B s from hX 0 (by decide)]; exact hL
  have hp : X (s + 1) a = 21 ∨ X (s + 1) a = 22 → ∃ p, p < 12 ∧ X (s + 2) a = nI p := by
    have h12 := hC.1.h12
    rw [hX 1 (by decide), hX 2 (by decide)]
    intro h
    rcases hA with ⟨_, _, p, u, hp, _, e2, _⟩ | ⟨_, _, p, hp, e2, _⟩ | ⟨e0, _⟩
    · exact ⟨p, by omega, e2⟩
    · exact ⟨p, by omega, e2⟩
    · rw [e0] at h
      rcases h with h | h <;> exact absurd h (by decide)
  have hit : ∀ (a' : Nat), lIn X1 s t N a = nI a' → ∀ J y, hdX n m g l s t x d a k y X J = hdX n m g l s t x d a' (k + 1) (some (X (s + 1) a)) X1 J := by
    intro a' hin J y
    have := it_head (n := n) (m := m) (g := g) (x := x) (d := d) (y := y) (J := J) hl ht hsc hC.1.hN hC.1.h12 (show k < 1500 by omega) ha h60 hs2 (by rw [hX 1 (by decide)]; exact o25) (by rw [hX 1 (by decide)]; exact o26) hq hC.2.2.1 (by rw [hX 5 (by decide), hm]; exact nI_m1 (by omega)) hp eX1 (fun r hr => by rw [hX1 r hr, hX r hr]) hW1.hN hin
    rw [if_neg (by rw [hX 1 (by decide)]; exact o24)] at this
    exact this
  have h24 : ¬ X1 (s + 1) a = 24 := by rw [hX1 1 (by decide)]; exact o24
  have hY : ∀ Y, LR c0 l t N S X Y → Y 143 35 = 0 → LR c0 l t N S X1 (zu Y 143 37 (nI (q + 1))) ∧ Y 143 37 = nI q ∧ Y 148 (236 + 9 * i) = 7 ∧ Y 148 (236 + 9 * i + 8) = nI i1 ∧ zu Y 143 37 (nI (q + 1)) 143 35 = 0 := fun Y h h35 => ⟨by rw [eX1]; exact h.set hl ht (by omega) _, by rw [h.2.2.2.1, hC.2.2.1], by rw [h.rd (by omega)]; exact hc, by rw [h.rd (by omega)]; exact hc8, by rw [zu_row, if_neg (by decide)]; exact h35⟩
  cases hh : lHolds X1 s t N a with
  | false =>
    have hin : lIn X1 s t N a = nI (x1 + 1) := by
      unfold lIn
      rw [if_neg h24, hh, if_neg (by decide), hX1 5 (by decide), hm, nI_1]
    refine ⟨false, X1, N, q + 1, k + 1, ⟨Nat.le_refl N, by omega, ?_, hC1, hxf, hl1 6 (by decide), .inl (hl1 5 (by decide)), fun z _ => by rw [hl11], fun J y => ⟨some (X (s + 1) a), by rw [if_neg (by decide), jb_id]; exact hit _ hin J y⟩⟩, fun _ => by omega, fun D Y JY h h35 => ?_⟩
    · have : q + 1 - q = 1 := by omega
      rw [this]
      omega
    · obtain ⟨y1, y2, y3, y4, y5⟩ := hY Y h h35
      have hso := v_isSo (n := n) (m := m) (g := g) (JY := JY) hW1 y1 (show 234 ≤ 236 + 9 * i ∧ 236 + 9 * i < 520 by omega) hA1 (D + 2 * dep + 7)
      rw [hh] at hso
      refine ⟨zu Y 143 37 (nI (q + 1)), ?_, y1, y5, YF.rfl'.wr (by decide) (by decide)⟩
      rw [jy_id]
      exact v_one_skip hi hq y2 y3 (D + 2 * (dep + 1) + 8) hso
  | true =>
    have hin : lIn X1 s t N a = nI (a + 1) := by
      unfold lIn
      rw [if_neg h24, hh, if_pos rfl]
    obtain ⟨over, X2, N2, q2, k2, ⟨r1, r2, r3, r4, r5, r6, r7, r8, r9⟩, p1, p2⟩ := hbody (q + 1) N (k + 1) X1 hC1 (Nat.le_refl N) (by omega)
    have href : ∀ D, RefX n m g c0 l t S N N2 X X2 over (fun Y JY => zcall (D + 2 * (dep + 1) + 9) 401 [.ref 143, .int (nI i)] (mk n m g Y JY)) := by
      intro D Y JY h h35
      obtain ⟨y1, y2, y3, y4, y5⟩ := hY Y h h35
      have hso := v_isSo (n := n) (m := m) (g := g) (JY := JY) hW1 y1 (show 234 ≤ 236 + 9 * i ∧ 236 + 9 * i < 520 by omega) hA1 (D + 2 * dep + 7)
      rw [hh] at hso
      obtain ⟨Y2, b1, b2, b3, b4⟩ := p2 D (nI (i + 1)) (zu Y 143 37 (nI (q + 1))) JY y1 y5
      have hda : zcall (D + 2 * dep + 10) 402 [.ref 143, .int (nI (i + 1)), .int (nI i1)] (mk n m g (zu Y 143 37 (nI (q + 1))) JY) = some (none, mk n m g Y2 (jy JY N N2)) := by
        rw [m_X12_doAll]
        simp only [e_X12_doAll_0, e_X12_doAll_1, Option.bind_some, Option.isSome_some, Option.toList, List.cons_append, List.nil_append, zclr_i, zclr_r, zclr_n, zfit_i, zfit_l, and_self, if_true, if_false]
        exact b1
      exact ⟨Y2, v_one_when hi hq y2 y3 y4 (D + 2 * (dep + 1) + 8) hso hda, b2, b3, YF.trans (YF.rfl'.wr (by decide) (by decide)) b4⟩
    have h7 : X2 l 5 = X l 5 ∨ X2 l 5 = 1 := by
      rcases r7 with h | h
      · exact .inl (by rw [h, hl1 5 (by decide)])
      · exact .inr h
    cases over with
    | true =>
      refine ⟨true, X2, N2, q2, k2, ⟨r1, by omega, by have := cost2 (P := 0) (Q := 0) r3 r2; omega, r4, hxf.trans r5, by rw [r6, hl1 6 (by decide)], h7, fun z hz => by rw [r8 z (by omega), hl11], fun J y => ?_⟩, fun h => (by cases h), href⟩
      obtain ⟨y2, e2⟩ := r9 J (some (X (s + 1) a))
      rw [if_pos rfl] at e2
      exact ⟨y2, by rw [if_pos rfl, hit _ hin J y]; exact e2⟩
    | false =>
      have hX2 : ∀ r, r < 6 → X2 (s + r) = B (s + r) := r4.2.1
      have hk2 : k2 < 1500 := by
        have := bud (by omega : dep ≤ 3) (show k + 1 + 4 * (300 - (q + 1)) ≤ 1200 by omega) r2 r4.2.2.2.1 r3
        omega
      refine ⟨false, X2, N2, q2, k2 + 1, ⟨r1, by omega, cost2 (P := 0) (Q := 0) r3 r2, r4, hxf.trans r5, by rw [r6, hl1 6 (by decide)], h7, fun z hz => by rw [r8 z (by omega), hl11], fun J y => ?_⟩, fun _ => by omega, href⟩
      obtain ⟨y2, e2⟩ := r9 J (some (X (s + 1) a))
      rw [if_neg (by decide)] at e2
      have he := it_end (n := n) (m := m) (g := g) (X := X2) (t := t) (x := x) (d := d) (y := y2) (J := jb J t N N2) (k := k2) (b0 := a) hl hsc hk2 hx1 h60 (by rw [show X2 s = B s from hX2 0 (by decide)]; exact hL) (by rw [hX2 1 (by decide)]; exact hoe) (by omega) (by rw [hX2 5 (by decide)]; exact hme)
      have hno : ¬ (X2 (s + 1) a = 24 ∧ 1 < X2 (l + 1) a) := fun h => by
        rw [hX2 1 (by decide)] at h
        exact o24 h.1
      rw [if_neg hno, if_neg hno] at he
      exact ⟨some 25, by rw [if_neg (by decide), hit _ hin J y]; exact e2.trans he⟩
end LP
