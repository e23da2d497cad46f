/-! THE YEARS -/
section YR
variable {n m : Nat} {g : Nat → zC} {I : Nat → Nat → Int32} {J : Nat → Nat → Int64}
def tWed (I : Nat → Nat → Int32) (b N : Nat) : Prop := ∀ p, p < N → I (b + 9) p = -1 ∨ ∃ q, q < 12 ∧ I (b + 9) p = nI q
/-- what a town is so that a year can pass -/
def yWell (I : Nat → Nat → Int32) (b N : Nat) : Prop := I b 4 = nI N ∧ qWell I b ∧ tWed I b N
theorem qWell_far {I I' : Nat → Nat → Int32} {b : Nat} (h14 : I' (b + 14) = I (b + 14)) (h15 : I' (b + 15) = I (b + 15)) (h : qWell I b) : qWell I' b := by
  obtain ⟨Q, h1, h2, h3⟩ := h
  exact ⟨Q, h1, by rw [h14]; exact h2, fun k hk => by rw [h15]; exact h3 k hk⟩
theorem tDiv_far {b a p : Nat} (h9 : a ≠ b + 9) : tDiv I b p a = I a := by
  unfold tDiv
  split
  · rfl
  · rw [zu_far _ _ _ h9, zu_far _ _ _ h9]
theorem tBury_far {b a Q p : Nat} (h6 : a ≠ b + 6) (h9 : a ≠ b + 9) (h11 : a ≠ b + 11) (h14 : a ≠ b + 14) (h15 : a ≠ b + 15) (h16 : a ≠ b + 16) : tBury I b Q p a = I a := by
  unfold tBury
  rw [tDiv_far h9, qPress_far _ h14 h15 h16, zu_far _ _ _ h11, zu_far _ _ _ h6]
theorem tBury_9 {b Q p : Nat} : tBury I b Q p (b + 9) = tDiv I b p (b + 9) := by
  unfold tBury tDiv
  have e : ∀ c, qPress c b Q (zu (zu I (b + 6) p (I b 0)) (b + 11) p (-1)) (b + 9) = I (b + 9) := fun c => by
    rw [qPress_far c (by omega) (by omega) (by omega), zu_far _ _ _ (by omega), zu_far _ _ _ (by omega)]
  rw [e]
  split
  · exact e _
  · funext k
    simp only [zu_row, e]
theorem tDiv_9 {b p j : Nat} : tDiv I b p (b + 9) j = I (b + 9) j ∨ tDiv I b p (b + 9) j = -1 := by
  unfold tDiv
  split
  · exact .inl rfl
  · simp only [zu_row]
    split
    · exact .inr rfl
    · split
      · exact .inr rfl
      · exact .inl rfl
theorem tBury_well {b p N : Nat} (h : yWell I b N) : yWell (tBury I b (qN I b) p) b N := by
  obtain ⟨h1, h2, h3⟩ := h
  obtain ⟨h4, h5, h6⟩ := qWell_N h2
  refine ⟨by rw [tBury_far (by omega) (by omega) (by omega) (by omega) (by omega) (by omega)]; exact h1, ?_, ?_⟩
  · unfold tBury
    refine qWell_far (tDiv_far (by omega)) (tDiv_far (by omega)) ?_
    refine qPress_well _ (fun e => decide (e.1 ≠ nI p)) (fun _ _ _ => rfl) h4 ?_
    intro k hk
    rw [zu_far _ _ _ (by omega), zu_far _ _ _ (by omega)]
    exact h6 k hk
  · intro q hq
    rw [tBury_9]
    rcases tDiv_9 (I := I) (b := b) (p := p) (j := q) with e | e
    · rw [e]
      exact h3 q hq
    · exact .inl e
def yDie (b p : Nat) (x : Int32 × (Nat → Nat → Int32)) : Int32 × (Nat → Nat → Int32) := if x.2 (b + 6) p = -1 ∧ x.2 b 5 >>> (nI p &&& 31) &&& 1 = 0 ∧ x.2 b 2 ≤ x.2 b 0 - x.2 (b + 5) p then (x.1 ||| bt p, tBury x.2 b (qN x.2 b) p) else x
def yLapse (b p : Nat) (I : Nat → Nat → Int32) : Nat → Nat → Int32 := if I (b + 11) p ≠ -1 ∧ 7 ≤ I b 0 - I (b + 11) p then zu I (b + 7) p (-1) else I
/-- those who died in the year, and what the town is then -/
def yDead (I : Nat → Nat → Int32) (b N : Nat) : Int32 × (Nat → Nat → Int32) := zfor (yDie b) 0 N (0, zu I b 0 (I b 0 + 1))
def tYear (I : Nat → Nat → Int32) (b N : Nat) : Nat → Nat → Int32 := tSettle (zfor (yLapse b) 0 N (yDead I b N).2) b N
theorem yDie_well {b p N : Nat} {x : Int32 × (Nat → Nat → Int32)} (h : yWell x.2 b N) : yWell (yDie b p x).2 b N := by
  unfold yDie
  split
  · exact tBury_well h
  · exact h
theorem yLapse_well {b p N : Nat} (h : yWell I b N) : yWell (yLapse b p I) b N := by
  unfold yLapse
  split
  · obtain ⟨h1, h2, h3⟩ := h
    refine ⟨by rw [zu_far _ _ _ (by omega)]; exact h1, qWell_far (zu_far _ _ _ (by omega)) (zu_far _ _ _ (by omega)) h2, ?_⟩
    intro q hq
    rw [zu_far _ _ _ (by omega)]
    exact h3 q hq
  · exact h
theorem yPut_well {b N k : Nat} {x : Int32} (hk : k ≠ 4) (h : yWell I b N) : yWell (zu I b k x) b N := by
  obtain ⟨h1, h2, h3⟩ := h
  refine ⟨by rw [zu_row, if_neg (Ne.symm hk)]; exact h1, qWell_far (zu_far _ _ _ (by omega)) (zu_far _ _ _ (by omega)) h2, ?_⟩
  intro q hq
  rw [zu_far _ _ _ (by omega)]
  exact h3 q hq
theorem t_passYear {b N : Nat} (hb : isTown b) (h12 : N ≤ 12) (hw : yWell I b N) (d : Nat) : zcall (d + 2) 104 [.ref b] (mk n m g I J) = some (some (.int (yDead I b N).1), mk n m g (tYear I b N) J) := by
  rw [m_X7_passYear]
  simp only [e_X7_passYear_0, e_X7_passYear_1, e_X7_passYear_2, e_X7_passYear_5, e_X7_passYear_6, e_X7_passYear_7, e_X7_passYear_10, e_X7_passYear_11, e_X7_passYear_12, e_X7_passYear_13, e_X7_passYear_15, e_X7_passYear_16, e_X7_passYear_19, e_X7_passYear_22, e_X7_passYear_23, e_X7_passYear_24, e_X7_passYear_27, e_X7_passYear_30, e_X7_passYear_31, e_X7_passYear_34, e_X7_passYear_35, e_X7_passYear_36, e_X7_passYear_37, e_X7_passYear_38, e_X7_passYear_41, e_X7_passYear_42, e_X7_passYear_43, e_X7_passYear_46, e_X7_passYear_47, e_X7_passYear_50, e_X7_passYear_53, e_X7_passYear_54, e_X7_passYear_55, e_X7_passYear_58, e_X7_passYear_59, e_X7_passYear_60, e_X7_passYear_61, e_X7_passYear_62, e_X7_passYear_63, e_X7_passYear_64, e_X7_passYear_67, e_X7_passYear_70, e_X7_passYear_71, e_X7_passYear_73, e_X7_passYear_74, e_X7_passYear_77, e_X7_passYear_80, e_X7_passYear_81, e_X7_passYear_82, e_X7_passYear_85, e_X7_passYear_88, e_X7_passYear_89, e_X7_passYear_92, e_X7_passYear_93, e_X7_passYear_96, e_X7_passYear_97, e_X7_passYear_98, e_X7_passYear_99, e_X7_passYear_101, e_X7_passYear_104, e_X7_passYear_105, e_X7_passYear_108, e_X7_passYear_109, e_X7_passYear_110, e_X7_passYear_111, e_X7_passYear_114, e_X7_passYear_117, e_X7_passYear_118, e_X7_passYear_121, e_X7_passYear_122, g_T0_0 hb, p_T0_0 hb, Option.bind_some, Option.isSome_some, Option.toList, List.cons_append, List.nil_append, zclr_i, zclr_r, zclr_n, zfit_i, zfit_l, and_self, if_true, if_false]
  have h := zloopI (fun p (x : Int32 × (Nat → Nat → Int32)) => zexec (d + 2) 104 14 [some (.ref b), some (.int x.1), some (.int (nI p))] [] (mk n m g x.2 J)) (yDie b) (fun _ x => yWell x.2 b N) N ?_ N 0 (0, zu I b 0 (I b 0 + 1)) (by omega) (yPut_well (by decide) hw)
  · refine h.1.trans ?_
    have hw2 : yWell (yDead I b N).2 b N := h.2
    show zexec (d + 2) 104 14 [some (.ref b), some (.int (yDead I b N).1), some (.int (nI N))] [] (mk n m g (yDead I b N).2 J) = _
    unfold tYear
    generalize yDead I b N = y at hw2 ⊢
    rw [e_X7_passYear_14]
    simp only [e_X7_passYear_0, e_X7_passYear_1, e_X7_passYear_2, e_X7_passYear_5, e_X7_passYear_6, e_X7_passYear_7, e_X7_passYear_10, e_X7_passYear_11, e_X7_passYear_12, e_X7_passYear_13, e_X7_passYear_15, e_X7_passYear_16, e_X7_passYear_19, e_X7_passYear_22, e_X7_passYear_23, e_X7_passYear_24, e_X7_passYear_27, e_X7_passYear_30, e_X7_passYear_31, e_X7_passYear_34, e_X7_passYear_35, e_X7_passYear_36, e_X7_passYear_37, e_X7_passYear_38, e_X7_passYear_41, e_X7_passYear_42, e_X7_passYear_43, e_X7_passYear_46, e_X7_passYear_47, e_X7_passYear_50, e_X7_passYear_53, e_X7_passYear_54, e_X7_passYear_55, e_X7_passYear_58, e_X7_passYear_59, e_X7_passYear_60, e_X7_passYear_61, e_X7_passYear_62, e_X7_passYear_63, e_X7_passYear_64, e_X7_passYear_67, e_X7_passYear_70, e_X7_passYear_71, e_X7_passYear_73, e_X7_passYear_74, e_X7_passYear_77, e_X7_passYear_80, e_X7_passYear_81, e_X7_passYear_82, e_X7_passYear_85, e_X7_passYear_88, e_X7_passYear_89, e_X7_passYear_92, e_X7_passYear_93, e_X7_passYear_96, e_X7_passYear_97, e_X7_passYear_98, e_X7_passYear_99, e_X7_passYear_101, e_X7_passYear_104, e_X7_passYear_105, e_X7_passYear_108, e_X7_passYear_109, e_X7_passYear_110, e_X7_passYear_111, e_X7_passYear_114, e_X7_passYear_117, e_X7_passYear_118, e_X7_passYear_121, e_X7_passYear_122, g_T0_4 hb, hw2.1, if_pos (nI_le (Nat.le_refl N) (by omega : N < 2 ^ 31)), Option.bind_some, Option.isSome_some, Option.toList, List.cons_append, List.nil_append, zclr_i, zclr_r, zclr_n, zfit_i, zfit_l, and_self, if_true, if_false]
    have h3 := zloopI (fun p (x : Nat → Nat → Int32) => zexec (d + 2) 104 72 [some (.ref b), some (.int y.1), some (.int (nI p))] [] (mk n m g x J)) (yLapse b) (fun _ x => yWell x b N) N ?_ N 0 y.2 (by omega) hw2
    · refine h3.1.trans ?_
      have hw3 := h3.2
      generalize zfor (yLapse b) 0 N y.2 = z at hw3 ⊢
      rw [e_X7_passYear_72]
      simp only [e_X7_passYear_0, e_X7_passYear_1, e_X7_passYear_2, e_X7_passYear_5, e_X7_passYear_6, e_X7_passYear_7, e_X7_passYear_10, e_X7_passYear_11, e_X7_passYear_12, e_X7_passYear_13, e_X7_passYear_15, e_X7_passYear_16, e_X7_passYear_19, e_X7_passYear_22, e_X7_passYear_23, e_X7_passYear_24, e_X7_passYear_27, e_X7_passYear_30, e_X7_passYear_31, e_X7_passYear_34, e_X7_passYear_35, e_X7_passYear_36, e_X7_passYear_37, e_X7_passYear_38, e_X7_passYear_41, e_X7_passYear_42, e_X7_passYear_43, e_X7_passYear_46, e_X7_passYear_47, e_X7_passYear_50, e_X7_passYear_53, e_X7_passYear_54, e_X7_passYear_55, e_X7_passYear_58, e_X7_passYear_59, e_X7_passYear_60, e_X7_passYear_61, e_X7_passYear_62, e_X7_passYear_63, e_X7_passYear_64, e_X7_passYear_67, e_X7_passYear_70, e_X7_passYear_71, e_X7_passYear_73, e_X7_passYear_74, e_X7_passYear_77, e_X7_passYear_80, e_X7_passYear_81, e_X7_passYear_82, e_X7_passYear_85, e_X7_passYear_88, e_X7_passYear_89, e_X7_passYear_92, e_X7_passYear_93, e_X7_passYear_96, e_X7_passYear_97, e_X7_passYear_98, e_X7_passYear_99, e_X7_passYear_101, e_X7_passYear_104, e_X7_passYear_105, e_X7_passYear_108, e_X7_passYear_109, e_X7_passYear_110, e_X7_passYear_111, e_X7_passYear_114, e_X7_passYear_117, e_X7_passYear_118, e_X7_passYear_121, e_X7_passYear_122, c_T0 hb, g_T0_4 hb, hw3.1, if_pos (nI_le (Nat.le_refl N) (by omega : N < 2 ^ 31)), t_settle hb hw3.1 h12 hw3.2.1, Option.bind_some, Option.isSome_some, Option.toList, List.cons_append, List.nil_append, zclr_i, zclr_r, zclr_n, zfit_i, zfit_l, and_self, if_true, if_false]
    · intro p x hp hx
      refine ⟨?_, yLapse_well hx⟩
      rw [e_X7_passYear_72]
      simp only [e_X7_passYear_0, e_X7_passYear_1, e_X7_passYear_2, e_X7_passYear_5, e_X7_passYear_6, e_X7_passYear_7, e_X7_passYear_10, e_X7_passYear_11, e_X7_passYear_12, e_X7_passYear_13, e_X7_passYear_15, e_X7_passYear_16, e_X7_passYear_19, e_X7_passYear_22, e_X7_passYear_23, e_X7_passYear_24, e_X7_passYear_27, e_X7_passYear_30, e_X7_passYear_31, e_X7_passYear_34, e_X7_passYear_35, e_X7_passYear_36, e_X7_passYear_37, e_X7_passYear_38, e_X7_passYear_41, e_X7_passYear_42, e_X7_passYear_43, e_X7_passYear_46, e_X7_passYear_47, e_X7_passYear_50, e_X7_passYear_53, e_X7_passYear_54, e_X7_passYear_55, e_X7_passYear_58, e_X7_passYear_59, e_X7_passYear_60, e_X7_passYear_61, e_X7_passYear_62, e_X7_passYear_63, e_X7_passYear_64, e_X7_passYear_67, e_X7_passYear_70, e_X7_passYear_71, e_X7_passYear_73, e_X7_passYear_74, e_X7_passYear_77, e_X7_passYear_80, e_X7_passYear_81, e_X7_passYear_82, e_X7_passYear_85, e_X7_passYear_88, e_X7_passYear_89, e_X7_passYear_92, e_X7_passYear_93, e_X7_passYear_96, e_X7_passYear_97, e_X7_passYear_98, e_X7_passYear_99, e_X7_passYear_101, e_X7_passYear_104, e_X7_passYear_105, e_X7_passYear_108, e_X7_passYear_109, e_X7_passYear_110, e_X7_passYear_111, e_X7_passYear_114, e_X7_passYear_117, e_X7_passYear_118, e_X7_passYear_121, e_X7_passYear_122, c_T0 hb, g_T0_0 hb, g_T0_4 hb, g_T0_12 hb, g_T0_16 hb, hx.1, if_neg (nI_ge hp (by omega : N < 2 ^ 31)), t_isAway hb (show p < 12 by omega), l_T11 hb (show p < 12 by omega), nI_neg (show p < 2 ^ 31 by omega), nI_clamp (show p < 2 ^ 31 by omega), k_T7 hb (show p < 12 by omega), q_T7 hb, nI_1, Option.bind_some, Option.isSome_some, Option.toList, List.cons_append, List.nil_append, zclr_i, zclr_r, zclr_n, zfit_i, zfit_l, and_self, if_true, if_false]
      unfold yLapse
      by_cases h4 : x (b + 11) p = -1
      · simp [h4, bI]
      · by_cases h5 : 7 ≤ x b 0 - x (b + 11) p
        · simp [h4, h5, bI, Int32.not_lt.mpr h5]
        · simp [h4, h5, bI, Int32.not_le.mp h5]
  · intro p x hp hx
    refine ⟨?_, yDie_well hx⟩
    obtain ⟨h4, h5, h6⟩ := qWell_N hx.2.1
    rw [e_X7_passYear_14]
    simp only [e_X7_passYear_0, e_X7_passYear_1, e_X7_passYear_2, e_X7_passYear_5, e_X7_passYear_6, e_X7_passYear_7, e_X7_passYear_10, e_X7_passYear_11, e_X7_passYear_12, e_X7_passYear_13, e_X7_passYear_15, e_X7_passYear_16, e_X7_passYear_19, e_X7_passYear_22, e_X7_passYear_23, e_X7_passYear_24, e_X7_passYear_27, e_X7_passYear_30, e_X7_passYear_31, e_X7_passYear_34, e_X7_passYear_35, e_X7_passYear_36, e_X7_passYear_37, e_X7_passYear_38, e_X7_passYear_41, e_X7_passYear_42, e_X7_passYear_43, e_X7_passYear_46, e_X7_passYear_47, e_X7_passYear_50, e_X7_passYear_53, e_X7_passYear_54, e_X7_passYear_55, e_X7_passYear_58, e_X7_passYear_59, e_X7_passYear_60, e_X7_passYear_61, e_X7_passYear_62, e_X7_passYear_63, e_X7_passYear_64, e_X7_passYear_67, e_X7_passYear_70, e_X7_passYear_71, e_X7_passYear_73, e_X7_passYear_74, e_X7_passYear_77, e_X7_passYear_80, e_X7_passYear_81, e_X7_passYear_82, e_X7_passYear_85, e_X7_passYear_88, e_X7_passYear_89, e_X7_passYear_92, e_X7_passYear_93, e_X7_passYear_96, e_X7_passYear_97, e_X7_passYear_98, e_X7_passYear_99, e_X7_passYear_101, e_X7_passYear_104, e_X7_passYear_105, e_X7_passYear_108, e_X7_passYear_109, e_X7_passYear_110, e_X7_passYear_111, e_X7_passYear_114, e_X7_passYear_117, e_X7_passYear_118, e_X7_passYear_121, e_X7_passYear_122, c_T0 hb, g_T0_0 hb, g_T0_2 hb, g_T0_4 hb, g_T0_5 hb, hx.1, if_neg (nI_ge hp (by omega : N < 2 ^ 31)), t_lives hb (show p < 12 by omega), t_age hb (show p < 12 by omega), t_bury hb (show p < 12 by omega) h5 h4 (hx.2.2 p hp), nI_1, Option.bind_some, Option.isSome_some, Option.toList, List.cons_append, List.nil_append, zclr_i, zclr_r, zclr_n, zfit_i, zfit_l, and_self, if_true, if_false]
    unfold yDie
    by_cases h7 : x.2 (b + 6) p = -1
    · by_cases h8 : x.2 b 5 >>> (nI p &&& 31) &&& 1 = 0
      · by_cases h9 : x.2 b 2 ≤ x.2 b 0 - x.2 (b + 5) p
        · simp [h7, h8, h9, bI, bt, Int32.not_lt.mpr h9]
        · simp [h7, h8, h9, bI, bt, Int32.not_le.mp h9]
      · simp [h7, h8, bI]
    · simp [h7, bI]
theorem sRun_far {b a N : Nat} (h7 : a ≠ b + 7) (h14 : a ≠ b + 14) (h15 : a ≠ b + 15) (h16 : a ≠ b + 16) : ∀ r (I : Nat → Nat → Int32), sRun b N r I a = I a
  | 0, _ => rfl
  | r + 1, I => by
    rw [sRun]
    cases zfind (sMay I b N) some none 0 (qN I b) with
    | none => rfl
    | some k => exact (sRun_far h7 h14 h15 h16 r _).trans (sServe_far h7 h14 h15 h16)
theorem tSettle_far {b a N : Nat} (h7 : a ≠ b + 7) (h14 : a ≠ b + 14) (h15 : a ≠ b + 15) (h16 : a ≠ b + 16) : tSettle I b N a = I a := by
  unfold tSettle
  rw [sRun_far h7 h14 h15 h16, qPress_far _ h14 h15 h16]
theorem sRun_well {b N : Nat} : ∀ r (I : Nat → Nat → Int32), qWell I b → qWell (sRun b N r I) b
  | 0, _, h => h
  | r + 1, I, h => by
    rw [sRun]
    split
    · exact h
    · exact sRun_well r _ (sServe_well h)
theorem tSettle_well {b N : Nat} (h : yWell I b N) : yWell (tSettle I b N) b N := by
  obtain ⟨h1, h2, h3⟩ := h
  obtain ⟨h4, h5, h6⟩ := qWell_N h2
  refine ⟨by rw [tSettle_far (by omega) (by omega) (by omega) (by omega)]; exact h1, ?_, ?_⟩
  · exact sRun_well _ _ (qPress_well _ (fun e => decide (I (b + 7) e.1.toNatClampNeg ≠ e.2)) (fun I' h k => by rw [h]) h4 h6)
  · intro q hq
    rw [tSettle_far (by omega) (by omega) (by omega) (by omega)]
    exact h3 q hq
theorem tYear_well {b N : Nat} (h : yWell I b N) : yWell (tYear I b N) b N := by
  unfold tYear yDead
  refine tSettle_well ?_
  have h1 := zfor_inv (f := yDie b) (P := fun _ x => yWell x.2 b N) (fun p a ha => yDie_well ha) N 0 (0, zu I b 0 (I b 0 + 1)) (yPut_well (by decide) h)
  exact zfor_inv (f := yLapse b) (P := fun _ x => yWell x b N) (fun p a ha => yLapse_well ha) N 0 _ h1
def tYears (I : Nat → Nat → Int32) (b N k : Nat) : Int32 × (Nat → Nat → Int32) := zfor (fun _ x => (x.1 ||| (yDead x.2 b N).1, tYear x.2 b N)) 0 k (0, I)
theorem tYears_well {b N k : Nat} (h : yWell I b N) : yWell (tYears I b N k).2 b N := by
  unfold tYears
  exact zfor_inv (f := fun _ x => (x.1 ||| (yDead x.2 b N).1, tYear x.2 b N)) (P := fun _ x => yWell x.2 b N) (fun _ _ ha => tYear_well ha) k 0 (0, I) h
theorem t_passYears {b N k : Nat} (hb : isTown b) (h12 : N ≤ 12) (hw : yWell I b N) (hk : k < 2 ^ 31) (d : Nat) : zcall (d + 3) 103 [.ref b, .int (nI k)] (mk n m g I J) = some (some (.int (tYears I b N k).1), mk n m g (tYears I b N k).2 J) := by
  rw [m_X7_passYears]
  simp only [e_X7_passYears_0, e_X7_passYears_1, e_X7_passYears_2, e_X7_passYears_3, e_X7_passYears_5, e_X7_passYears_6, e_X7_passYears_9, e_X7_passYears_10, e_X7_passYears_11, e_X7_passYears_14, e_X7_passYears_15, e_X7_passYears_16, e_X7_passYears_19, e_X7_passYears_22, e_X7_passYears_23, Option.bind_some, Option.isSome_some, Option.toList, List.cons_append, List.nil_append, zclr_i, zclr_r, zclr_n, zfit_i, zfit_l, and_self, if_true, if_false]
  have h := zloopI (fun p (x : Int32 × (Nat → Nat → Int32)) => zexec (d + 3) 103 4 [some (.ref b), some (.int (nI k)), some (.int x.1), some (.int (nI p))] [] (mk n m g x.2 J)) (fun _ x => (x.1 ||| (yDead x.2 b N).1, tYear x.2 b N)) (fun _ x => yWell x.2 b N) k ?_ k 0 (0, I) (by omega) hw
  · refine h.1.trans ?_
    rw [e_X7_passYears_4]
    simp only [e_X7_passYears_0, e_X7_passYears_1, e_X7_passYears_2, e_X7_passYears_3, e_X7_passYears_5, e_X7_passYears_6, e_X7_passYears_9, e_X7_passYears_10, e_X7_passYears_11, e_X7_passYears_14, e_X7_passYears_15, e_X7_passYears_16, e_X7_passYears_19, e_X7_passYears_22, e_X7_passYears_23, if_pos (nI_le (Nat.le_refl k) hk), Option.bind_some, Option.isSome_some, Option.toList, List.cons_append, List.nil_append, zclr_i, zclr_r, zclr_n, zfit_i, zfit_l, and_self, if_true, if_false]
    rfl
  · intro p x hp hx
    refine ⟨?_, tYear_well hx⟩
    rw [e_X7_passYears_4]
    simp only [e_X7_passYears_0, e_X7_passYears_1, e_X7_passYears_2, e_X7_passYears_3, e_X7_passYears_5, e_X7_passYears_6, e_X7_passYears_9, e_X7_passYears_10, e_X7_passYears_11, e_X7_passYears_14, e_X7_passYears_15, e_X7_passYears_16, e_X7_passYears_19, e_X7_passYears_22, e_X7_passYears_23, c_T0 hb, if_neg (nI_ge hp hk), t_passYear hb h12 hx, nI_1, Option.bind_some, Option.isSome_some, Option.toList, List.cons_append, List.nil_append, zclr_i, zclr_r, zclr_n, zfit_i, zfit_l, and_self, if_true, if_false]
end YR
