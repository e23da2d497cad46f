/-! THE READER: on to the next token -/
section RG
variable {n m : Nat} {g : Nat → zC} {I : Nat → Nat → Int32} {J : Nat → Nat → Int64}
theorem zu_self {α : Type} (I : Nat → Nat → α) (a k : Nat) (x : α) (h : I a k = x) : zu I a k x = I := by
  funext c j
  by_cases hc : c = a
  · subst hc
    rw [zu_row]
    split
    · rename_i hj
      rw [hj, h]
    · rfl
  · rw [zu_far _ _ _ hc]
def dTok (I : Nat → Nat → Int32) (J : Nat → Nat → Int64) (L q a z : Nat) : (Nat → Nat → Int32) × (Nat → Nat → Int64) :=
  if L ≤ q then (zu I 13 5 0, J)
  else if q < a then (zu (zu (zu I 13 5 2) 13 3 (nI a)) 13 9 (wPlace (zu J 13 8 (dWord I q a)) 14 27 (dWord I q a)), zu J 13 8 (dWord I q a))
  else if q < z then (if 4 < nI z - nI q then zu (zu (zu I 13 5 1) 13 6 0) 13 3 (nI z) else zu (zu (zu I 13 5 3) 13 6 (dNum I q (z - q) 0)) 13 3 (nI z), J)
  else (dSign I q, J)
def dAdv (I : Nat → Nat → Int32) (J : Nat → Nat → Int64) (L p : Nat) : (Nat → Nat → Int32) × (Nat → Nat → Int64) := dTok (dAt I (dSkip I p (L - p))) J L (dSkip I p (L - p)) (dRun (dAt I (dSkip I p (L - p))) 97 122 (dSkip I p (L - p)) (L - dSkip I p (L - p))) (dRun (dAt I (dSkip I p (L - p))) 48 57 (dSkip I p (L - p)) (L - dSkip I p (L - p)))
theorem d_tok {L q : Nat} (ht : I 13 1 = nI 12) (hL : I 13 2 = nI L) (h3 : I 13 3 = nI q) (h4 : I 13 4 = nI q) (hq : q ≤ L) (h900 : L ≤ 900) (d : Nat) : zexec (d + 1) 45 65 [some (.ref 13), none, none] [] (mk n m g I J) = some (none, mk n m g (dTok I J L q (dRun I 97 122 q (L - q)) (dRun I 48 57 q (L - q))).1 (dTok I J L q (dRun I 97 122 q (L - q)) (dRun I 48 57 q (L - q))).2) := by
  have ha := dRun_le (I := I) 97 122 (L - q) q
  have hz := dRun_le (I := I) 48 57 (L - q) q
  have hr1 : ∀ d, zcall d 46 [.ref 13, .int 97, .int 122] (mk n m g I J) = _ := fun d => d_behindRun ht h3 hL hq h900 d
  have hr2 : ∀ d, zcall d 46 [.ref 13, .int 48, .int 57] (mk n m g I J) = _ := fun d => d_behindRun ht h3 hL hq h900 d
  simp only [e_X4_advance_65, e_X4_advance_66, e_X4_advance_68, e_X4_advance_70, e_X4_advance_73, e_X4_advance_74, e_X4_advance_75, e_X4_advance_77, e_X4_advance_79, e_X4_advance_82, e_X4_advance_83, e_X4_advance_84, e_X4_advance_87, e_X4_advance_88, e_X4_advance_91, e_X4_advance_94, e_X4_advance_95, e_X4_advance_96, e_X4_advance_99, c_13, g_13_2, g_13_3, g_13_5, p_13_5, hr1, hr2, hL, h3, Option.bind_some, Option.isSome_some, Option.toList, List.cons_append, List.nil_append, zclr_i, zclr_r, zclr_n, zfit_i, zfit_l, and_self, if_true, if_false]
  generalize dRun I 97 122 q (L - q) = a at ha ⊢
  generalize dRun I 48 57 q (L - q) = z at hz ⊢
  unfold dTok
  by_cases h5 : L ≤ q
  · simp only [e_X4_advance_65, e_X4_advance_66, e_X4_advance_68, e_X4_advance_70, e_X4_advance_73, e_X4_advance_74, e_X4_advance_75, e_X4_advance_77, e_X4_advance_79, e_X4_advance_82, e_X4_advance_83, e_X4_advance_84, e_X4_advance_87, e_X4_advance_88, e_X4_advance_91, e_X4_advance_94, e_X4_advance_95, e_X4_advance_96, e_X4_advance_99, e_X4_advance_102, e_X4_advance_103, e_X4_advance_104, e_X4_advance_107, e_X4_advance_110, e_X4_advance_111, e_X4_advance_112, e_X4_advance_115, e_X4_advance_116, e_X4_advance_117, e_X4_advance_120, e_X4_advance_122, e_X4_advance_123, e_X4_advance_126, e_X4_advance_129, e_X4_advance_132, e_X4_advance_135, e_X4_advance_136, e_X4_advance_137, e_X4_advance_140, e_X4_advance_143, e_X4_advance_144, e_X4_advance_145, e_X4_advance_148, e_X4_advance_151, e_X4_advance_152, e_X4_advance_155, if_neg (Int32.not_lt.mpr (nI_le h5 (by omega : q < 2 ^ 31))), if_pos h5, Option.bind_some, Option.isSome_some, Option.toList, List.cons_append, List.nil_append, zclr_i, zclr_r, zclr_n, zfit_i, zfit_l, and_self, if_true, if_false]
  · simp only [if_pos (Int32.not_le.mp (nI_ge (show q < L by omega) (by omega : L < 2 ^ 31))), if_neg h5]
    by_cases h6 : q < a
    · have h27 : ∀ d w I J, zcall d 62 [.ref 14, .int 27, .long w] (mk n m g I J) = some (some (.int (wPlace J 14 27 w)), mk n m g I J) := fun d w I J => d_placeIn (K := 27) (by decide) (fun k hk => k_14 hk) d
      have h8 : ∀ w, (zu J 13 8 w) 13 8 = w := fun w => by rw [zu_row, if_pos rfl]
      simp only [e_X4_advance_65, e_X4_advance_66, e_X4_advance_68, e_X4_advance_70, e_X4_advance_73, e_X4_advance_74, e_X4_advance_75, e_X4_advance_77, e_X4_advance_79, e_X4_advance_82, e_X4_advance_83, e_X4_advance_84, e_X4_advance_87, e_X4_advance_88, e_X4_advance_91, e_X4_advance_94, e_X4_advance_95, e_X4_advance_96, e_X4_advance_99, e_X4_advance_102, e_X4_advance_103, e_X4_advance_104, e_X4_advance_107, e_X4_advance_110, e_X4_advance_111, e_X4_advance_112, e_X4_advance_115, e_X4_advance_116, e_X4_advance_117, e_X4_advance_120, e_X4_advance_122, e_X4_advance_123, e_X4_advance_126, e_X4_advance_129, e_X4_advance_132, e_X4_advance_135, e_X4_advance_136, e_X4_advance_137, e_X4_advance_140, e_X4_advance_143, e_X4_advance_144, e_X4_advance_145, e_X4_advance_148, e_X4_advance_151, e_X4_advance_152, e_X4_advance_155, c_13, g_13_0, g_13_4, g_13_8, g_13_9, p_13_9, h4, if_neg (nI_ge h6 (by omega : a < 2 ^ 31)), d_readWord ht h4 (show q ≤ a by omega) (show a ≤ 900 by omega), h8, h27, if_pos h6, Option.bind_some, Option.isSome_some, Option.toList, List.cons_append, List.nil_append, zclr_i, zclr_r, zclr_n, zfit_i, zfit_l, and_self, if_true, if_false]
    · simp only [e_X4_advance_65, e_X4_advance_66, e_X4_advance_68, e_X4_advance_70, e_X4_advance_73, e_X4_advance_74, e_X4_advance_75, e_X4_advance_77, e_X4_advance_79, e_X4_advance_82, e_X4_advance_83, e_X4_advance_84, e_X4_advance_87, e_X4_advance_88, e_X4_advance_91, e_X4_advance_94, e_X4_advance_95, e_X4_advance_96, e_X4_advance_99, e_X4_advance_102, e_X4_advance_103, e_X4_advance_104, e_X4_advance_107, e_X4_advance_110, e_X4_advance_111, e_X4_advance_112, e_X4_advance_115, e_X4_advance_116, e_X4_advance_117, e_X4_advance_120, e_X4_advance_122, e_X4_advance_123, e_X4_advance_126, e_X4_advance_129, e_X4_advance_132, g_13_4, h4, if_pos (nI_le (show a ≤ q by omega) (by omega : q < 2 ^ 31)), if_neg h6, Option.bind_some, Option.isSome_some, Option.toList, List.cons_append, List.nil_append, zclr_i, zclr_r, zclr_n, zfit_i, zfit_l, and_self, if_true, if_false]
      by_cases h7 : q < z
      · simp only [e_X4_advance_135, e_X4_advance_136, e_X4_advance_137, e_X4_advance_140, e_X4_advance_143, e_X4_advance_144, e_X4_advance_145, e_X4_advance_148, e_X4_advance_151, e_X4_advance_152, e_X4_advance_155, c_13, g_13_4, h4, if_neg (nI_ge h7 (by omega : z < 2 ^ 31)), d_readNumber ht h4 (show q ≤ z by omega) (show z ≤ 900 by omega), if_pos h7, Option.bind_some, Option.isSome_some, Option.toList, List.cons_append, List.nil_append, zclr_i, zclr_r, zclr_n, zfit_i, zfit_l, and_self, if_true, if_false]
      · simp only [e_X4_advance_135, e_X4_advance_136, e_X4_advance_137, e_X4_advance_140, e_X4_advance_143, e_X4_advance_144, e_X4_advance_145, e_X4_advance_148, e_X4_advance_151, e_X4_advance_152, e_X4_advance_155, c_13, g_13_4, h4, if_pos (nI_le (show z ≤ q by omega) (by omega : q < 2 ^ 31)), d_readSign ht h4 (show q < 900 by omega), if_neg h7, Option.bind_some, Option.isSome_some, Option.toList, List.cons_append, List.nil_append, zclr_i, zclr_r, zclr_n, zfit_i, zfit_l, and_self, if_true, if_false]
theorem dAt_row {q k : Nat} (h3 : k ≠ 3) (h4 : k ≠ 4) (h9 : k ≠ 9) : dAt I q 13 k = I 13 k := by
  unfold dAt
  rw [zu_row, if_neg h9, zu_row, if_neg h4, zu_row, if_neg h3]
theorem d_advance {L p : Nat} (ht : I 13 1 = nI 12) (hL : I 13 2 = nI L) (hp : I 13 3 = nI p) (hpL : p ≤ L) (h900 : L ≤ 900) (d : Nat) : zcall (d + 1) 45 [.ref 13] (mk n m g I J) = some (none, mk n m g (dAdv I J L p).1 (dAdv I J L p).2) := by
  rw [m_X4_advance]
  have h0 := d_skip (n := n) (m := m) (g := g) (J := J) ht hL h900 (d + 1) (L - p) p (by omega)
  rw [zu_self I 13 3 (nI p) hp] at h0
  refine h0.trans ?_
  have hs := dSkip_le (I := I) (L - p) p
  refine d_tok ?_ ?_ ?_ ?_ (by omega) h900 d
  · rw [dAt_row (by decide) (by decide) (by decide)]; exact ht
  · rw [dAt_row (by decide) (by decide) (by decide)]; exact hL
  · unfold dAt
    rw [zu_row, if_neg (by decide), zu_row, if_neg (by decide), zu_row, if_pos rfl]
  · unfold dAt
    rw [zu_row, if_neg (by decide), zu_row, if_pos rfl]
/-- what the reader needs, at place p of a text of L bytes -/
def dWell (I : Nat → Nat → Int32) (L p : Nat) : Prop := I 13 1 = nI 12 ∧ I 13 2 = nI L ∧ I 13 3 = nI p ∧ p ≤ L ∧ L ≤ 900
theorem d_takeKey {L p : Nat} {w : Int32} (h : dWell I L p) (d : Nat) : zcall (d + 2) 55 [.ref 13, .int w] (mk n m g I J) = some (some (.int (bI (decide (I 13 9 = w)))), mk n m g (if I 13 9 = w then (dAdv I J L p).1 else dHere I) (if I 13 9 = w then (dAdv I J L p).2 else J)) := by
  obtain ⟨h1, h2, h3, h4, h5⟩ := h
  rw [m_X4_takeKey]
  simp only [e_X4_takeKey_0, e_X4_takeKey_1, e_X4_takeKey_4, e_X4_takeKey_5, e_X4_takeKey_8, e_X4_takeKey_9, e_X4_takeKey_12, e_X4_takeKey_13, e_X4_takeKey_14, e_X4_takeKey_17, e_X4_takeKey_18, c_13, g_13_9, d_failHere, d_advance h1 h2 h3 h4 h5, zfit_b0, zfit_b1, Option.bind_some, Option.isSome_some, Option.toList, List.cons_append, List.nil_append, zclr_i, zclr_r, zclr_n, zfit_i, zfit_l, and_self, if_true, if_false]
  by_cases h6 : I 13 9 = w <;> simp [h6, bI]
theorem d_takeStop {L p : Nat} (h : dWell I L p) (d : Nat) : zcall (d + 2) 56 [.ref 13] (mk n m g I J) = some (some (.int (bI (decide (I 13 5 = 4 ∧ I 13 7 = 59)))), mk n m g (if I 13 5 = 4 ∧ I 13 7 = 59 then (dAdv I J L p).1 else dHere I) (if I 13 5 = 4 ∧ I 13 7 = 59 then (dAdv I J L p).2 else J)) := by
  obtain ⟨h1, h2, h3, h4, h5⟩ := h
  rw [m_X4_takeStop]
  simp only [e_X4_takeStop_0, e_X4_takeStop_1, e_X4_takeStop_4, e_X4_takeStop_5, e_X4_takeStop_8, e_X4_takeStop_9, e_X4_takeStop_12, e_X4_takeStop_14, e_X4_takeStop_17, e_X4_takeStop_18, e_X4_takeStop_21, e_X4_takeStop_22, e_X4_takeStop_23, e_X4_takeStop_26, e_X4_takeStop_27, c_13, g_13_5, g_13_7, d_failHere, d_advance h1 h2 h3 h4 h5, zfit_b0, zfit_b1, Option.bind_some, Option.isSome_some, Option.toList, List.cons_append, List.nil_append, zclr_i, zclr_r, zclr_n, zfit_i, zfit_l, and_self, if_true, if_false]
  by_cases h6 : I 13 5 = 4 <;> by_cases h7 : I 13 7 = 59 <;> simp [h6, h7, bI]
end RG
