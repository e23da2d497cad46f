/-! THE REFERENCE: the most couples, all sets -/
section ME
variable {n m : Nat} {g : Nat → zC} {I X A : Nat → Nat → Int32} {J : Nat → Nat → Int64} {N S U b : Nat}
theorem zfor_add {α : Type} (f : Nat → α → α) : ∀ j k p a, zfor f p (j + k) a = zfor f (p + j) k (zfor f p j a)
  | 0, k, p, a => by simp [zfor]
  | j + 1, k, p, a => by
    rw [show j + 1 + k = (j + k) + 1 by omega, zfor, zfor_add f j k, zfor, show p + 1 + j = p + (j + 1) by omega]
theorem zfor_same {α : Type} {f : Nat → α → α} : ∀ k p a, (∀ q x, p ≤ q → q < p + k → f q x = x) → zfor f p k a = a
  | 0, _, _, _ => rfl
  | k + 1, p, a, h => by
    rw [zfor, h p a (by omega) (by omega)]
    exact zfor_same k (p + 1) a (fun q x h1 h2 => h q x (by omega) (by omega))
theorem bit_lt {r a N : Nat} (h : r < 2 ^ N) (hb : r.testBit a = true) : a < N := by
  apply Classical.byContradiction
  intro hn
  rw [Nat.testBit_lt_two_pow (Nat.lt_of_lt_of_le h (Nat.pow_le_pow_right (show 0 < 2 by decide) (show N ≤ a by omega)))] at hb
  exact absurd hb (by decide)
theorem pow_4096 {N : Nat} (h : N ≤ 12) : 2 ^ N ≤ 4096 := by
  have : 2 ^ N ≤ 2 ^ 12 := Nat.pow_le_pow_right (by decide) h
  omega
theorem vc_row {s : Int32} {r : Nat} {x : Nat → Int32} {y4 y5 y6 y7 : Option Int32} (hs : s = -1 ∨ ∃ k, k < 6 ∧ s = nI k) (hW : WT A b N S U) (hR : RT A b (X 148) N S) (hr : r < 2 ^ N) (hx : ∀ q, q < r → x q = nI (tau (cn A b N s) q)) (d : Nat) : ∃ y4' y5' y6' y7' : Option Int32, zexec (d + 6) 368 13 [some (.ref 143), some (.int s), some (.int (nI (2 ^ N - 1))), some (.int (nI r)), y4.map Value.int, y5.map Value.int, y6.map Value.int, y7.map Value.int] [] (mk n m g (zr X 153 x) J) = zexec (d + 6) 368 13 [some (.ref 143), some (.int s), some (.int (nI (2 ^ N - 1))), some (.int (nI (r + 1))), y4'.map Value.int, y5'.map Value.int, y6'.map Value.int, y7'.map Value.int] [] (mk n m g (zr X 153 (fu x r (nI (tau (cn A b N s) r)))) J) := by
  have h12 := hW.h12
  have h4 := pow_4096 h12
  have hr4 : r < 4096 := by omega
  have hnot : ¬ nI (2 ^ N - 1) < nI r := by
    rw [nI_ltq (by omega) (by omega)]
    omega
  have hgo : zexec (d + 6) 368 13 [some (.ref 143), some (.int s), some (.int (nI (2 ^ N - 1))), some (.int (nI r)), y4.map Value.int, y5.map Value.int, y6.map Value.int, y7.map Value.int] [] (mk n m g (zr X 153 x) J) = zexec (d + 6) 368 28 [some (.ref 143), some (.int s), some (.int (nI (2 ^ N - 1))), some (.int (nI r)), some (.int (nI 0)), y5.map Value.int, y6.map Value.int, y7.map Value.int] [] (mk n m g (zr X 153 (fu x r 0)) J) := by
    rw [e_X12_mostCouples_13]
    simp only [e_X12_mostCouples_14, e_X12_mostCouples_15, e_X12_mostCouples_18, e_X12_mostCouples_19, e_X12_mostCouples_22, e_X12_mostCouples_23, e_X12_mostCouples_24, e_X12_mostCouples_25, e_X12_mostCouples_26, g_143_28, if_neg hnot, nI_neg (show r < 2 ^ 31 by omega), nI_clamp (show r < 2 ^ 31 by omega), k_153 hr4, q_153, zu_zr, zclr_map, Option.bind_some, Option.isSome_some, Option.toList, List.cons_append, List.nil_append, zclr_i, zclr_r, zclr_n, zfit_i, zfit_l, and_self, if_true, if_false]
    rfl
  have hse := vc_search (n := n) (m := m) (g := g) (I := zr X 153 (fu x r 0)) (J := J) (s := s) (e := nI (2 ^ N - 1)) (y5 := y5) (y6 := y6) (y7 := y7) hr4 (d + 5) 12 0 (by omega)
  have hte := tau_eq (can := cn A b N s) hr4
  unfold stp at hte
  cases hl : lst r with
  | none =>
    have hl' : zfind r.testBit some none 0 12 = none := hl
    rw [hl] at hte
    rw [hl'] at hse
    refine ⟨some (nI 12), y5, y6, y7, hgo.trans (hse.trans ?_)⟩
    rw [hte]
    simp only [e_X12_mostCouples_50, e_X12_mostCouples_52, e_X12_mostCouples_54, e_X12_mostCouples_57, e_X12_mostCouples_203, e_X12_mostCouples_206, Option.getD, show (nI 12 = (12 : Int32)) = True by decide, ne_eq, not_true, nI_1, zclr_map, Option.bind_some, Option.isSome_some, Option.toList, List.cons_append, List.nil_append, zclr_i, zclr_r, zclr_n, zfit_i, zfit_l, and_self, if_true, if_false]
    rfl
  | some a =>
    have hl' : zfind r.testBit some none 0 12 = some a := hl
    obtain ⟨_, ha, hb⟩ := zfind_some _ _ hl'
    have haN := bit_lt hr hb
    have hlt := rm_lt hr4 (by omega) hb
    rw [hl] at hte
    rw [hl'] at hse
    dsimp only at hte
    have ane : ¬ nI a = 12 := fun e => by
      have e2 : nI a = nI 12 := e
      rw [nI_eq (by omega) (by omega)] at e2
      omega
    have hrest : nI r &&& (1 <<< (nI a &&& 31) ^^^ -1) = nI (rm r a) := rm_nI hr4 (by omega)
    have hx1 : fu x r 0 (rm r a) = nI (tau (cn A b N s) (rm r a)) := by rw [fu_ne _ _ (by omega), hx _ hlt]
    obtain ⟨y7', e9⟩ := vc_inner (n := n) (m := m) (g := g) (J := J) (X := X) (e := nI (2 ^ N - 1)) (y7 := y7) (x := x) hs hW hR hr4 haN hb hx d
    have hmid : zexec (d + 6) 368 50 [some (.ref 143), some (.int s), some (.int (nI (2 ^ N - 1))), some (.int (nI r)), some (.int (nI a)), y5.map Value.int, y6.map Value.int, y7.map Value.int] [] (mk n m g (zr X 153 (fu x r 0)) J) = zexec (d + 6) 368 89 [some (.ref 143), some (.int s), some (.int (nI (2 ^ N - 1))), some (.int (nI r)), some (.int (nI a)), some (.int (nI (rm r a))), some (.int (nI (a + 1))), y7.map Value.int] [] (mk n m g (zr X 153 (fu x r (nI (tau (cn A b N s) (rm r a))))) J) := by
      simp only [e_X12_mostCouples_50, e_X12_mostCouples_52, e_X12_mostCouples_54, e_X12_mostCouples_57, e_X12_mostCouples_60, e_X12_mostCouples_61, e_X12_mostCouples_62, e_X12_mostCouples_64, e_X12_mostCouples_65, e_X12_mostCouples_66, e_X12_mostCouples_67, e_X12_mostCouples_68, e_X12_mostCouples_70, e_X12_mostCouples_71, e_X12_mostCouples_74, e_X12_mostCouples_75, e_X12_mostCouples_76, e_X12_mostCouples_79, e_X12_mostCouples_81, e_X12_mostCouples_82, e_X12_mostCouples_83, e_X12_mostCouples_85, e_X12_mostCouples_86, e_X12_mostCouples_87, g_143_28, ane, hrest, nI_neg (show r < 2 ^ 31 by omega), nI_clamp (show r < 2 ^ 31 by omega), k_153 hr4, l_153 (show rm r a < 4096 by omega), q_153, zr_same, zu_zr, hx1, fu_fu, nI_1, ne_eq, not_false_eq_true, zclr_map, Option.bind_some, Option.isSome_some, Option.toList, List.cons_append, List.nil_append, zclr_i, zclr_r, zclr_n, zfit_i, zfit_l, and_self, if_true, if_false]
    have hext : zfor (fun q acc => if ((rm r a).testBit q && cn A b N s a q) = true then max acc (1 + tau (cn A b N s) (rm (rm r a) q)) else acc) (a + 1) (11 - a) (tau (cn A b N s) (rm r a)) = zfor (fun q acc => if ((rm r a).testBit q && cn A b N s a q) = true then max acc (1 + tau (cn A b N s) (rm (rm r a) q)) else acc) (a + 1) (N - (a + 1)) (tau (cn A b N s) (rm r a)) := by
      rw [show 11 - a = (N - (a + 1)) + (12 - N) by omega, zfor_add]
      refine zfor_same _ _ _ (fun q w h1 h2 => ?_)
      have : cn A b N s a q = false := by
        unfold cn
        have : ¬ q < N := by omega
        simp [this]
      simp [this]
    refine ⟨some (nI a), some (nI (rm r a)), some (nI N), y7', hgo.trans (hse.trans (hmid.trans (e9.trans ?_)))⟩
    have hR1 : ∀ z : Nat → Int32, RT A b (zr X 153 z 148) N S := fun z => by rw [zr_far _ _ (by decide)]; exact hR
    rw [hte, hext, e_X12_mostCouples_89]
    simp only [e_X12_mostCouples_91, e_X12_mostCouples_92, e_X12_mostCouples_95, e_X12_mostCouples_96, e_X12_mostCouples_97, e_X12_mostCouples_203, e_X12_mostCouples_206, cA_6, cA_12, cA_18, cA_30, cA_42, cA_54, cA_66, cA_78, cA_90, cA_102, cA_114, cA_126, cA_138, cA_210, cA_222, lc_0, lc_1, lc_2, lc_3, lc_4, lc_5, g_143_20, q_148, hW.c1 (hR1 _), if_pos (nI_le (Nat.le_refl N) (show N < 2 ^ 31 by omega)), nI_1, zclr_map, Option.bind_some, Option.isSome_some, Option.toList, List.cons_append, List.nil_append, zclr_i, zclr_r, zclr_n, zfit_i, zfit_l, and_self, if_true, if_false]
    rfl
theorem v_mostCouples {s : Int32} (hs : s = -1 ∨ ∃ k, k < 6 ∧ s = nI k) (hW : WT A b N S U) (hR : RT A b (I 148) N S) (d : Nat) : ∃ x, zcall (d + 6) 368 [.ref 143, .int s] (mk n m g I J) = some (some (.int (nI (tau (cn A b N s) (2 ^ N - 1)))), mk n m g (zr I 153 x) J) := by
  have h12 := hW.h12
  have h4 := pow_4096 h12
  have hpos : 0 < 2 ^ N := Nat.pow_pos (by decide)
  have hall : (1 : Int32) <<< (nI N &&& 31) - 1 = nI (2 ^ N - 1) := by
    have : N = 0 ∨ N = 1 ∨ N = 2 ∨ N = 3 ∨ N = 4 ∨ N = 5 ∨ N = 6 ∨ N = 7 ∨ N = 8 ∨ N = 9 ∨ N = 10 ∨ N = 11 ∨ N = 12 := by omega
    rcases this with rfl | rfl | rfl | rfl | rfl | rfl | rfl | rfl | rfl | rfl | rfl | rfl | rfl <;> rfl
  have hl := zloopR (fun r (w : (Nat → Int32) × Option Int32 × Option Int32 × Option Int32 × Option Int32) => zexec (d + 6) 368 13 [some (.ref 143), some (.int s), some (.int (nI (2 ^ N - 1))), some (.int (nI r)), w.2.1.map Value.int, w.2.2.1.map Value.int, w.2.2.2.1.map Value.int, w.2.2.2.2.map Value.int] [] (mk n m g (zr I 153 w.1) J)) (fun r (_ : Unit) w => ∀ q, q < r → w.1 q = nI (tau (cn A b N s) q)) (fun _ u => u) (2 ^ N) ?_ (2 ^ N) 0 () (I 153, none, none, none, none) (by omega) (fun q hq => by omega)
  · obtain ⟨⟨x, y4, y5, y6, y7⟩, e1, e2⟩ := hl
    dsimp only at e1 e2
    rw [zr_id] at e1
    refine ⟨x, ?_⟩
    have hst : zcall (d + 6) 368 [.ref 143, .int s] (mk n m g I J) = zexec (d + 6) 368 13 [some (.ref 143), some (.int s), some (.int (nI (2 ^ N - 1))), some (.int (nI 0)), none, none, none, none] [] (mk n m g I J) := by
      rw [m_X12_mostCouples]
      simp only [e_X12_mostCouples_0, e_X12_mostCouples_1, e_X12_mostCouples_2, e_X12_mostCouples_5, e_X12_mostCouples_6, e_X12_mostCouples_7, e_X12_mostCouples_8, e_X12_mostCouples_9, e_X12_mostCouples_10, e_X12_mostCouples_11, e_X12_mostCouples_12, cA_6, cA_12, cA_18, cA_30, cA_42, cA_54, cA_66, cA_78, cA_90, cA_102, cA_114, cA_126, cA_138, cA_210, cA_222, lc_0, lc_1, lc_2, lc_3, lc_4, lc_5, g_143_20, q_148, hW.c1 hR, hall, Option.bind_some, Option.isSome_some, Option.toList, List.cons_append, List.nil_append, zclr_i, zclr_r, zclr_n, zfit_i, zfit_l, and_self, if_true, if_false]
      rfl
    refine hst.trans ((show _ from e1).trans ?_)
    rw [e_X12_mostCouples_13]
    have hgt : nI (2 ^ N - 1) < nI (2 ^ N) := by
      rw [nI_ltq (by omega) (by omega)]
      omega
    have hv := e2 (2 ^ N - 1) (by omega)
    simp only [e_X12_mostCouples_14, e_X12_mostCouples_15, e_X12_mostCouples_209, e_X12_mostCouples_210, e_X12_mostCouples_213, e_X12_mostCouples_214, e_X12_mostCouples_215, g_143_28, if_pos hgt, l_153 (show 2 ^ N - 1 < 4096 by omega), zr_same, hv, zclr_map, Option.bind_some, Option.isSome_some, Option.toList, List.cons_append, List.nil_append, zclr_i, zclr_r, zclr_n, zfit_i, zfit_l, and_self, if_true, if_false]
  · rintro r _ ⟨x, y4, y5, y6, y7⟩ hr hx
    dsimp only at hx ⊢
    obtain ⟨z4, z5, z6, z7, e1⟩ := vc_row (n := n) (m := m) (g := g) (J := J) (y4 := y4) (y5 := y5) (y6 := y6) (y7 := y7) hs hW hR hr hx d
    refine ⟨(fu x r (nI (tau (cn A b N s) r)), z4, z5, z6, z7), e1, fun q hq => ?_⟩
    by_cases e : q = r
    · rw [e]
      exact fu_eq _ _ _
    · show fu x r (nI (tau (cn A b N s) r)) q = _
      rw [fu_ne _ _ e]
      exact hx q (by omega)
end ME
