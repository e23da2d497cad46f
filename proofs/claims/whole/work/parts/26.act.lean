/-! A LIFE: drawing, and what a step does -/
section AC
variable {n m : Nat} {g : Nat → zC} {I : Nat → Nat → Int32} {J : Nat → Nat → Int64}
theorem life_town {l t i : Nat} (hl : isLife l) (ht : isTown t) (hi : i < 17) : t + i ≠ l ∧ t + i ≠ l + 1 := by
  rcases hl with rfl | rfl <;> rcases ht with rfl | rfl | rfl | rfl | rfl <;> omega
theorem life_town0 {l t : Nat} (hl : isLife l) (ht : isTown t) : t ≠ l := (life_town (i := 0) hl ht (by decide)).1
theorem yLife_well {l t N k : Nat} {x : Int32} (hl : isLife l) (ht : isTown t) (h : yWell I t N) : yWell (zu I l k x) t N := by
  obtain ⟨h1, h2, h3⟩ := h
  refine ⟨by rw [zu_far _ _ _ (life_town0 hl ht)]; exact h1, qWell_far (zu_far _ _ _ (life_town hl ht (by decide)).1) (zu_far _ _ _ (life_town hl ht (by decide)).1) h2, ?_⟩
  intro q hq
  rw [zu_far _ _ _ (life_town hl ht (by decide)).1]
  exact h3 q hq
def lBorn (I : Nat → Nat → Int32) (t N p q : Nat) : Bool := tBear I t p q && decide (N < 12)
def tBorn (t N p q : Nat) (I : Nat → Nat → Int32) : Nat → Nat → Int32 := zu (zu (zu (tAdd I t N (I t 0)) (t + 7) N (if tUnder I t N p = -1 then tUnder I t N q else tUnder I t N p)) (t + 10) (2 * N) (nI p)) (t + 10) (2 * N + 1) (nI q)
def lBear (l t N p q : Nat) (I : Nat → Nat → Int32) : Nat → Nat → Int32 := zu (tBorn t N p q I) l 3 (tBorn t N p q I l 3 + 1)
theorem li_bear {l t p q N : Nat} (hl : isLife l) (ht : isTown t) (hN : I t 4 = nI N) (h12 : N ≤ 12) (hp : p < 12) (hq : q < 12) (d : Nat) : zcall (d + 3) 32 [.ref l, .ref t, .int (nI p), .int (nI q)] (mk n m g I J) = some (some (.int (bI (lBorn I t N p q))), mk n m g (if lBorn I t N p q = true then lBear l t N p q I else I) (if lBorn I t N p q = true then zu J (t + 4) N (-1) else J)) := by
  rw [m_X2_bear]
  unfold lBorn
  by_cases h1 : tBear I t p q = true
  · by_cases h2 : N < 12
    · have h3 : ¬ (12 : Int32) ≤ nI N := nI_ge (b := 12) h2 (by decide)
      have h4 := t_bear (n := n) (m := m) (g := g) (I := I) (J := J) ht hN h2 hp hq d
      change _ = some (some (Value.int (nI N)), mk n m g (tBorn t N p q I) _) at h4
      simp only [e_X2_bear_0, e_X2_bear_1, e_X2_bear_2, e_X2_bear_3, e_X2_bear_6, e_X2_bear_9, e_X2_bear_10, e_X2_bear_13, e_X2_bear_16, e_X2_bear_17, e_X2_bear_18, e_X2_bear_19, e_X2_bear_20, e_X2_bear_21, e_X2_bear_24, e_X2_bear_25, e_X2_bear_26, e_X2_bear_27, e_X2_bear_30, e_X2_bear_31, e_X2_bear_32, e_X2_bear_35, e_X2_bear_36, c_T0 ht, g_L0_3 hl, p_L0_3 hl, t_canBear ht hp hq, t_isFull ht, hN, h3, h4, h1, h2, bI, decide_true, decide_false, Bool.and_self, zfit_b1, Option.bind_some, Option.isSome_some, Option.toList, List.cons_append, List.nil_append, zclr_i, zclr_r, zclr_n, zfit_i, zfit_l, and_self, if_true, if_false]
      simp [lBear]
    · have h3 : (12 : Int32) ≤ nI N := nI_le (a := 12) (by omega) (by omega)
      simp only [e_X2_bear_0, e_X2_bear_1, e_X2_bear_2, e_X2_bear_3, e_X2_bear_6, e_X2_bear_9, e_X2_bear_10, e_X2_bear_13, e_X2_bear_16, e_X2_bear_17, e_X2_bear_18, e_X2_bear_19, e_X2_bear_20, e_X2_bear_21, e_X2_bear_24, e_X2_bear_25, e_X2_bear_26, e_X2_bear_27, e_X2_bear_30, e_X2_bear_31, e_X2_bear_32, e_X2_bear_35, e_X2_bear_36, c_T0 ht, t_canBear ht hp hq, t_isFull ht, hN, h3, h1, h2, bI, decide_true, decide_false, zfit_b0, Option.bind_some, Option.isSome_some, Option.toList, List.cons_append, List.nil_append, zclr_i, zclr_r, zclr_n, zfit_i, zfit_l, and_self, if_true, if_false]
      simp
  · simp only [e_X2_bear_0, e_X2_bear_1, e_X2_bear_2, e_X2_bear_3, e_X2_bear_6, e_X2_bear_9, e_X2_bear_10, e_X2_bear_13, e_X2_bear_16, e_X2_bear_17, e_X2_bear_18, e_X2_bear_19, e_X2_bear_20, e_X2_bear_21, e_X2_bear_24, e_X2_bear_25, e_X2_bear_26, e_X2_bear_27, e_X2_bear_30, e_X2_bear_31, e_X2_bear_32, e_X2_bear_35, e_X2_bear_36, c_T0 ht, t_canBear ht hp hq, h1, bI, zfit_b0, Option.bind_some, Option.isSome_some, Option.toList, List.cons_append, List.nil_append, zclr_i, zclr_r, zclr_n, zfit_i, zfit_l, and_self, if_true, if_false]
    simp
def tLiv (I : Nat → Nat → Int32) (t N : Nat) : Int32 := (1 <<< (nI N &&& 31) - 1) &&& (sSet (fun p => decide (I (t + 6) p ≠ -1)) N ^^^ -1)
def dPick (c : Nat → Bool) : Int32 → Nat → Nat → Int32
  | _, _, 0 => -1
  | x, p, k + 1 => if c p = true then (if x = 0 then nI p else dPick c (x + -1) (p + 1) k) else dPick c x (p + 1) k
theorem dPick_case (c : Nat → Bool) : ∀ k x p, dPick c x p k = -1 ∨ ∃ q, q < p + k ∧ c q = true ∧ dPick c x p k = nI q
  | 0, _, _ => .inl rfl
  | k + 1, x, p => by
    rw [dPick]
    split
    · rename_i hc
      split
      · exact .inr ⟨p, by omega, hc, rfl⟩
      · rcases dPick_case c k (x + -1) (p + 1) with h | ⟨q, h1, h2, h3⟩
        · exact .inl h
        · exact .inr ⟨q, by omega, h2, h3⟩
    · rcases dPick_case c k x (p + 1) with h | ⟨q, h1, h2, h3⟩
      · exact .inl h
      · exact .inr ⟨q, by omega, h2, h3⟩
def lSeed (x : Int32) : Int32 := (x * 2971 + 10709) - (x * 2971 + 10709) / 65536 * 65536
def lPick (I : Nat → Nat → Int32) (l t N : Nat) : Int32 := dPick (fun p => decide (I (t + 6) p = -1)) (lSeed (I l 7) / 8 - lSeed (I l 7) / 8 / jbc (tLiv I t N) * jbc (tLiv I t N)) 0 N
def lDraw (I : Nat → Nat → Int32) (l t N : Nat) : Int32 × (Nat → Nat → Int32) := if jbc (tLiv I t N) = 0 then (-1, I) else (lPick I l t N, zu I l 7 (lSeed (I l 7)))
theorem li_drawLiving {l t N : Nat} (hl : isLife l) (ht : isTown t) (hN : I t 4 = nI N) (h12 : N ≤ 12) (d : Nat) : zcall (d + 2) 36 [.ref l, .ref t] (mk n m g I J) = some (some (.int (lDraw I l t N).1), mk n m g (lDraw I l t N).2 J) := by
  rw [m_X2_drawLiving]
  have h0 := t_living (n := n) (m := m) (g := g) (I := I) (J := J) ht hN h12 d
  change _ = some (some (Value.int (tLiv I t N)), _) at h0
  simp only [e_X2_drawLiving_0, e_X2_drawLiving_1, e_X2_drawLiving_4, e_X2_drawLiving_7, e_X2_drawLiving_8, e_X2_drawLiving_9, e_X2_drawLiving_12, e_X2_drawLiving_13, e_X2_drawLiving_14, e_X2_drawLiving_15, e_X2_drawLiving_16, e_X2_drawLiving_19, e_X2_drawLiving_22, e_X2_drawLiving_23, e_X2_drawLiving_26, e_X2_drawLiving_27, e_X2_drawLiving_29, e_X2_drawLiving_30, e_X2_drawLiving_33, e_X2_drawLiving_34, e_X2_drawLiving_37, e_X2_drawLiving_39, e_X2_drawLiving_40, e_X2_drawLiving_41, e_X2_drawLiving_42, e_X2_drawLiving_43, e_X2_drawLiving_44, e_X2_drawLiving_48, e_X2_drawLiving_49, e_X2_drawLiving_52, e_X2_drawLiving_55, e_X2_drawLiving_56, e_X2_drawLiving_58, e_X2_drawLiving_61, e_X2_drawLiving_64, e_X2_drawLiving_65, e_X2_drawLiving_68, e_X2_drawLiving_70, e_X2_drawLiving_71, e_X2_drawLiving_74, e_X2_drawLiving_77, e_X2_drawLiving_80, e_X2_drawLiving_81, c_T0 ht, g_L0_7 hl, p_L0_7 hl, h0, j_bitCount, if_neg (show ¬ (65536 : Int32) = 0 by decide), if_neg (show ¬ (8 : Int32) = 0 by decide), Option.bind_some, Option.isSome_some, Option.toList, List.cons_append, List.nil_append, zclr_i, zclr_r, zclr_n, zfit_i, zfit_l, and_self, if_true, if_false]
  unfold lDraw
  by_cases h1 : jbc (tLiv I t N) = 0
  · simp only [h1, if_true, not_true, if_false, ne_eq]
  · simp only [h1, if_false, not_false_eq_true, if_true, ne_eq, zu_row]
    have hI : (zu I l 7 (lSeed (I l 7))) t 4 = nI N := by rw [zu_far _ _ _ (life_town0 hl ht)]; exact hN
    have h6 : (zu I l 7 (lSeed (I l 7))) (t + 6) = I (t + 6) := zu_far _ _ _ (life_town hl ht (by decide)).1
    have h2 : ∀ k p x, p + k = N → zexec (d + 2) 36 46 [some (.ref l), some (.ref t), some (.int (jbc (tLiv I t N))), some (.int x), some (.int (nI p))] [] (mk n m g (zu I l 7 (lSeed (I l 7))) J) = some (some (.int (dPick (fun p => decide (I (t + 6) p = -1)) x p k)), mk n m g (zu I l 7 (lSeed (I l 7))) J) := by
      intro k
      induction k with
      | zero =>
        intro p x hp
        rw [e_X2_drawLiving_46]
        simp only [e_X2_drawLiving_0, e_X2_drawLiving_1, e_X2_drawLiving_4, e_X2_drawLiving_7, e_X2_drawLiving_8, e_X2_drawLiving_9, e_X2_drawLiving_12, e_X2_drawLiving_13, e_X2_drawLiving_14, e_X2_drawLiving_15, e_X2_drawLiving_16, e_X2_drawLiving_19, e_X2_drawLiving_22, e_X2_drawLiving_23, e_X2_drawLiving_26, e_X2_drawLiving_27, e_X2_drawLiving_29, e_X2_drawLiving_30, e_X2_drawLiving_33, e_X2_drawLiving_34, e_X2_drawLiving_37, e_X2_drawLiving_39, e_X2_drawLiving_40, e_X2_drawLiving_41, e_X2_drawLiving_42, e_X2_drawLiving_43, e_X2_drawLiving_44, e_X2_drawLiving_48, e_X2_drawLiving_49, e_X2_drawLiving_52, e_X2_drawLiving_55, e_X2_drawLiving_56, e_X2_drawLiving_58, e_X2_drawLiving_61, e_X2_drawLiving_64, e_X2_drawLiving_65, e_X2_drawLiving_68, e_X2_drawLiving_70, e_X2_drawLiving_71, e_X2_drawLiving_74, e_X2_drawLiving_77, e_X2_drawLiving_80, e_X2_drawLiving_81, g_T0_4 ht, hI, if_pos (nI_le (show N ≤ p by omega) (by omega : p < 2 ^ 31)), Option.bind_some, Option.isSome_some, Option.toList, List.cons_append, List.nil_append, zclr_i, zclr_r, zclr_n, zfit_i, zfit_l, and_self, if_true, if_false]
        rfl
      | succ k ih =>
        intro p x hp
        rw [e_X2_drawLiving_46, dPick]
        simp only [e_X2_drawLiving_0, e_X2_drawLiving_1, e_X2_drawLiving_4, e_X2_drawLiving_7, e_X2_drawLiving_8, e_X2_drawLiving_9, e_X2_drawLiving_12, e_X2_drawLiving_13, e_X2_drawLiving_14, e_X2_drawLiving_15, e_X2_drawLiving_16, e_X2_drawLiving_19, e_X2_drawLiving_22, e_X2_drawLiving_23, e_X2_drawLiving_26, e_X2_drawLiving_27, e_X2_drawLiving_29, e_X2_drawLiving_30, e_X2_drawLiving_33, e_X2_drawLiving_34, e_X2_drawLiving_37, e_X2_drawLiving_39, e_X2_drawLiving_40, e_X2_drawLiving_41, e_X2_drawLiving_42, e_X2_drawLiving_43, e_X2_drawLiving_44, e_X2_drawLiving_48, e_X2_drawLiving_49, e_X2_drawLiving_52, e_X2_drawLiving_55, e_X2_drawLiving_56, e_X2_drawLiving_58, e_X2_drawLiving_61, e_X2_drawLiving_64, e_X2_drawLiving_65, e_X2_drawLiving_68, e_X2_drawLiving_70, e_X2_drawLiving_71, e_X2_drawLiving_74, e_X2_drawLiving_77, e_X2_drawLiving_80, e_X2_drawLiving_81, c_T0 ht, g_T0_4 ht, hI, if_neg (nI_ge (show p < N by omega) (by omega : N < 2 ^ 31)), t_lives ht (show p < 12 by omega), h6, nI_1, ih (p + 1) _ (by omega), Option.bind_some, Option.isSome_some, Option.toList, List.cons_append, List.nil_append, zclr_i, zclr_r, zclr_n, zfit_i, zfit_l, and_self, if_true, if_false]
        by_cases h3 : I (t + 6) p = -1
        · by_cases h4 : x = 0 <;> simp [h3, h4, bI]
        · simp [h3, bI]
    exact h2 N 0 _ (by omega)
end AC
