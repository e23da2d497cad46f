/-! THE TOWN: what was liked, the eldest, those added, born and buried -/
section TW3
variable {n m : Nat} {g : Nat → zC} {I : Nat → Nat → Int32} {J : Nat → Nat → Int64}
def tLiked (I : Nat → Nat → Int32) (b p K : Nat) (s : Int32) : Int32 := zfind (fun k => decide (I (b + 13) (p * 6 + k) = s)) (fun _ => 1) 0 0 K
theorem t_hasLiked {b p K : Nat} {s : Int32} (hb : isTown b) (hp : p < 12) (hK : I (b + 12) p = nI K) (h6 : K ≤ 6) (d : Nat) : zcall (d + 1) 101 [.ref b, .int (nI p), .int s] (mk n m g I J) = some (some (.int (tLiked I b p K s)), mk n m g I J) := by
  rw [m_X7_hasLiked]
  simp only [e_X7_hasLiked_0, e_X7_hasLiked_1, e_X7_hasLiked_3, e_X7_hasLiked_4, e_X7_hasLiked_7, e_X7_hasLiked_8, e_X7_hasLiked_9, e_X7_hasLiked_12, e_X7_hasLiked_13, e_X7_hasLiked_14, e_X7_hasLiked_15, e_X7_hasLiked_18, e_X7_hasLiked_19, e_X7_hasLiked_22, e_X7_hasLiked_23, e_X7_hasLiked_24, e_X7_hasLiked_27, e_X7_hasLiked_30, e_X7_hasLiked_31, Option.bind_some, Option.isSome_some, Option.toList, List.cons_append, List.nil_append, zclr_i, zclr_r, zclr_n, zfit_i, zfit_l, and_self, if_true, if_false]
  have h := zsearch (fun k => zexec (d + 1) 101 2 [some (.ref b), some (.int (nI p)), some (.int s), some (.int (nI k))] [] (mk n m g I J)) (fun k => decide (I (b + 13) (p * 6 + k) = s)) (fun k => some (some (.int 1), mk n m g I J)) K ?_ K 0 (by omega)
  · refine h.trans ?_
    have h2 : zexec (d + 1) 101 2 [some (.ref b), some (.int (nI p)), some (.int s), some (.int (nI K))] [] (mk n m g I J) = some (some (.int 0), mk n m g I J) := by
      rw [e_X7_hasLiked_2]
      simp only [e_X7_hasLiked_0, e_X7_hasLiked_1, e_X7_hasLiked_3, e_X7_hasLiked_4, e_X7_hasLiked_7, e_X7_hasLiked_8, e_X7_hasLiked_9, e_X7_hasLiked_12, e_X7_hasLiked_13, e_X7_hasLiked_14, e_X7_hasLiked_15, e_X7_hasLiked_18, e_X7_hasLiked_19, e_X7_hasLiked_22, e_X7_hasLiked_23, e_X7_hasLiked_24, e_X7_hasLiked_27, e_X7_hasLiked_30, e_X7_hasLiked_31, g_T0_17 hb, l_T12 hb hp, hK, if_pos (nI_le (Nat.le_refl K) (by omega : K < 2 ^ 31)), zfit_b0, Option.bind_some, Option.isSome_some, Option.toList, List.cons_append, List.nil_append, zclr_i, zclr_r, zclr_n, zfit_i, zfit_l, and_self, if_true, if_false]
    rw [h2]
    exact zfind_app (fun v => some (some (Value.int v), mk n m g I J)) _ (fun _ => 1) 0 K 0
  · intro k hk
    rw [e_X7_hasLiked_2]
    simp only [e_X7_hasLiked_0, e_X7_hasLiked_1, e_X7_hasLiked_3, e_X7_hasLiked_4, e_X7_hasLiked_7, e_X7_hasLiked_8, e_X7_hasLiked_9, e_X7_hasLiked_12, e_X7_hasLiked_13, e_X7_hasLiked_14, e_X7_hasLiked_15, e_X7_hasLiked_18, e_X7_hasLiked_19, e_X7_hasLiked_22, e_X7_hasLiked_23, e_X7_hasLiked_24, e_X7_hasLiked_27, e_X7_hasLiked_30, e_X7_hasLiked_31, c_T0 hb, g_T0_17 hb, l_T12 hb hp, hK, t_likedAt hb (show p * 6 + k < 72 by omega), if_neg (nI_ge hk (by omega : K < 2 ^ 31)), nI_1, zfit_b1, Option.bind_some, Option.isSome_some, Option.toList, List.cons_append, List.nil_append, zclr_i, zclr_r, zclr_n, zfit_i, zfit_l, and_self, if_true, if_false]
    by_cases h1 : I (b + 13) (p * 6 + k) = s <;> simp [h1]
/-- the eldest of a set, so far -/
def tEld (I : Nat → Nat → Int32) (b : Nat) (s : Int32) (p : Nat) (a : Option Nat) : Option Nat := if s >>> (nI p &&& 31) &&& 1 = 0 then a else match a with | none => some p | some q => if I (b + 5) p < I (b + 5) q then some p else some q
def oI (a : Option Nat) : Int32 := match a with | none => -1 | some p => nI p
theorem t_eldest {b N : Nat} {s : Int32} (hb : isTown b) (hN : I b 4 = nI N) (h12 : N ≤ 12) (d : Nat) : zcall d 97 [.ref b, .int s] (mk n m g I J) = some (some (.int (oI (zfor (tEld I b s) 0 N none))), mk n m g I J) := by
  rw [m_X7_eldest]
  simp only [e_X7_eldest_0, e_X7_eldest_1, e_X7_eldest_2, e_X7_eldest_3, e_X7_eldest_5, e_X7_eldest_6, e_X7_eldest_9, e_X7_eldest_12, e_X7_eldest_13, e_X7_eldest_14, e_X7_eldest_15, e_X7_eldest_16, e_X7_eldest_17, e_X7_eldest_20, e_X7_eldest_21, e_X7_eldest_22, e_X7_eldest_25, e_X7_eldest_26, e_X7_eldest_29, e_X7_eldest_30, e_X7_eldest_31, e_X7_eldest_32, e_X7_eldest_35, e_X7_eldest_36, e_X7_eldest_37, e_X7_eldest_40, e_X7_eldest_41, e_X7_eldest_42, e_X7_eldest_45, e_X7_eldest_48, e_X7_eldest_49, Option.bind_some, Option.isSome_some, Option.toList, List.cons_append, List.nil_append, zclr_i, zclr_r, zclr_n, zfit_i, zfit_l, and_self, if_true, if_false]
  have h := zloopI (fun p (a : Option Nat) => zexec d 97 4 [some (.ref b), some (.int s), some (.int (oI a)), some (.int (nI p))] [] (mk n m g I J)) (tEld I b s) (fun _ a => ∀ q, a = some q → q < 12) N ?_ N 0 none (by omega) (by intro q hq; cases hq)
  · refine h.1.trans ?_
    rw [e_X7_eldest_4]
    simp only [e_X7_eldest_0, e_X7_eldest_1, e_X7_eldest_2, e_X7_eldest_3, e_X7_eldest_5, e_X7_eldest_6, e_X7_eldest_9, e_X7_eldest_12, e_X7_eldest_13, e_X7_eldest_14, e_X7_eldest_15, e_X7_eldest_16, e_X7_eldest_17, e_X7_eldest_20, e_X7_eldest_21, e_X7_eldest_22, e_X7_eldest_25, e_X7_eldest_26, e_X7_eldest_29, e_X7_eldest_30, e_X7_eldest_31, e_X7_eldest_32, e_X7_eldest_35, e_X7_eldest_36, e_X7_eldest_37, e_X7_eldest_40, e_X7_eldest_41, e_X7_eldest_42, e_X7_eldest_45, e_X7_eldest_48, e_X7_eldest_49, g_T0_4 hb, hN, if_pos (nI_le (Nat.le_refl N) (by omega : N < 2 ^ 31)), Option.bind_some, Option.isSome_some, Option.toList, List.cons_append, List.nil_append, zclr_i, zclr_r, zclr_n, zfit_i, zfit_l, and_self, if_true, if_false]
  · intro p a hp ha
    rw [e_X7_eldest_4]
    simp only [e_X7_eldest_0, e_X7_eldest_1, e_X7_eldest_2, e_X7_eldest_3, e_X7_eldest_5, e_X7_eldest_6, e_X7_eldest_9, e_X7_eldest_12, e_X7_eldest_13, e_X7_eldest_14, e_X7_eldest_15, e_X7_eldest_16, e_X7_eldest_17, e_X7_eldest_20, e_X7_eldest_21, e_X7_eldest_22, e_X7_eldest_25, e_X7_eldest_26, e_X7_eldest_29, e_X7_eldest_30, e_X7_eldest_31, e_X7_eldest_32, e_X7_eldest_35, e_X7_eldest_36, e_X7_eldest_37, e_X7_eldest_40, e_X7_eldest_41, e_X7_eldest_42, e_X7_eldest_45, e_X7_eldest_48, e_X7_eldest_49, g_T0_4 hb, g_T0_10 hb, hN, l_T5 hb (show p < 12 by omega), if_neg (nI_ge hp (by omega : N < 2 ^ 31)), nI_1, Option.bind_some, Option.isSome_some, Option.toList, List.cons_append, List.nil_append, zclr_i, zclr_r, zclr_n, zfit_i, zfit_l, and_self, if_true, if_false]
    unfold tEld
    by_cases h1 : s >>> (nI p &&& 31) &&& 1 = 0
    · simp only [h1, if_true]
      exact ⟨trivial, ha⟩
    · cases a with
      | none =>
        simp only [h1, oI, if_true, if_false]
        refine ⟨trivial, ?_⟩
        intro q hq
        cases hq
        omega
      | some q =>
        have hq := ha q rfl
        simp only [h1, oI, nI_m1 (show q < 2 ^ 31 by omega), l_T5 hb hq, Option.bind_some, if_true, if_false]
        by_cases h2 : I (b + 5) p < I (b + 5) q
        · simp only [h2, Int32.not_le.mpr h2, if_true, if_false]
          refine ⟨trivial, ?_⟩
          intro r hr
          cases hr
          omega
        · simp only [h2, Int32.not_lt.mp h2, if_true, if_false]
          exact ⟨trivial, ha⟩
theorem t_addSurname {b N : Nat} {w : Int64} (hb : isTown b) (hN : I b 3 = nI N) (h6 : N < 6) (d : Nat) : zcall d 78 [.ref b, .long w] (mk n m g I J) = some (some (.int (nI N)), mk n m g (zu (zu (zu I (b + 2) N 10) (b + 3) N (-1)) b 3 (nI (N + 1))) (zu J (b + 1) N w)) := by
  rw [m_X7_addSurname]
  simp only [e_X7_addSurname_0, e_X7_addSurname_1, e_X7_addSurname_4, e_X7_addSurname_5, e_X7_addSurname_6, e_X7_addSurname_9, e_X7_addSurname_10, e_X7_addSurname_11, e_X7_addSurname_12, e_X7_addSurname_13, e_X7_addSurname_16, e_X7_addSurname_17, e_X7_addSurname_19, e_X7_addSurname_20, e_X7_addSurname_21, e_X7_addSurname_24, e_X7_addSurname_25, e_X7_addSurname_26, e_X7_addSurname_27, e_X7_addSurname_28, e_X7_addSurname_29, e_X7_addSurname_32, e_X7_addSurname_33, e_X7_addSurname_34, e_X7_addSurname_37, e_X7_addSurname_38, g_T0_3 hb, g_T0_6 hb, g_T0_7 hb, g_T0_8 hb, hN, nI_neg (show N < 2 ^ 31 by omega), nI_clamp (show N < 2 ^ 31 by omega), k_T1 hb h6, k_T2 hb h6, k_T3 hb h6, q_T1 hb, q_T2 hb, q_T3 hb, p_T0_3 hb, nI_1, zu_o0 (i := 2) (by decide), zu_o0 (i := 3) (by decide), Option.bind_some, Option.isSome_some, Option.toList, List.cons_append, List.nil_append, zclr_i, zclr_r, zclr_n, zfit_i, zfit_l, and_self, if_true, if_false]
/-- a person more, without the count -/
def tAdd (I : Nat → Nat → Int32) (b p : Nat) (y : Int32) : Nat → Nat → Int32 := zu (zu (zu (zu (zu (zu (zu (zu (zu (zu I (b + 5) p y) (b + 6) p (-1)) (b + 7) p (-1)) (b + 8) p 0) (b + 9) p (-1)) (b + 10) (2 * p) (-1)) (b + 10) (2 * p + 1) (-1)) (b + 11) p (-1)) (b + 12) p 0) b 4 (nI (p + 1))
theorem t_addPerson {b N : Nat} {w : Int64} {y : Int32} (hb : isTown b) (hN : I b 4 = nI N) (h12 : N < 12) (d : Nat) : zcall (d + 1) 79 [.ref b, .long w, .int y] (mk n m g I J) = some (some (.int (nI N)), mk n m g (tAdd I b N y) (zu J (b + 4) N w)) := by
  rw [m_X7_addPerson]
  simp only [e_X7_addPerson_0, e_X7_addPerson_1, e_X7_addPerson_4, e_X7_addPerson_6, e_X7_addPerson_7, e_X7_addPerson_10, e_X7_addPerson_12, e_X7_addPerson_13, e_X7_addPerson_14, e_X7_addPerson_15, e_X7_addPerson_18, e_X7_addPerson_20, e_X7_addPerson_21, e_X7_addPerson_22, e_X7_addPerson_23, e_X7_addPerson_26, e_X7_addPerson_28, e_X7_addPerson_29, e_X7_addPerson_30, e_X7_addPerson_31, e_X7_addPerson_34, e_X7_addPerson_36, e_X7_addPerson_37, e_X7_addPerson_38, e_X7_addPerson_39, e_X7_addPerson_42, e_X7_addPerson_44, e_X7_addPerson_45, e_X7_addPerson_46, e_X7_addPerson_47, e_X7_addPerson_50, e_X7_addPerson_52, e_X7_addPerson_53, e_X7_addPerson_54, e_X7_addPerson_55, e_X7_addPerson_57, e_X7_addPerson_58, e_X7_addPerson_59, e_X7_addPerson_62, e_X7_addPerson_63, e_X7_addPerson_66, e_X7_addPerson_68, e_X7_addPerson_69, e_X7_addPerson_70, e_X7_addPerson_71, e_X7_addPerson_74, e_X7_addPerson_76, e_X7_addPerson_77, e_X7_addPerson_78, e_X7_addPerson_79, e_X7_addPerson_80, e_X7_addPerson_83, e_X7_addPerson_84, e_X7_addPerson_85, e_X7_addPerson_88, e_X7_addPerson_90, c_T0 hb, g_T0_4 hb, g_T0_9 hb, g_T0_10 hb, g_T0_11 hb, g_T0_12 hb, g_T0_13 hb, g_T0_14 hb, g_T0_16 hb, g_T0_17 hb, hN, nI_neg (show N < 2 ^ 31 by omega), nI_clamp (show N < 2 ^ 31 by omega), k_T4 hb h12, k_T5 hb h12, k_T6 hb h12, k_T7 hb h12, k_T8 hb h12, k_T9 hb h12, k_T11 hb h12, k_T12 hb h12, q_T4 hb, q_T5 hb, q_T6 hb, q_T7 hb, q_T8 hb, q_T9 hb, q_T11 hb, q_T12 hb, t_tellParents hb h12, p_T0_4 hb, nI_1, zu_o0 (i := 5) (by decide), zu_o0 (i := 6) (by decide), zu_o0 (i := 7) (by decide), zu_o0 (i := 8) (by decide), zu_o0 (i := 9) (by decide), zu_o0 (i := 10) (by decide), zu_o0 (i := 11) (by decide), zu_o0 (i := 12) (by decide), Option.bind_some, Option.isSome_some, Option.toList, List.cons_append, List.nil_append, zclr_i, zclr_r, zclr_n, zfit_i, zfit_l, and_self, if_true, if_false]
  rfl
def tUnder (I : Nat → Nat → Int32) (b N p : Nat) : Int32 := if I (b + 7) p ≠ -1 ∧ 0 < tFree I b (I (b + 7) p) N then I (b + 7) p else -1
theorem t_placeUnder {b N p : Nat} (hb : isTown b) (hN : I b 4 = nI N) (h12 : N ≤ 12) (hp : p < 12) (d : Nat) : zcall (d + 1) 109 [.ref b, .int (nI p)] (mk n m g I J) = some (some (.int (tUnder I b N p)), mk n m g I J) := by
  rw [m_X7_placeUnder]
  simp only [e_X7_placeUnder_0, e_X7_placeUnder_1, e_X7_placeUnder_4, e_X7_placeUnder_5, e_X7_placeUnder_6, e_X7_placeUnder_7, e_X7_placeUnder_10, e_X7_placeUnder_11, e_X7_placeUnder_12, e_X7_placeUnder_15, e_X7_placeUnder_16, e_X7_placeUnder_17, e_X7_placeUnder_20, e_X7_placeUnder_23, e_X7_placeUnder_24, e_X7_placeUnder_27, e_X7_placeUnder_28, e_X7_placeUnder_29, e_X7_placeUnder_32, e_X7_placeUnder_33, c_T0 hb, g_T0_12 hb, l_T7 hb hp, t_free hb hN h12, Option.bind_some, Option.isSome_some, Option.toList, List.cons_append, List.nil_append, zclr_i, zclr_r, zclr_n, zfit_i, zfit_l, and_self, if_true, if_false]
  unfold tUnder
  by_cases h1 : I (b + 7) p = -1
  · simp [h1]
  · by_cases h2 : 0 < tFree I b (I (b + 7) p) N
    · simp [h1, h2, Int32.not_le.mpr h2]
    · simp [h1, h2]
theorem t_bear {b N p q : Nat} (hb : isTown b) (hN : I b 4 = nI N) (h12 : N < 12) (hp : p < 12) (hq : q < 12) (d : Nat) : zcall (d + 2) 108 [.ref b, .int (nI p), .int (nI q)] (mk n m g I J) = some (some (.int (nI N)), mk n m g (zu (zu (zu (tAdd I b N (I b 0)) (b + 7) N (if tUnder I b N p = -1 then tUnder I b N q else tUnder I b N p)) (b + 10) (2 * N) (nI p)) (b + 10) (2 * N + 1) (nI q)) (zu J (b + 4) N (-1))) := by
  rw [m_X7_bear]
  simp only [e_X7_bear_0, e_X7_bear_1, e_X7_bear_2, e_X7_bear_5, e_X7_bear_6, e_X7_bear_7, e_X7_bear_8, e_X7_bear_11, e_X7_bear_12, e_X7_bear_13, e_X7_bear_16, e_X7_bear_17, e_X7_bear_18, e_X7_bear_21, e_X7_bear_22, e_X7_bear_25, e_X7_bear_28, e_X7_bear_30, e_X7_bear_31, e_X7_bear_34, e_X7_bear_36, e_X7_bear_37, e_X7_bear_38, e_X7_bear_39, e_X7_bear_41, e_X7_bear_42, e_X7_bear_43, e_X7_bear_46, e_X7_bear_48, c_T0 hb, g_T0_0 hb, g_T0_12 hb, t_placeUnder hb hN (show N ≤ 12 by omega) hp, t_placeUnder hb hN (show N ≤ 12 by omega) hq, t_addPerson hb hN h12, t_tellParents hb h12, nI_neg (show N < 2 ^ 31 by omega), nI_clamp (show N < 2 ^ 31 by omega), k_T7 hb h12, q_T7 hb, Option.bind_some, Option.isSome_some, Option.toList, List.cons_append, List.nil_append, zclr_i, zclr_r, zclr_n, zfit_i, zfit_l, and_self, if_true, if_false]
  by_cases h1 : tUnder I b N p = -1 <;> simp [h1]
def tDiv (I : Nat → Nat → Int32) (b p : Nat) : Nat → Nat → Int32 := if I (b + 9) p = -1 then I else zu (zu I (b + 9) (I (b + 9) p).toNatClampNeg (-1)) (b + 9) p (-1)
def tBury (I : Nat → Nat → Int32) (b Q p : Nat) : Nat → Nat → Int32 := tDiv (qPress (fun I k => decide (I (b + 15) k ≠ nI p)) b Q (zu (zu I (b + 6) p (I b 0)) (b + 11) p (-1))) b p
theorem qFor_far {b a : Nat} (c : (Nat → Nat → Int32) → Nat → Bool) (h15 : a ≠ b + 15) (h16 : a ≠ b + 16) : ∀ k p (x : Nat × (Nat → Nat → Int32)), (zfor (qStep c b) p k x).2 a = x.2 a
  | 0, _, _ => rfl
  | k + 1, p, x => by
    rw [zfor, qFor_far c h15 h16 k (p + 1) _]
    unfold qStep
    split
    · show zu (zu x.2 _ _ _) _ _ _ a = _
      rw [zu_far _ _ _ h16, zu_far _ _ _ h15]
    · rfl
theorem qPress_far {b a Q : Nat} (c : (Nat → Nat → Int32) → Nat → Bool) (h14 : a ≠ b + 14) (h15 : a ≠ b + 15) (h16 : a ≠ b + 16) : qPress c b Q I a = I a := by
  unfold qPress
  rw [zu_far _ _ _ h14, qFor_far c h15 h16]
theorem t_bury {b p Q : Nat} (hb : isTown b) (hp : p < 12) (hQ : I (b + 14) 2 = nI Q) (h12 : Q ≤ 12) (hw : I (b + 9) p = -1 ∨ ∃ q, q < 12 ∧ I (b + 9) p = nI q) (d : Nat) : zcall (d + 1) 105 [.ref b, .int (nI p)] (mk n m g I J) = some (none, mk n m g (tBury I b Q p) J) := by
  rw [m_X7_bury]
  have hQ2 : (zu (zu I (b + 6) p (I b 0)) (b + 11) p (-1)) (b + 14) 2 = nI Q := by simp only [zu_oo (i := 11) (j := 14) (by decide), zu_oo (i := 6) (j := 14) (by decide), hQ]
  have e9 : ∀ c, qPress c b Q (zu (zu I (b + 6) p (I b 0)) (b + 11) p (-1)) (b + 9) = I (b + 9) := fun c => by
    rw [qPress_far c (by omega) (by omega) (by omega)]
    simp only [zu_oo (i := 11) (j := 9) (by decide), zu_oo (i := 6) (j := 9) (by decide)]
  simp only [e_X7_bury_0, e_X7_bury_1, e_X7_bury_4, e_X7_bury_5, e_X7_bury_6, e_X7_bury_9, e_X7_bury_10, e_X7_bury_11, e_X7_bury_14, e_X7_bury_15, e_X7_bury_16, e_X7_bury_17, e_X7_bury_18, e_X7_bury_21, e_X7_bury_22, e_X7_bury_25, e_X7_bury_26, e_X7_bury_27, e_X7_bury_30, c_T0 hb, c_T14 hb, g_T0_0 hb, g_T0_11 hb, g_T0_16 hb, g_T0_19 hb, nI_neg (show p < 2 ^ 31 by omega), nI_clamp (show p < 2 ^ 31 by omega), k_T6 hb hp, k_T11 hb hp, q_T6 hb, q_T11 hb, q_drop hb hQ2 h12, Option.bind_some, Option.isSome_some, Option.toList, List.cons_append, List.nil_append, zclr_i, zclr_r, zclr_n, zfit_i, zfit_l, and_self, if_true, if_false]
  rw [t_divorce hb hp (by rw [e9]; exact hw)]
  simp only [e_X7_bury_0, e_X7_bury_1, e_X7_bury_4, e_X7_bury_5, e_X7_bury_6, e_X7_bury_9, e_X7_bury_10, e_X7_bury_11, e_X7_bury_14, e_X7_bury_15, e_X7_bury_16, e_X7_bury_17, e_X7_bury_18, e_X7_bury_21, e_X7_bury_22, e_X7_bury_25, e_X7_bury_26, e_X7_bury_27, e_X7_bury_30, Option.bind_some, Option.isSome_some, Option.toList, List.cons_append, List.nil_append, zclr_i, zclr_r, zclr_n, zfit_i, zfit_l, and_self, if_true, if_false]
  rfl
end TW3
