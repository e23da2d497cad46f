/-! THE QUEUE -/
section QU
variable {n m : Nat} {g : Nat → zC} {I : Nat → Nat → Int32} {J : Nat → Nat → Int64}
def qPlace (I : Nat → Nat → Int32) (b : Nat) (x : Int32) (Q : Nat) : Int32 := zfind (fun k => decide (I (b + 15) k = x)) nI (-1) 0 Q
theorem q_placeOf {b Q : Nat} {x : Int32} (hb : isTown b) (hQ : I (b + 14) 2 = nI Q) (h12 : Q ≤ 12) (d : Nat) : zcall d 39 [.ref (b + 14), .int x] (mk n m g I J) = some (some (.int (qPlace I b x Q)), mk n m g I J) := by
  rw [m_X3_placeOf]
  simp only [e_X3_placeOf_0, e_X3_placeOf_1, e_X3_placeOf_3, e_X3_placeOf_4, e_X3_placeOf_7, e_X3_placeOf_10, e_X3_placeOf_11, e_X3_placeOf_14, e_X3_placeOf_15, e_X3_placeOf_16, e_X3_placeOf_17, e_X3_placeOf_20, e_X3_placeOf_21, e_X3_placeOf_22, e_X3_placeOf_25, e_X3_placeOf_28, e_X3_placeOf_29, Option.bind_some, Option.isSome_some, Option.toList, List.cons_append, List.nil_append, zclr_i, zclr_r, zclr_n, zfit_i, zfit_l, and_self, if_true, if_false]
  have h := zsearch (fun k => zexec d 39 2 [some (.ref (b + 14)), some (.int x), some (.int (nI k))] [] (mk n m g I J)) (fun k => decide (I (b + 15) k = x)) (fun k => some (some (.int (nI k)), mk n m g I J)) Q ?_ Q 0 (by omega)
  · refine h.trans ?_
    have h2 : zexec d 39 2 [some (.ref (b + 14)), some (.int x), some (.int (nI Q))] [] (mk n m g I J) = some (some (.int (-1)), mk n m g I J) := by
      rw [e_X3_placeOf_2]
      simp only [e_X3_placeOf_0, e_X3_placeOf_1, e_X3_placeOf_3, e_X3_placeOf_4, e_X3_placeOf_7, e_X3_placeOf_10, e_X3_placeOf_11, e_X3_placeOf_14, e_X3_placeOf_15, e_X3_placeOf_16, e_X3_placeOf_17, e_X3_placeOf_20, e_X3_placeOf_21, e_X3_placeOf_22, e_X3_placeOf_25, e_X3_placeOf_28, e_X3_placeOf_29, g_T14_2 hb, hQ, if_pos (nI_le (Nat.le_refl Q) (by omega : Q < 2 ^ 31)), Option.bind_some, Option.isSome_some, Option.toList, List.cons_append, List.nil_append, zclr_i, zclr_r, zclr_n, zfit_i, zfit_l, and_self, if_true, if_false]
    rw [h2]
    exact zfind_app (fun v => some (some (Value.int v), mk n m g I J)) _ nI (-1) Q 0
  · intro k hk
    rw [e_X3_placeOf_2]
    simp only [e_X3_placeOf_0, e_X3_placeOf_1, e_X3_placeOf_3, e_X3_placeOf_4, e_X3_placeOf_7, e_X3_placeOf_10, e_X3_placeOf_11, e_X3_placeOf_14, e_X3_placeOf_15, e_X3_placeOf_16, e_X3_placeOf_17, e_X3_placeOf_20, e_X3_placeOf_21, e_X3_placeOf_22, e_X3_placeOf_25, e_X3_placeOf_28, e_X3_placeOf_29, g_T14_2 hb, g_T14_0 hb, hQ, l_T15 hb (show k < 12 by omega), if_neg (nI_ge hk (by omega : Q < 2 ^ 31)), nI_1, Option.bind_some, Option.isSome_some, Option.toList, List.cons_append, List.nil_append, zclr_i, zclr_r, zclr_n, zfit_i, zfit_l, and_self, if_true, if_false]
    by_cases h1 : I (b + 15) k = x <;> simp [h1]
theorem q_add {b Q : Nat} {x s : Int32} (hb : isTown b) (hQ : I (b + 14) 2 = nI Q) (h12 : Q < 12) (d : Nat) : zcall d 40 [.ref (b + 14), .int x, .int s] (mk n m g I J) = some (none, mk n m g (zu (zu (zu I (b + 15) Q x) (b + 16) Q s) (b + 14) 2 (nI (Q + 1))) J) := by
  rw [m_X3_add]
  simp only [e_X3_add_0, e_X3_add_1, e_X3_add_4, e_X3_add_6, e_X3_add_9, e_X3_add_10, e_X3_add_13, e_X3_add_14, e_X3_add_17, e_X3_add_18, e_X3_add_19, e_X3_add_20, e_X3_add_23, e_X3_add_24, e_X3_add_27, e_X3_add_28, e_X3_add_29, e_X3_add_30, e_X3_add_31, e_X3_add_34, e_X3_add_35, e_X3_add_36, e_X3_add_39, g_T14_0 hb, g_T14_1 hb, g_T14_2 hb, hQ, if_neg (show ¬ (12 : Int32) ≤ nI Q from nI_ge (b := 12) h12 (by decide)), nI_neg (show Q < 2 ^ 31 by omega), nI_clamp (show Q < 2 ^ 31 by omega), k_T15 hb h12, k_T16 hb h12, q_T15 hb, q_T16 hb, p_T14_2 hb, nI_1, zu_oo (i := 15) (j := 14) (by decide), zu_oo (i := 16) (j := 14) (by decide), Option.bind_some, Option.isSome_some, Option.toList, List.cons_append, List.nil_append, zclr_i, zclr_r, zclr_n, zfit_i, zfit_l, and_self, if_true, if_false]
/-- one step of pressing the queue together: entry k is kept where c says so -/
def qStep (c : (Nat → Nat → Int32) → Nat → Bool) (b : Nat) (k : Nat) (a : Nat × (Nat → Nat → Int32)) : Nat × (Nat → Nat → Int32) := if c a.2 k = true then (a.1 + 1, zu (zu a.2 (b + 15) a.1 (a.2 (b + 15) k)) (b + 16) a.1 (a.2 (b + 16) k)) else a
def qPress (c : (Nat → Nat → Int32) → Nat → Bool) (b Q : Nat) (I : Nat → Nat → Int32) : Nat → Nat → Int32 := zu (zfor (qStep c b) 0 Q (0, I)).2 (b + 14) 2 (nI (zfor (qStep c b) 0 Q (0, I)).1)
theorem q_drop {b Q : Nat} {x : Int32} (hb : isTown b) (hQ : I (b + 14) 2 = nI Q) (h12 : Q ≤ 12) (d : Nat) : zcall d 41 [.ref (b + 14), .int x] (mk n m g I J) = some (none, mk n m g (qPress (fun I k => decide (I (b + 15) k ≠ x)) b Q I) J) := by
  rw [m_X3_drop]
  simp only [e_X3_drop_0, e_X3_drop_1, e_X3_drop_2, e_X3_drop_3, e_X3_drop_5, e_X3_drop_6, e_X3_drop_9, e_X3_drop_12, e_X3_drop_13, e_X3_drop_16, e_X3_drop_17, e_X3_drop_18, e_X3_drop_19, e_X3_drop_22, e_X3_drop_23, e_X3_drop_26, e_X3_drop_27, e_X3_drop_28, e_X3_drop_31, e_X3_drop_32, e_X3_drop_33, e_X3_drop_34, e_X3_drop_35, e_X3_drop_38, e_X3_drop_39, e_X3_drop_40, e_X3_drop_43, e_X3_drop_44, e_X3_drop_45, e_X3_drop_46, e_X3_drop_49, e_X3_drop_52, e_X3_drop_55, e_X3_drop_56, e_X3_drop_57, e_X3_drop_60, Option.bind_some, Option.isSome_some, Option.toList, List.cons_append, List.nil_append, zclr_i, zclr_r, zclr_n, zfit_i, zfit_l, and_self, if_true, if_false]
  have h := zloopI (fun k (a : Nat × (Nat → Nat → Int32)) => zexec d 41 4 [some (.ref (b + 14)), some (.int x), some (.int (nI a.1)), some (.int (nI k))] [] (mk n m g a.2 J)) (qStep (fun I k => decide (I (b + 15) k ≠ x)) b) (fun k a => a.1 ≤ k ∧ a.2 (b + 14) = I (b + 14)) Q ?_ Q 0 (0, I) (by omega) ⟨Nat.le_refl _, rfl⟩
  · refine h.1.trans ?_
    obtain ⟨h1, h2⟩ := h.2
    rw [e_X3_drop_4]
    simp only [e_X3_drop_0, e_X3_drop_1, e_X3_drop_2, e_X3_drop_3, e_X3_drop_5, e_X3_drop_6, e_X3_drop_9, e_X3_drop_12, e_X3_drop_13, e_X3_drop_16, e_X3_drop_17, e_X3_drop_18, e_X3_drop_19, e_X3_drop_22, e_X3_drop_23, e_X3_drop_26, e_X3_drop_27, e_X3_drop_28, e_X3_drop_31, e_X3_drop_32, e_X3_drop_33, e_X3_drop_34, e_X3_drop_35, e_X3_drop_38, e_X3_drop_39, e_X3_drop_40, e_X3_drop_43, e_X3_drop_44, e_X3_drop_45, e_X3_drop_46, e_X3_drop_49, e_X3_drop_52, e_X3_drop_55, e_X3_drop_56, e_X3_drop_57, e_X3_drop_60, g_T14_2 hb, h2, hQ, if_pos (nI_le (Nat.le_refl Q) (by omega : Q < 2 ^ 31)), p_T14_2 hb, Option.bind_some, Option.isSome_some, Option.toList, List.cons_append, List.nil_append, zclr_i, zclr_r, zclr_n, zfit_i, zfit_l, and_self, if_true, if_false]
    rfl
  · intro k a hk ha
    obtain ⟨h1, h2⟩ := ha
    rw [e_X3_drop_4]
    simp only [e_X3_drop_0, e_X3_drop_1, e_X3_drop_2, e_X3_drop_3, e_X3_drop_5, e_X3_drop_6, e_X3_drop_9, e_X3_drop_12, e_X3_drop_13, e_X3_drop_16, e_X3_drop_17, e_X3_drop_18, e_X3_drop_19, e_X3_drop_22, e_X3_drop_23, e_X3_drop_26, e_X3_drop_27, e_X3_drop_28, e_X3_drop_31, e_X3_drop_32, e_X3_drop_33, e_X3_drop_34, e_X3_drop_35, e_X3_drop_38, e_X3_drop_39, e_X3_drop_40, e_X3_drop_43, e_X3_drop_44, e_X3_drop_45, e_X3_drop_46, e_X3_drop_49, e_X3_drop_52, e_X3_drop_55, e_X3_drop_56, e_X3_drop_57, e_X3_drop_60, g_T14_0 hb, g_T14_1 hb, g_T14_2 hb, h2, hQ, l_T15 hb (show k < 12 by omega), l_T16 hb (show k < 12 by omega), if_neg (nI_ge hk (by omega : Q < 2 ^ 31)), nI_neg (show a.1 < 2 ^ 31 by omega), nI_clamp (show a.1 < 2 ^ 31 by omega), k_T15 hb (show a.1 < 12 by omega), k_T16 hb (show a.1 < 12 by omega), q_T15 hb, q_T16 hb, nI_1, zu_oo (i := 15) (j := 16) (by decide), Option.bind_some, Option.isSome_some, Option.toList, List.cons_append, List.nil_append, zclr_i, zclr_r, zclr_n, zfit_i, zfit_l, and_self, if_true, if_false]
    unfold qStep
    by_cases h3 : a.2 (b + 15) k = x
    · simp only [h3, ne_eq, not_true, decide_false, if_true, Bool.false_eq_true, if_false]
      exact ⟨trivial, by omega, h2⟩
    · simp only [h3, ne_eq, not_false_eq_true, decide_true, if_true, if_false]
      refine ⟨trivial, by show a.1 + 1 ≤ k + 1; omega, ?_⟩
      simp only [zu_oo (i := 16) (j := 14) (by decide), zu_oo (i := 15) (j := 14) (by decide), h2]
/-- what the queue and the people are so that all indices are right -/
def qOk (I : Nat → Nat → Int32) (b Q : Nat) : Prop := ∀ k, k < Q → (∃ p, p < 12 ∧ I (b + 15) k = nI p)
theorem q_dropServed {b Q : Nat} (hb : isTown b) (hQ : I (b + 14) 2 = nI Q) (h12 : Q ≤ 12) (hq : qOk I b Q) (d : Nat) : zcall d 42 [.ref (b + 14), .ref (b + 7)] (mk n m g I J) = some (none, mk n m g (qPress (fun I k => decide (I (b + 7) (I (b + 15) k).toNatClampNeg ≠ I (b + 16) k)) b Q I) J) := by
  rw [m_X3_dropServed]
  simp only [e_X3_dropServed_0, e_X3_dropServed_1, e_X3_dropServed_2, e_X3_dropServed_3, e_X3_dropServed_5, e_X3_dropServed_6, e_X3_dropServed_9, e_X3_dropServed_12, e_X3_dropServed_13, e_X3_dropServed_14, e_X3_dropServed_17, e_X3_dropServed_18, e_X3_dropServed_19, e_X3_dropServed_20, e_X3_dropServed_21, e_X3_dropServed_24, e_X3_dropServed_25, e_X3_dropServed_26, e_X3_dropServed_29, e_X3_dropServed_30, e_X3_dropServed_33, e_X3_dropServed_34, e_X3_dropServed_35, e_X3_dropServed_38, e_X3_dropServed_39, e_X3_dropServed_40, e_X3_dropServed_41, e_X3_dropServed_42, e_X3_dropServed_45, e_X3_dropServed_46, e_X3_dropServed_47, e_X3_dropServed_50, e_X3_dropServed_51, e_X3_dropServed_52, e_X3_dropServed_53, e_X3_dropServed_56, e_X3_dropServed_59, e_X3_dropServed_62, e_X3_dropServed_63, e_X3_dropServed_64, e_X3_dropServed_67, Option.bind_some, Option.isSome_some, Option.toList, List.cons_append, List.nil_append, zclr_i, zclr_r, zclr_n, zfit_i, zfit_l, and_self, if_true, if_false]
  have h := zloopI (fun k (a : Nat × (Nat → Nat → Int32)) => zexec d 42 4 [some (.ref (b + 14)), some (.ref (b + 7)), some (.int (nI a.1)), some (.int (nI k))] [] (mk n m g a.2 J)) (qStep (fun I k => decide (I (b + 7) (I (b + 15) k).toNatClampNeg ≠ I (b + 16) k)) b) (fun k a => a.1 ≤ k ∧ a.2 (b + 14) = I (b + 14) ∧ ∀ j, k ≤ j → a.2 (b + 15) j = I (b + 15) j) Q ?_ Q 0 (0, I) (by omega) ⟨Nat.le_refl _, rfl, fun _ _ => rfl⟩
  · refine h.1.trans ?_
    obtain ⟨h1, h2, -⟩ := h.2
    rw [e_X3_dropServed_4]
    simp only [e_X3_dropServed_0, e_X3_dropServed_1, e_X3_dropServed_2, e_X3_dropServed_3, e_X3_dropServed_5, e_X3_dropServed_6, e_X3_dropServed_9, e_X3_dropServed_12, e_X3_dropServed_13, e_X3_dropServed_14, e_X3_dropServed_17, e_X3_dropServed_18, e_X3_dropServed_19, e_X3_dropServed_20, e_X3_dropServed_21, e_X3_dropServed_24, e_X3_dropServed_25, e_X3_dropServed_26, e_X3_dropServed_29, e_X3_dropServed_30, e_X3_dropServed_33, e_X3_dropServed_34, e_X3_dropServed_35, e_X3_dropServed_38, e_X3_dropServed_39, e_X3_dropServed_40, e_X3_dropServed_41, e_X3_dropServed_42, e_X3_dropServed_45, e_X3_dropServed_46, e_X3_dropServed_47, e_X3_dropServed_50, e_X3_dropServed_51, e_X3_dropServed_52, e_X3_dropServed_53, e_X3_dropServed_56, e_X3_dropServed_59, e_X3_dropServed_62, e_X3_dropServed_63, e_X3_dropServed_64, e_X3_dropServed_67, g_T14_2 hb, h2, hQ, if_pos (nI_le (Nat.le_refl Q) (by omega : Q < 2 ^ 31)), p_T14_2 hb, Option.bind_some, Option.isSome_some, Option.toList, List.cons_append, List.nil_append, zclr_i, zclr_r, zclr_n, zfit_i, zfit_l, and_self, if_true, if_false]
    rfl
  · intro k a hk ha
    obtain ⟨h1, h2, h4⟩ := ha
    obtain ⟨p, hp, hpk⟩ := hq k hk
    have hpk2 : a.2 (b + 15) k = nI p := (h4 k (Nat.le_refl _)).trans hpk
    rw [e_X3_dropServed_4]
    simp only [e_X3_dropServed_0, e_X3_dropServed_1, e_X3_dropServed_2, e_X3_dropServed_3, e_X3_dropServed_5, e_X3_dropServed_6, e_X3_dropServed_9, e_X3_dropServed_12, e_X3_dropServed_13, e_X3_dropServed_14, e_X3_dropServed_17, e_X3_dropServed_18, e_X3_dropServed_19, e_X3_dropServed_20, e_X3_dropServed_21, e_X3_dropServed_24, e_X3_dropServed_25, e_X3_dropServed_26, e_X3_dropServed_29, e_X3_dropServed_30, e_X3_dropServed_33, e_X3_dropServed_34, e_X3_dropServed_35, e_X3_dropServed_38, e_X3_dropServed_39, e_X3_dropServed_40, e_X3_dropServed_41, e_X3_dropServed_42, e_X3_dropServed_45, e_X3_dropServed_46, e_X3_dropServed_47, e_X3_dropServed_50, e_X3_dropServed_51, e_X3_dropServed_52, e_X3_dropServed_53, e_X3_dropServed_56, e_X3_dropServed_59, e_X3_dropServed_62, e_X3_dropServed_63, e_X3_dropServed_64, e_X3_dropServed_67, g_T14_0 hb, g_T14_1 hb, g_T14_2 hb, h2, hQ, l_T15 hb (show k < 12 by omega), l_T16 hb (show k < 12 by omega), hpk2, l_T7 hb hp, if_neg (nI_ge hk (by omega : Q < 2 ^ 31)), nI_neg (show a.1 < 2 ^ 31 by omega), nI_clamp (show a.1 < 2 ^ 31 by omega), k_T15 hb (show a.1 < 12 by omega), k_T16 hb (show a.1 < 12 by omega), q_T15 hb, q_T16 hb, nI_1, zu_oo (i := 15) (j := 16) (by decide), Option.bind_some, Option.isSome_some, Option.toList, List.cons_append, List.nil_append, zclr_i, zclr_r, zclr_n, zfit_i, zfit_l, and_self, if_true, if_false]
    unfold qStep
    simp only [hpk2, nI_clamp (show p < 2 ^ 31 by omega)]
    by_cases h3 : a.2 (b + 7) p = a.2 (b + 16) k
    · simp only [h3, ne_eq, not_true, decide_false, if_true, Bool.false_eq_true, if_false]
      exact ⟨trivial, by omega, h2, fun j hj => h4 j (by omega)⟩
    · simp only [h3, ne_eq, not_false_eq_true, decide_true, if_true, if_false]
      refine ⟨trivial, by show a.1 + 1 ≤ k + 1; omega, ?_, fun j hj => ?_⟩
      · simp only [zu_oo (i := 16) (j := 14) (by decide), zu_oo (i := 15) (j := 14) (by decide), h2]
      · simp only [zu_oo (i := 16) (j := 15) (by decide), zu_row, if_neg (show ¬ j = a.1 by omega)]
        exact h4 j (by omega)
theorem t_canAsk {b p Q : Nat} {s : Int32} (hb : isTown b) (hp : p < 12) (hQ : I (b + 14) 2 = nI Q) (h12 : Q ≤ 12) (d : Nat) : zcall (d + 1) 118 [.ref b, .int (nI p), .int s] (mk n m g I J) = some (some (.int (bI (decide (I (b + 6) p = -1 ∧ I (b + 7) p ≠ s ∧ (qPlace I b (nI p) Q = -1 ∨ I (b + 16) (qPlace I b (nI p) Q).toNatClampNeg ≠ s))))), mk n m g I J) := by
  rw [m_X7_canAsk]
  simp only [e_X7_canAsk_0, e_X7_canAsk_1, e_X7_canAsk_2, e_X7_canAsk_5, e_X7_canAsk_8, e_X7_canAsk_9, e_X7_canAsk_12, e_X7_canAsk_13, e_X7_canAsk_14, e_X7_canAsk_15, e_X7_canAsk_18, e_X7_canAsk_19, e_X7_canAsk_20, e_X7_canAsk_21, e_X7_canAsk_24, e_X7_canAsk_25, e_X7_canAsk_28, e_X7_canAsk_29, e_X7_canAsk_30, e_X7_canAsk_31, e_X7_canAsk_34, e_X7_canAsk_35, e_X7_canAsk_38, e_X7_canAsk_41, e_X7_canAsk_42, e_X7_canAsk_43, e_X7_canAsk_44, e_X7_canAsk_47, e_X7_canAsk_48, e_X7_canAsk_51, e_X7_canAsk_52, c_T0 hb, c_T14 hb, g_T0_12 hb, g_T0_19 hb, g_T14_1 hb, l_T7 hb hp, t_lives hb hp, q_placeOf hb hQ h12, Option.bind_some, Option.isSome_some, Option.toList, List.cons_append, List.nil_append, zclr_i, zclr_r, zclr_n, zfit_i, zfit_l, and_self, if_true, if_false]
  have hpl : qPlace I b (nI p) Q = -1 ∨ ∃ k, k < 12 ∧ qPlace I b (nI p) Q = nI k := by
    unfold qPlace
    have : ∀ k q, q + k ≤ 12 → zfind (fun k => decide (I (b + 15) k = nI p)) nI (-1) q k = -1 ∨ ∃ j, j < 12 ∧ zfind (fun k => decide (I (b + 15) k = nI p)) nI (-1) q k = nI j := by
      intro k
      induction k with
      | zero => intro q _; exact Or.inl rfl
      | succ k ih =>
        intro q hq
        rw [zfind]
        split
        · exact Or.inr ⟨q, by omega, rfl⟩
        · exact ih (q + 1) (by omega)
    exact this Q 0 (by omega)
  by_cases h1 : I (b + 6) p = -1
  · by_cases h2 : I (b + 7) p = s
    · simp [h1, h2, bI, zfit_b0]
    · rcases hpl with h3 | ⟨k, hk, h3⟩
      · simp [h1, h2, h3, bI, zfit_b1]
      · have h4 : nI k ≠ -1 := nI_m1 (by omega)
        rw [h3]
        simp only [l_T16 hb hk, nI_clamp (show k < 2 ^ 31 by omega), Option.bind_some]
        by_cases h5 : I (b + 16) k = s <;> simp [h1, h2, h4, h5, bI, zfit_b0, zfit_b1, e_X7_canAsk_0, e_X7_canAsk_1, e_X7_canAsk_2, e_X7_canAsk_5, e_X7_canAsk_8, e_X7_canAsk_9, e_X7_canAsk_12, e_X7_canAsk_13, e_X7_canAsk_14, e_X7_canAsk_15, e_X7_canAsk_18, e_X7_canAsk_19, e_X7_canAsk_20, e_X7_canAsk_21, e_X7_canAsk_24, e_X7_canAsk_25, e_X7_canAsk_28, e_X7_canAsk_29, e_X7_canAsk_30, e_X7_canAsk_31, e_X7_canAsk_34, e_X7_canAsk_35, e_X7_canAsk_38, e_X7_canAsk_41, e_X7_canAsk_42, e_X7_canAsk_43, e_X7_canAsk_44, e_X7_canAsk_47, e_X7_canAsk_48, e_X7_canAsk_51, e_X7_canAsk_52]
  · simp [h1, bI, zfit_b0]
end QU
