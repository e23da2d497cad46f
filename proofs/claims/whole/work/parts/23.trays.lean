/-! THE TRAYS, AND FILLING -/
section TR
variable {n m : Nat} {g : Nat → zC} {I : Nat → Nat → Int32} {J : Nat → Nat → Int64}
theorem r_7 {t : Nat} (ht : t < 4) : zag (mk n m g I J) 7 t = some (8 + t) := by
  rcases t with _ | _ | _ | _ | t
  · exact r_7_0
  · exact r_7_1
  · exact r_7_2
  · exact r_7_3
  · omega
theorem row_case {P : Nat → Prop} (h0 : P 0) (h1 : P 1) (h2 : P 2) (h3 : P 3) {t : Nat} (ht : t < 4) : P t := by
  rcases t with _ | _ | _ | _ | t
  · exact h0
  · exact h1
  · exact h2
  · exact h3
  · omega
theorem k_row {t k : Nat} (ht : t < 4) (hk : k < 60) : zlg (mk n m g I J) (8 + t) k = some (J (8 + t) k) := row_case (P := fun t => zlg (mk n m g I J) (8 + t) k = some (J (8 + t) k)) (k_8 hk) (k_9 hk) (k_10 hk) (k_11 hk) ht
theorem q_row {t : Nat} (ht : t < 4) (k : Nat) (x : Int64) : zql (mk n m g I J) (8 + t) k x = mk n m g I (zu J (8 + t) k x) := row_case (P := fun t => zql (mk n m g I J) (8 + t) k x = mk n m g I (zu J (8 + t) k x)) (q_8 k x) (q_9 k x) (q_10 k x) (q_11 k x) ht
theorem n_row {t : Nat} (ht : t < 4) : zlen (mk n m g I J) (8 + t) = some 60 := row_case (P := fun t => zlen (mk n m g I J) (8 + t) = some 60) n_8 n_9 n_10 n_11 ht
theorem s_row {t : Nat} (ht : t < 4) : ∀ i j, sh (8 + t) i j = .inl (.long, 60, .inr (.inl j)) := row_case (P := fun t => ∀ i j, sh (8 + t) i j = .inl (.long, 60, .inr (.inl j))) (fun _ _ => rfl) (fun _ _ => rfl) (fun _ _ => rfl) (fun _ _ => rfl) ht
theorem acp_row {t u i j k : Nat} (ht : t < 4) (hu : u < 4) (hi : i + k ≤ 60) (hj : j + k ≤ 60) : zacp (mk n m g I J) (8 + t) (nI i) (8 + u) (nI j) (nI k) = some (mk n m g I (zr J (8 + u) (va_cpy (J (8 + t)) (J (8 + u)) i j k))) := by
  have hc0 : (mk n m g I J).2.2 (8 + t) = .inl (.long, 60, .inr (.inl (J (8 + t)))) := (mk_at (by omega) (by omega)).trans (s_row ht _ _)
  have hc : (mk n m g I J).2.2 (8 + u) = .inl (.long, 60, .inr (.inl (J (8 + u)))) := (mk_at (by omega) (by omega)).trans (s_row hu _ _)
  unfold zacp
  rw [if_neg (by rintro (q | q | q); exact nI_pos (by omega : i < 2 ^ 31) q; exact nI_pos (by omega : j < 2 ^ 31) q; exact nI_pos (by omega : k < 2 ^ 31) q), hc0, hc]
  dsimp only
  rw [nI_clamp (by omega : k < 2 ^ 31), nI_clamp (by omega : i < 2 ^ 31), nI_clamp (by omega : j < 2 ^ 31), if_pos ⟨by omega, by omega⟩]
  have e : zcpl (mk n m g I J) (8 + t) (8 + u) i j k = ((mk n m g I J).1, (mk n m g I J).2.1, zup (mk n m g I J).2.2 (8 + u) (.inl (.long, 60, .inr (.inl (va_cpy (J (8 + t)) (J (8 + u)) i j k))))) := by simp [zcpl, hc0, hc]
  rw [e]
  exact congrArg some (mk_up (by omega) (by omega) _ _ _ (fun _ _ => rfl) (fun b hb => zr_far J _ hb) (by rw [s_row hu, zr_same]))
theorem y_isTray {t : Int32} (d : Nat) : zcall d 137 [.int t] (mk n m g I J) = some (some (.int (bI (decide (0 ≤ t ∧ t < 4)))), mk n m g I J) := by
  rw [m_X9_isTray]
  simp only [e_X9_isTray_0, e_X9_isTray_1, e_X9_isTray_4, e_X9_isTray_5, e_X9_isTray_6, e_X9_isTray_9, e_X9_isTray_10, e_X9_isTray_13, e_X9_isTray_14, Option.bind_some, Option.isSome_some, Option.toList, List.cons_append, List.nil_append, zclr_i, zclr_r, zclr_n, zfit_i, zfit_l, and_self, if_true, if_false]
  by_cases h1 : 0 ≤ t
  · by_cases h2 : t < 4
    · simp [h1, h2, Int32.not_lt.mpr h1, Int32.not_le.mpr h2, bI, zfit_b1]
    · simp [h2, Int32.not_lt.mpr h1, Int32.not_lt.mp h2, bI, zfit_b0]
  · simp [h1, Int32.not_le.mp h1, bI, zfit_b0]
theorem y_isSort {t : Int32} (d : Nat) : zcall d 138 [.int t] (mk n m g I J) = some (some (.int (bI (decide (0 ≤ t ∧ t ≤ 3)))), mk n m g I J) := by
  rw [m_X9_isSort]
  simp only [e_X9_isSort_0, e_X9_isSort_1, e_X9_isSort_4, e_X9_isSort_5, e_X9_isSort_6, e_X9_isSort_9, e_X9_isSort_10, e_X9_isSort_13, e_X9_isSort_14, Option.bind_some, Option.isSome_some, Option.toList, List.cons_append, List.nil_append, zclr_i, zclr_r, zclr_n, zfit_i, zfit_l, and_self, if_true, if_false]
  by_cases h1 : 0 ≤ t
  · by_cases h2 : t ≤ 3
    · simp [h1, h2, Int32.not_lt.mpr h1, Int32.not_lt.mpr h2, bI, zfit_b1]
    · simp [h2, Int32.not_lt.mpr h1, Int32.not_le.mp h2, bI, zfit_b0]
  · simp [h1, Int32.not_le.mp h1, bI, zfit_b0]
theorem y_isMissing {t : Nat} (ht : t < 4) (d : Nat) : zcall d 139 [.ref 4, .int (nI t)] (mk n m g I J) = some (some (.int (bI (decide (I 6 t = -1)))), mk n m g I J) := by
  rw [m_X9_isMissing]
  simp only [e_X9_isMissing_0, e_X9_isMissing_1, e_X9_isMissing_4, e_X9_isMissing_5, e_X9_isMissing_6, e_X9_isMissing_7, e_X9_isMissing_10, e_X9_isMissing_11, e_X9_isMissing_14, e_X9_isMissing_15, g_4_1, l_6 ht, Option.bind_some, Option.isSome_some, Option.toList, List.cons_append, List.nil_append, zclr_i, zclr_r, zclr_n, zfit_i, zfit_l, and_self, if_true, if_false]
  by_cases h1 : I 6 t = -1 <;> simp [h1, bI, zfit_b0, zfit_b1]
theorem y_sortOf {t : Nat} (ht : t < 4) (d : Nat) : zcall d 140 [.ref 4, .int (nI t)] (mk n m g I J) = some (some (.int (I 5 t)), mk n m g I J) := by
  rw [m_X9_sortOf]
  simp only [e_X9_sortOf_0, e_X9_sortOf_1, e_X9_sortOf_4, e_X9_sortOf_5, e_X9_sortOf_6, g_4_0, l_5 ht, Option.bind_some, Option.isSome_some, Option.toList, List.cons_append, List.nil_append, zclr_i, zclr_r, zclr_n, zfit_i, zfit_l, and_self, if_true, if_false]
theorem y_length {t : Nat} (ht : t < 4) (d : Nat) : zcall d 141 [.ref 4, .int (nI t)] (mk n m g I J) = some (some (.int (I 6 t)), mk n m g I J) := by
  rw [m_X9_length]
  simp only [e_X9_length_0, e_X9_length_1, e_X9_length_4, e_X9_length_5, e_X9_length_6, g_4_1, l_6 ht, Option.bind_some, Option.isSome_some, Option.toList, List.cons_append, List.nil_append, zclr_i, zclr_r, zclr_n, zfit_i, zfit_l, and_self, if_true, if_false]
theorem y_hasRow {t : Nat} {f k : Int32} (ht : t < 4) (d : Nat) : zcall d 142 [.ref 4, .int (nI t), .int f, .int k] (mk n m g I J) = some (some (.int (bI (decide (0 ≤ f ∧ k ≤ I 6 t ∧ f ≤ I 6 t - k)))), mk n m g I J) := by
  rw [m_X9_hasRow]
  simp only [e_X9_hasRow_0, e_X9_hasRow_1, e_X9_hasRow_4, e_X9_hasRow_5, e_X9_hasRow_6, e_X9_hasRow_9, e_X9_hasRow_10, e_X9_hasRow_11, e_X9_hasRow_14, e_X9_hasRow_15, e_X9_hasRow_16, e_X9_hasRow_19, e_X9_hasRow_20, e_X9_hasRow_21, e_X9_hasRow_22, e_X9_hasRow_23, e_X9_hasRow_26, e_X9_hasRow_27, e_X9_hasRow_30, e_X9_hasRow_31, g_4_1, l_6 ht, Option.bind_some, Option.isSome_some, Option.toList, List.cons_append, List.nil_append, zclr_i, zclr_r, zclr_n, zfit_i, zfit_l, and_self, if_true, if_false]
  by_cases h1 : 0 ≤ f
  · by_cases h2 : k ≤ I 6 t
    · by_cases h3 : f ≤ I 6 t - k
      · simp [h1, h2, h3, Int32.not_lt.mpr h1, Int32.not_lt.mpr h2, Int32.not_lt.mpr h3, bI, zfit_b1]
      · simp [h2, h3, Int32.not_lt.mpr h1, Int32.not_lt.mpr h2, Int32.not_le.mp h3, bI, zfit_b0]
    · simp [h2, Int32.not_lt.mpr h1, Int32.not_le.mp h2, bI, zfit_b0]
  · simp [h1, Int32.not_le.mp h1, bI, zfit_b0]
def cutV (s : Int32) (v : Int64) : Int64 := if s = 0 then v.toInt32.toInt8.toInt32.toInt64 else if s = 1 then v.toInt32.toInt16.toInt32.toInt64 else if s = 2 then v.toInt32.toInt64 else v
theorem y_cut {s : Int32} {v : Int64} (d : Nat) : zcall d 147 [.int s, .long v] (mk n m g I J) = some (some (.long (cutV s v)), mk n m g I J) := by
  rw [m_X9_cut]
  simp only [e_X9_cut_0, e_X9_cut_1, e_X9_cut_28, e_X9_cut_29, e_X9_cut_30, e_X9_cut_31, e_X9_cut_32, e_X9_cut_33, e_X9_cut_34, e_X9_cut_35, e_X9_cut_36, e_X9_cut_37, e_X9_cut_38, e_X9_cut_39, e_X9_cut_40, e_X9_cut_41, e_X9_cut_42, e_X9_cut_43, zsx, Option.bind_some, Option.isSome_some, Option.toList, List.cons_append, List.nil_append, zclr_i, zclr_r, zclr_n, zfit_i, zfit_l, and_self, if_true, if_false]
  unfold cutV
  by_cases h0 : s = 0
  · simp [h0]
  by_cases h1 : s = 1
  · simp [h1]
  by_cases h2 : s = 2
  · simp [h2]
  simp [h0, h1, h2]
theorem y_put {t k : Nat} {v : Int64} (ht : t < 4) (hk : k < 60) (d : Nat) : zcall (d + 1) 144 [.ref 4, .int (nI t), .int (nI k), .long v] (mk n m g I J) = some (none, mk n m g I (zu J (8 + t) k (cutV (I 5 t) v))) := by
  rw [m_X9_put]
  simp only [e_X9_put_0, e_X9_put_1, e_X9_put_4, e_X9_put_5, e_X9_put_6, e_X9_put_7, e_X9_put_8, e_X9_put_11, e_X9_put_12, e_X9_put_13, e_X9_put_14, e_X9_put_17, e_X9_put_18, g_4_0, g_4_2, l_5 ht, nI_neg (show t < 2 ^ 31 by omega), nI_clamp (show t < 2 ^ 31 by omega), nI_neg (show k < 2 ^ 31 by omega), nI_clamp (show k < 2 ^ 31 by omega), r_7 ht, y_cut, k_row ht hk, q_row ht, Option.bind_some, Option.isSome_some, Option.toList, List.cons_append, List.nil_append, zclr_i, zclr_r, zclr_n, zfit_i, zfit_l, and_self, if_true, if_false]
theorem y_at {t k : Nat} (ht : t < 4) (hk : k < 60) (d : Nat) : zcall d 145 [.ref 4, .int (nI t), .int (nI k)] (mk n m g I J) = some (some (.long (J (8 + t) k)), mk n m g I J) := by
  rw [m_X9_at]
  simp only [e_X9_at_0, e_X9_at_1, e_X9_at_4, e_X9_at_5, e_X9_at_6, e_X9_at_7, e_X9_at_8, g_4_2, nI_neg (show t < 2 ^ 31 by omega), nI_clamp (show t < 2 ^ 31 by omega), nI_neg (show k < 2 ^ 31 by omega), nI_clamp (show k < 2 ^ 31 by omega), r_7 ht, k_row ht hk, Option.bind_some, Option.isSome_some, Option.toList, List.cons_append, List.nil_append, zclr_i, zclr_r, zclr_n, zfit_i, zfit_l, and_self, if_true, if_false]
theorem y_move {t u i j k : Nat} (ht : t < 4) (hu : u < 4) (hi : i + k ≤ 60) (hj : j + k ≤ 60) (d : Nat) : zcall d 146 [.ref 4, .int (nI t), .int (nI i), .int (nI u), .int (nI j), .int (nI k)] (mk n m g I J) = some (none, mk n m g I (zr J (8 + u) (va_cpy (J (8 + t)) (J (8 + u)) i j k))) := by
  rw [m_X9_move]
  simp only [e_X9_move_0, e_X9_move_1, e_X9_move_4, e_X9_move_5, e_X9_move_6, e_X9_move_7, e_X9_move_8, e_X9_move_11, e_X9_move_12, e_X9_move_13, e_X9_move_15, e_X9_move_17, e_X9_move_20, g_4_2, nI_neg (show t < 2 ^ 31 by omega), nI_clamp (show t < 2 ^ 31 by omega), nI_neg (show u < 2 ^ 31 by omega), nI_clamp (show u < 2 ^ 31 by omega), r_7 ht, r_7 hu, acp_row ht hu hi hj, Option.bind_some, Option.isSome_some, Option.toList, List.cons_append, List.nil_append, zclr_i, zclr_r, zclr_n, zfit_i, zfit_l, and_self, if_true, if_false]
/-! filling a row -/
theorem zu_fill {α : Type} (I : Nat → Nat → α) (a : Nat) (x : α) : ∀ k p, zfor (fun p I => zu I a p x) p k I = zr I a (fun j => if p ≤ j ∧ j < p + k then x else I a j) := by
  intro k p
  induction k generalizing p I with
  | zero =>
    funext c j
    unfold zr
    rw [zfor]
    split
    · rename_i h
      dsimp only
      rw [if_neg (show ¬ (p ≤ j ∧ j < p + 0) by omega), h]
    · rfl
  | succ k ih =>
    rw [zfor, ih]
    funext c j
    unfold zr
    split
    · rename_i h
      dsimp only
      rw [zu_row]
      by_cases h1 : j = p
      · subst h1
        rw [if_neg (by omega), if_pos rfl, if_pos (by omega)]
      · rw [if_neg h1]
        by_cases h2 : p + 1 ≤ j ∧ j < p + 1 + k
        · rw [if_pos h2, if_pos (by omega)]
        · rw [if_neg h2, if_neg (by omega)]
    · rename_i h
      rw [zu_far _ _ _ h]
theorem j_fillRow {t : Nat} {x : Int64} (ht : t < 4) (d : Nat) : zcall d 420 [.ref (8 + t), .long x] (mk n m g I J) = some (none, mk n m g I (zr J (8 + t) (fun j => if j < 60 then x else J (8 + t) j))) := by
  rw [m_J7_fill_d0a16]
  simp only [e_J7_fill_d0a16_0, e_J7_fill_d0a16_1, e_J7_fill_d0a16_2, e_J7_fill_d0a16_3, e_J7_fill_d0a16_4, e_J7_fill_d0a16_7, e_J7_fill_d0a16_9, e_J7_fill_d0a16_12, e_J7_fill_d0a16_13, e_J7_fill_d0a16_14, e_J7_fill_d0a16_15, e_J7_fill_d0a16_16, e_J7_fill_d0a16_19, e_J7_fill_d0a16_22, n_row ht, Option.bind_some, Option.isSome_some, Option.toList, List.cons_append, List.nil_append, zclr_i, zclr_r, zclr_n, zfit_i, zfit_l, and_self, if_true, if_false]
  refine (zloop (fun p (a : Nat → Nat → Int64) => zexec d 420 6 [some (.ref (8 + t)), some (.long x), none, some (.int (nI p)), some (.int (nI 60))] [] (mk n m g I a)) (fun p a => zu a (8 + t) p x) 60 ?_ 60 0 J (by omega)).trans ?_
  · intro p a hp
    rw [e_J7_fill_d0a16_6]
    simp only [e_J7_fill_d0a16_0, e_J7_fill_d0a16_1, e_J7_fill_d0a16_2, e_J7_fill_d0a16_3, e_J7_fill_d0a16_4, e_J7_fill_d0a16_7, e_J7_fill_d0a16_9, e_J7_fill_d0a16_12, e_J7_fill_d0a16_13, e_J7_fill_d0a16_14, e_J7_fill_d0a16_15, e_J7_fill_d0a16_16, e_J7_fill_d0a16_19, e_J7_fill_d0a16_22, if_neg (nI_ge hp (by omega : 60 < 2 ^ 31)), nI_neg (show p < 2 ^ 31 by omega), nI_clamp (show p < 2 ^ 31 by omega), k_row ht hp, q_row ht, nI_1, Option.bind_some, Option.isSome_some, Option.toList, List.cons_append, List.nil_append, zclr_i, zclr_r, zclr_n, zfit_i, zfit_l, and_self, if_true, if_false]
  · rw [e_J7_fill_d0a16_6, zu_fill]
    simp only [e_J7_fill_d0a16_0, e_J7_fill_d0a16_1, e_J7_fill_d0a16_2, e_J7_fill_d0a16_3, e_J7_fill_d0a16_4, e_J7_fill_d0a16_7, e_J7_fill_d0a16_9, e_J7_fill_d0a16_12, e_J7_fill_d0a16_13, e_J7_fill_d0a16_14, e_J7_fill_d0a16_15, e_J7_fill_d0a16_16, e_J7_fill_d0a16_19, e_J7_fill_d0a16_22, if_pos (nI_le (Nat.le_refl 60) (by omega : 60 < 2 ^ 31)), Option.bind_some, Option.isSome_some, Option.toList, List.cons_append, List.nil_append, zclr_i, zclr_r, zclr_n, zfit_i, zfit_l, and_self, if_true, if_false]
    congr 3
    funext j
    simp
theorem y_lay {t : Nat} {s k : Int32} (ht : t < 4) (d : Nat) : zcall (d + 1) 143 [.ref 4, .int (nI t), .int s, .int k] (mk n m g I J) = some (none, mk n m g (zu (zu I 5 t s) 6 t k) (zr J (8 + t) (fun j => if j < 60 then 0 else J (8 + t) j))) := by
  rw [m_X9_lay]
  simp only [e_X9_lay_0, e_X9_lay_1, e_X9_lay_4, e_X9_lay_5, e_X9_lay_6, e_X9_lay_7, e_X9_lay_8, e_X9_lay_11, e_X9_lay_12, e_X9_lay_13, e_X9_lay_14, e_X9_lay_15, e_X9_lay_18, e_X9_lay_19, e_X9_lay_20, e_X9_lay_21, e_X9_lay_24, g_4_0, g_4_1, g_4_2, nI_neg (show t < 2 ^ 31 by omega), nI_clamp (show t < 2 ^ 31 by omega), k_5 ht, k_6 ht, q_5, q_6, r_7 ht, j_fillRow ht, Option.bind_some, Option.isSome_some, Option.toList, List.cons_append, List.nil_append, zclr_i, zclr_r, zclr_n, zfit_i, zfit_l, and_self, if_true, if_false]
end TR
