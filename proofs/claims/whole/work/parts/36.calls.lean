/-! THE CALLS: what they share -/
section CA
variable {n m : Nat} {g : Nat → zC} {I : Nat → Nat → Int32} {J : Nat → Nat → Int64}
theorem t16 : isTown 16 := .inl rfl
theorem t33 : isTown 33 := .inr (.inl rfl)
theorem n_answer {x : Int32} (d : Nat) : zcall d 215 [.ref 3, .int x] (mk n m g I J) = some (some (.int x), mk n m g (zu I 3 0 0) J) := by
  rw [m_X11_answer]
  simp only [e_X11_answer_0, e_X11_answer_1, e_X11_answer_2, e_X11_answer_5, e_X11_answer_6, g_3_0, p_3_0, Option.bind_some, Option.isSome_some, Option.toList, List.cons_append, List.nil_append, zclr_i, zclr_r, zclr_n, zfit_i, zfit_l, and_self, if_true, if_false]
theorem n_refuse {w : Int32} (d : Nat) : zcall d 217 [.ref 3, .int w] (mk n m g I J) = some (some (.int (-1)), mk n m g (zu I 3 0 w) J) := by
  rw [m_X11_refuse]
  simp only [e_X11_refuse_0, e_X11_refuse_1, e_X11_refuse_2, e_X11_refuse_5, e_X11_refuse_6, g_3_0, p_3_0, Option.bind_some, Option.isSome_some, Option.toList, List.cons_append, List.nil_append, zclr_i, zclr_r, zclr_n, zfit_i, zfit_l, and_self, if_true, if_false]
theorem n_answerIfAny {x : Int32} (d : Nat) : zcall (d + 1) 216 [.ref 3, .int x] (mk n m g I J) = some (some (.int x), mk n m g (zu I 3 0 (if x = -1 then 8 else 0)) J) := by
  rw [m_X11_answerIfAny]
  simp only [e_X11_answerIfAny_0, e_X11_answerIfAny_1, e_X11_answerIfAny_2, e_X11_answerIfAny_5, e_X11_answerIfAny_6, e_X11_answerIfAny_8, e_X11_answerIfAny_11, e_X11_answerIfAny_14, e_X11_answerIfAny_15, e_X11_answerIfAny_16, e_X11_answerIfAny_19, c_3, n_refuse, n_answer, Option.bind_some, Option.isSome_some, Option.toList, List.cons_append, List.nil_append, zclr_i, zclr_r, zclr_n, zfit_i, zfit_l, and_self, if_true, if_false]
  by_cases h1 : x = -1 <;> simp [h1]
theorem n_grant (d : Nat) : zcall d 218 [.ref 3] (mk n m g I J) = some (some (.int 1), mk n m g (zu I 3 0 0) J) := by
  rw [m_X11_grant]
  simp only [e_X11_grant_0, e_X11_grant_1, e_X11_grant_2, e_X11_grant_5, e_X11_grant_6, g_3_0, p_3_0, zfit_b1, Option.bind_some, Option.isSome_some, Option.toList, List.cons_append, List.nil_append, zclr_i, zclr_r, zclr_n, zfit_i, zfit_l, and_self, if_true, if_false]
theorem n_deny {w : Int32} (d : Nat) : zcall d 219 [.ref 3, .int w] (mk n m g I J) = some (some (.int 0), mk n m g (zu I 3 0 w) J) := by
  rw [m_X11_deny]
  simp only [e_X11_deny_0, e_X11_deny_1, e_X11_deny_2, e_X11_deny_5, e_X11_deny_6, g_3_0, p_3_0, zfit_b0, Option.bind_some, Option.isSome_some, Option.toList, List.cons_append, List.nil_append, zclr_i, zclr_r, zclr_n, zfit_i, zfit_l, and_self, if_true, if_false]
theorem n_done {N : Nat} (hN : I 16 4 = nI N) (h12 : N ≤ 12) (hq : qWell I 16) (d : Nat) : zcall (d + 2) 220 [.ref 3] (mk n m g I J) = some (some (.int 1), mk n m g (zu (tSettle I 16 N) 3 0 0) J) := by
  rw [m_X11_done]
  simp only [e_X11_done_0, e_X11_done_1, e_X11_done_4, e_X11_done_7, e_X11_done_8, e_X11_done_11, c_3, c_T0 t16, g_3_7, t_settle t16 hN h12 hq, n_grant, zfit_b1, Option.bind_some, Option.isSome_some, Option.toList, List.cons_append, List.nil_append, zclr_i, zclr_r, zclr_n, zfit_i, zfit_l, and_self, if_true, if_false]
theorem n_status (d : Nat) : zcall d 154 [.ref 3] (mk n m g I J) = some (some (.int (I 3 0)), mk n m g I J) := by
  rw [m_X11_status]
  simp only [e_X11_status_0, e_X11_status_1, e_X11_status_4, g_3_0, Option.bind_some, Option.isSome_some, Option.toList, List.cons_append, List.nil_append, zclr_i, zclr_r, zclr_n, zfit_i, zfit_l, and_self, if_true, if_false]
theorem n_top (d : Nat) : zcall d 155 [.ref 3] (mk n m g I J) = some (some (.long (J 3 1)), mk n m g I J) := by
  rw [m_X11_top]
  simp only [e_X11_top_0, e_X11_top_1, e_X11_top_4, g_3_1, Option.bind_some, Option.isSome_some, Option.toList, List.cons_append, List.nil_append, zclr_i, zclr_r, zclr_n, zfit_i, zfit_l, and_self, if_true, if_false]
theorem n_bottom (d : Nat) : zcall d 156 [.ref 3] (mk n m g I J) = some (some (.long (J 3 2)), mk n m g I J) := by
  rw [m_X11_bottom]
  simp only [e_X11_bottom_0, e_X11_bottom_1, e_X11_bottom_4, g_3_2, Option.bind_some, Option.isSome_some, Option.toList, List.cons_append, List.nil_append, zclr_i, zclr_r, zclr_n, zfit_i, zfit_l, and_self, if_true, if_false]
theorem tray_cases (x : Int32) : (0 ≤ x ∧ x < 4) → ∃ t, t < 4 ∧ x = nI t := by
  rintro ⟨h1, h2⟩
  have h1' : (0 : Int) ≤ x.toInt := Int32.le_iff_toInt_le.mp h1
  have h2' : x.toInt < 4 := Int32.lt_iff_toInt_lt.mp h2
  refine ⟨x.toInt.toNat, by omega, ?_⟩
  have h3 : x.toInt = 0 ∨ x.toInt = 1 ∨ x.toInt = 2 ∨ x.toInt = 3 := by omega
  rcases h3 with h | h | h | h <;> (rw [h]; apply Int32.toInt_inj.mp; rw [h]; decide)
def yTrouble (I : Nat → Nat → Int32) (x : Int32) : Int32 := if 0 ≤ x ∧ x < 4 then (if I 6 x.toNatClampNeg = -1 then 3 else 0) else 1
theorem n_isWay {x : Int32} (d : Nat) : zcall d 226 [.int x] (mk n m g I J) = some (some (.int (bI (decide (0 ≤ x ∧ x ≤ 2)))), mk n m g I J) := by
  rw [m_X11_isWay]
  simp only [e_X11_isWay_0, e_X11_isWay_1, e_X11_isWay_4, e_X11_isWay_5, e_X11_isWay_6, e_X11_isWay_9, e_X11_isWay_10, e_X11_isWay_13, e_X11_isWay_14, Option.bind_some, Option.isSome_some, Option.toList, List.cons_append, List.nil_append, zclr_i, zclr_r, zclr_n, zfit_i, zfit_l, and_self, if_true, if_false]
  by_cases h1 : 0 ≤ x
  · by_cases h2 : x ≤ 2
    · simp [h1, h2, Int32.not_lt.mpr h1, Int32.not_lt.mpr h2, bI, zfit_b1]
    · simp [h2, Int32.not_lt.mpr h1, Int32.not_le.mp h2, bI, zfit_b0]
  · simp [h1, Int32.not_le.mp h1, bI, zfit_b0]
theorem n_isMost {x : Int32} (d : Nat) : zcall d 227 [.int x] (mk n m g I J) = some (some (.int (bI (decide (1 ≤ x ∧ x ≤ 9)))), mk n m g I J) := by
  rw [m_X11_isMost]
  simp only [e_X11_isMost_0, e_X11_isMost_1, e_X11_isMost_2, e_X11_isMost_5, e_X11_isMost_6, e_X11_isMost_8, e_X11_isMost_11, e_X11_isMost_12, e_X11_isMost_15, e_X11_isMost_16, Option.bind_some, Option.isSome_some, Option.toList, List.cons_append, List.nil_append, zclr_i, zclr_r, zclr_n, zfit_i, zfit_l, and_self, if_true, if_false]
  by_cases h1 : 1 ≤ x
  · by_cases h2 : x ≤ 9
    · simp [h1, h2, Int32.not_lt.mpr h1, Int32.not_lt.mpr h2, bI, zfit_b1]
    · simp [h2, Int32.not_lt.mpr h1, Int32.not_le.mp h2, bI, zfit_b0]
  · simp [h1, Int32.not_le.mp h1, bI, zfit_b0]
theorem n_isForecast {x : Int32} (d : Nat) : zcall d 228 [.int x] (mk n m g I J) = some (some (.int (bI (decide (0 ≤ x ∧ x ≤ 150)))), mk n m g I J) := by
  rw [m_X11_isForecast]
  simp only [e_X11_isForecast_0, e_X11_isForecast_1, e_X11_isForecast_4, e_X11_isForecast_5, e_X11_isForecast_8, e_X11_isForecast_11, e_X11_isForecast_12, e_X11_isForecast_15, e_X11_isForecast_16, Option.bind_some, Option.isSome_some, Option.toList, List.cons_append, List.nil_append, zclr_i, zclr_r, zclr_n, zfit_i, zfit_l, and_self, if_true, if_false]
  by_cases h1 : 0 ≤ x
  · by_cases h2 : x ≤ 150
    · simp [h1, h2, Int32.not_lt.mpr h1, Int32.not_lt.mpr h2, bI, zfit_b1]
    · simp [h2, Int32.not_lt.mpr h1, Int32.not_le.mp h2, bI, zfit_b0]
  · simp [h1, Int32.not_le.mp h1, bI, zfit_b0]
end CA
