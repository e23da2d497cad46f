/-! THE CALLS: trays, looking ahead, powers -/
section CB
variable {n m : Nat} {g : Nat → zC} {I : Nat → Nat → Int32} {J : Nat → Nat → Int64}
theorem n_trayTrouble {x : Int32} (d : Nat) : zcall (d + 1) 221 [.ref 3, .int x] (mk n m g I J) = some (some (.int (yTrouble I x)), mk n m g I J) := by
  rw [m_X11_trayTrouble]
  unfold yTrouble
  by_cases h : 0 ≤ x ∧ x < 4
  · obtain ⟨t, ht, rfl⟩ := tray_cases x h
    simp only [e_X11_trayTrouble_0, e_X11_trayTrouble_1, e_X11_trayTrouble_4, e_X11_trayTrouble_7, e_X11_trayTrouble_8, e_X11_trayTrouble_9, e_X11_trayTrouble_10, e_X11_trayTrouble_13, e_X11_trayTrouble_14, e_X11_trayTrouble_17, e_X11_trayTrouble_20, e_X11_trayTrouble_21, e_X11_trayTrouble_24, e_X11_trayTrouble_25, c_4, g_3_3, y_isTray, y_isMissing ht, nI_clamp (show t < 2 ^ 31 by omega), Option.bind_some, Option.isSome_some, Option.toList, List.cons_append, List.nil_append, zclr_i, zclr_r, zclr_n, zfit_i, zfit_l, and_self, if_true, if_false]
    by_cases h1 : I 6 t = -1 <;> simp [h, h1, bI]
  · simp only [e_X11_trayTrouble_0, e_X11_trayTrouble_1, e_X11_trayTrouble_4, e_X11_trayTrouble_7, e_X11_trayTrouble_8, e_X11_trayTrouble_9, e_X11_trayTrouble_10, e_X11_trayTrouble_13, e_X11_trayTrouble_14, e_X11_trayTrouble_17, e_X11_trayTrouble_20, e_X11_trayTrouble_21, e_X11_trayTrouble_24, e_X11_trayTrouble_25, y_isTray, Option.bind_some, Option.isSome_some, Option.toList, List.cons_append, List.nil_append, zclr_i, zclr_r, zclr_n, zfit_i, zfit_l, and_self, if_true, if_false]
    simp [h, bI]
theorem cpR_lt {α : Type} {f h : Nat → α} {len k : Nat} (hk : k < len) : cpR f h len k = f k := by simp [cpR, hk]
theorem yCopy_well {a b N : Nat} (hd : apart a b) (h12 : N ≤ 12) (h : yWell I a N) : yWell (tCopy a b I) b N := by
  obtain ⟨h1, ⟨Q, h2, h3, h4⟩, h5⟩ := h
  refine ⟨(tCopy_0 hd (by decide)).trans h1, ⟨Q, h2, (tCopy_q hd).trans h3, ?_⟩, ?_⟩
  · intro k hk
    rw [tCopy_15 hd, cpR_lt (by omega)]
    exact h4 k hk
  · intro p hp
    rw [tCopy_9 hd, cpR_lt (by omega)]
    exact h5 p hp
def ahead (k N : Nat) (I : Nat → Nat → Int32) : Nat → Nat → Int32 := (tYears (tCopy 16 33 I) 33 N k).2
theorem n_lookAhead {N k : Nat} (h12 : N ≤ 12) (hw : yWell I 16 N) (hk : k < 2 ^ 31) (d : Nat) : zcall (d + 4) 229 [.ref 3, .int (nI k)] (mk n m g I J) = some (none, mk n m g (ahead k N I) (cpS 16 33 4 12 (cpS 16 33 1 6 J))) := by
  rw [m_X11_lookAhead]
  have hw2 := yCopy_well (town_apart t16 t33 (by decide)) h12 hw
  simp only [e_X11_lookAhead_0, e_X11_lookAhead_1, e_X11_lookAhead_4, e_X11_lookAhead_5, e_X11_lookAhead_8, e_X11_lookAhead_11, e_X11_lookAhead_12, e_X11_lookAhead_15, e_X11_lookAhead_16, e_X11_lookAhead_19, e_X11_lookAhead_20, c_T0 t33, g_3_7, g_3_8, t_copyFrom t16 t33, t_passYears t33 h12 hw2 hk, Option.bind_some, Option.isSome_some, Option.toList, List.cons_append, List.nil_append, zclr_i, zclr_r, zclr_n, zfit_i, zfit_l, and_self, if_true, if_false]
  rfl
theorem n_power {x : Int32} {e : Nat} (he : e < 2 ^ 31) (d : Nat) : zcall d 233 [.int x, .int (nI e)] (mk n m g I J) = some (some (.long (zfor (fun _ a => a * x.toInt64) 0 e 1)), mk n m g I J) := by
  rw [m_X11_power]
  simp only [e_X11_power_0, e_X11_power_1, e_X11_power_2, e_X11_power_3, e_X11_power_7, e_X11_power_8, e_X11_power_11, e_X11_power_12, e_X11_power_13, e_X11_power_14, e_X11_power_15, e_X11_power_16, e_X11_power_19, e_X11_power_22, e_X11_power_23, Option.bind_some, Option.isSome_some, Option.toList, List.cons_append, List.nil_append, zclr_i, zclr_r, zclr_n, zfit_i, zfit_l, and_self, if_true, if_false]
  refine (zloop (fun p (a : Int64) => zexec d 233 5 [some (.int x), some (.int (nI e)), some (.long a), none, some (.int (nI p))] [] (mk n m g I J)) (fun _ a => a * x.toInt64) e ?_ e 0 1 (by omega)).trans ?_
  · intro p a hp
    rw [e_X11_power_5]
    simp only [e_X11_power_0, e_X11_power_1, e_X11_power_2, e_X11_power_3, e_X11_power_7, e_X11_power_8, e_X11_power_11, e_X11_power_12, e_X11_power_13, e_X11_power_14, e_X11_power_15, e_X11_power_16, e_X11_power_19, e_X11_power_22, e_X11_power_23, if_neg (nI_ge hp he), nI_1, Option.bind_some, Option.isSome_some, Option.toList, List.cons_append, List.nil_append, zclr_i, zclr_r, zclr_n, zfit_i, zfit_l, and_self, if_true, if_false]
  · rw [e_X11_power_5]
    simp only [e_X11_power_0, e_X11_power_1, e_X11_power_2, e_X11_power_3, e_X11_power_7, e_X11_power_8, e_X11_power_11, e_X11_power_12, e_X11_power_13, e_X11_power_14, e_X11_power_15, e_X11_power_16, e_X11_power_19, e_X11_power_22, e_X11_power_23, if_pos (nI_le (Nat.le_refl e) he), Option.bind_some, Option.isSome_some, Option.toList, List.cons_append, List.nil_append, zclr_i, zclr_r, zclr_n, zfit_i, zfit_l, and_self, if_true, if_false]
def dTake (I : Nat → Nat → Int32) (J : Nat → Nat → Int64) (L p : Nat) (lo hi : Int32) : Int32 × (Nat → Nat → Int32) × (Nat → Nat → Int64) := if I 13 5 = 3 then (if lo ≤ I 13 6 ∧ I 13 6 ≤ hi then (I 13 6, (dAdv I J L p).1, (dAdv I J L p).2) else (-1, dFail 4 I, J)) else (-1, dHere I, J)
theorem d_takeNumber {L p : Nat} {lo hi : Int32} (h : dWell I L p) (d : Nat) : zcall (d + 2) 57 [.ref 13, .int lo, .int hi] (mk n m g I J) = some (some (.int (dTake I J L p lo hi).1), mk n m g (dTake I J L p lo hi).2.1 (dTake I J L p lo hi).2.2) := by
  obtain ⟨h1, h2, h3, h4, h5⟩ := h
  rw [m_X4_takeNumber]
  simp only [e_X4_takeNumber_0, e_X4_takeNumber_1, e_X4_takeNumber_4, e_X4_takeNumber_5, e_X4_takeNumber_8, e_X4_takeNumber_9, e_X4_takeNumber_12, e_X4_takeNumber_13, e_X4_takeNumber_14, e_X4_takeNumber_15, e_X4_takeNumber_16, e_X4_takeNumber_19, e_X4_takeNumber_20, e_X4_takeNumber_23, e_X4_takeNumber_24, e_X4_takeNumber_27, e_X4_takeNumber_28, e_X4_takeNumber_31, e_X4_takeNumber_32, e_X4_takeNumber_33, e_X4_takeNumber_36, e_X4_takeNumber_37, e_X4_takeNumber_38, e_X4_takeNumber_39, e_X4_takeNumber_40, e_X4_takeNumber_43, e_X4_takeNumber_44, e_X4_takeNumber_45, e_X4_takeNumber_48, e_X4_takeNumber_49, c_13, g_13_5, g_13_6, d_failHere, d_fail, d_advance h1 h2 h3 h4 h5, Option.bind_some, Option.isSome_some, Option.toList, List.cons_append, List.nil_append, zclr_i, zclr_r, zclr_n, zfit_i, zfit_l, and_self, if_true, if_false]
  unfold dTake
  by_cases h6 : I 13 5 = 3
  · by_cases h7 : lo ≤ I 13 6
    · by_cases h8 : I 13 6 ≤ hi
      · simp [h6, h7, h8, Int32.not_lt.mpr h7]
      · simp [h6, h8, Int32.not_lt.mpr h7]
    · simp [h6, h7, Int32.not_le.mp h7]
  · simp [h6]
end CB
