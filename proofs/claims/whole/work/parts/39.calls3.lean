/-! THE CALLS: trays -/
section CC
variable {n m : Nat} {g : Nat → zC} {I : Nat → Nat → Int32} {J : Nat → Nat → Int64}
def yNew (x s k : Int32) : Int32 := if (0 ≤ x ∧ x < 4) ∧ (0 ≤ s ∧ s ≤ 3) then (if 60 < k then 5 else if k < 0 then 6 else 0) else 1
theorem n_tray {x s k : Int32} (d : Nat) : zcall (d + 2) 157 [.ref 3, .int x, .int s, .int k] (mk n m g I J) = some (some (.int (bI (decide (yNew x s k = 0)))), mk n m g (if yNew x s k = 0 then zu (zu (zu I 5 x.toNatClampNeg s) 6 x.toNatClampNeg k) 3 0 0 else zu I 3 0 (yNew x s k)) (if yNew x s k = 0 then zr J (8 + x.toNatClampNeg) (fun j => if j < 60 then 0 else J (8 + x.toNatClampNeg) j) else J)) := by
  rw [m_X11_tray]
  unfold yNew
  by_cases h : 0 ≤ x ∧ x < 4
  · obtain ⟨t, ht, rfl⟩ := tray_cases x h
    simp only [e_X11_tray_0, e_X11_tray_1, e_X11_tray_4, e_X11_tray_7, e_X11_tray_8, e_X11_tray_11, e_X11_tray_14, e_X11_tray_15, e_X11_tray_16, e_X11_tray_19, e_X11_tray_20, e_X11_tray_21, e_X11_tray_23, e_X11_tray_26, e_X11_tray_27, e_X11_tray_28, e_X11_tray_31, e_X11_tray_32, e_X11_tray_33, e_X11_tray_36, e_X11_tray_37, e_X11_tray_39, e_X11_tray_42, e_X11_tray_43, e_X11_tray_44, e_X11_tray_47, e_X11_tray_48, e_X11_tray_49, e_X11_tray_50, e_X11_tray_53, e_X11_tray_54, e_X11_tray_57, c_3, c_4, g_3_3, y_isTray, y_isSort, y_lay ht, n_deny, n_grant, zfit_b0, zfit_b1, nI_clamp (show t < 2 ^ 31 by omega), Option.bind_some, Option.isSome_some, Option.toList, List.cons_append, List.nil_append, zclr_i, zclr_r, zclr_n, zfit_i, zfit_l, and_self, if_true, if_false]
    by_cases h1 : 0 ≤ s ∧ s ≤ 3
    · by_cases h2 : 60 < k
      · simp [h, h1, h2, Int32.not_le.mpr h2, bI]
      · by_cases h3 : k < 0
        · simp [h, h1, h2, h3, Int32.not_lt.mp h2, Int32.not_le.mpr h3, bI]
        · simp [h, h1, h2, h3, Int32.not_lt.mp h2, Int32.not_lt.mp h3, bI]
    · simp [h, h1, bI]
  · simp only [e_X11_tray_0, e_X11_tray_1, e_X11_tray_4, e_X11_tray_7, e_X11_tray_8, e_X11_tray_11, e_X11_tray_14, e_X11_tray_15, e_X11_tray_16, e_X11_tray_19, e_X11_tray_20, e_X11_tray_21, e_X11_tray_23, e_X11_tray_26, e_X11_tray_27, e_X11_tray_28, e_X11_tray_31, e_X11_tray_32, e_X11_tray_33, e_X11_tray_36, e_X11_tray_37, e_X11_tray_39, e_X11_tray_42, e_X11_tray_43, e_X11_tray_44, e_X11_tray_47, e_X11_tray_48, e_X11_tray_49, e_X11_tray_50, e_X11_tray_53, e_X11_tray_54, e_X11_tray_57, c_3, y_isTray, n_deny, zfit_b0, Option.bind_some, Option.isSome_some, Option.toList, List.cons_append, List.nil_append, zclr_i, zclr_r, zclr_n, zfit_i, zfit_l, and_self, if_true, if_false]
    simp [h, bI]
def yPlace (I : Nat → Nat → Int32) (x p : Int32) : Int32 := if yTrouble I x = 0 then (if 0 ≤ p ∧ 1 ≤ I 6 x.toNatClampNeg ∧ p ≤ I 6 x.toNatClampNeg - 1 then 0 else 4) else yTrouble I x
theorem yTrouble_0 {x : Int32} (h : yTrouble I x = 0) : ∃ t, t < 4 ∧ x = nI t := by
  unfold yTrouble at h
  by_cases h1 : 0 ≤ x ∧ x < 4
  · exact tray_cases x h1
  · rw [if_neg h1] at h
    exact absurd h (by decide)
theorem n_placeTrouble {x p : Int32} (d : Nat) : zcall (d + 2) 222 [.ref 3, .int x, .int p] (mk n m g I J) = some (some (.int (yPlace I x p)), mk n m g I J) := by
  rw [m_X11_placeTrouble]
  unfold yPlace
  by_cases h : yTrouble I x = 0
  · obtain ⟨t, ht, rfl⟩ := yTrouble_0 h
    simp only [e_X11_placeTrouble_0, e_X11_placeTrouble_1, e_X11_placeTrouble_2, e_X11_placeTrouble_5, e_X11_placeTrouble_6, e_X11_placeTrouble_7, e_X11_placeTrouble_10, e_X11_placeTrouble_11, e_X11_placeTrouble_12, e_X11_placeTrouble_13, e_X11_placeTrouble_16, e_X11_placeTrouble_17, e_X11_placeTrouble_18, e_X11_placeTrouble_19, e_X11_placeTrouble_22, e_X11_placeTrouble_25, e_X11_placeTrouble_26, e_X11_placeTrouble_29, e_X11_placeTrouble_30, c_3, c_4, g_3_3, n_trayTrouble, y_hasRow ht, h, nI_clamp (show t < 2 ^ 31 by omega), Option.bind_some, Option.isSome_some, Option.toList, List.cons_append, List.nil_append, zclr_i, zclr_r, zclr_n, zfit_i, zfit_l, and_self, if_true, if_false]
    by_cases h1 : 0 ≤ p ∧ 1 ≤ I 6 t ∧ p ≤ I 6 t - 1 <;> simp [h1, bI]
  · simp only [e_X11_placeTrouble_0, e_X11_placeTrouble_1, e_X11_placeTrouble_2, e_X11_placeTrouble_5, e_X11_placeTrouble_6, e_X11_placeTrouble_7, e_X11_placeTrouble_10, e_X11_placeTrouble_11, e_X11_placeTrouble_12, e_X11_placeTrouble_13, e_X11_placeTrouble_16, e_X11_placeTrouble_17, e_X11_placeTrouble_18, e_X11_placeTrouble_19, e_X11_placeTrouble_22, e_X11_placeTrouble_25, e_X11_placeTrouble_26, e_X11_placeTrouble_29, e_X11_placeTrouble_30, c_3, n_trayTrouble, h, Option.bind_some, Option.isSome_some, Option.toList, List.cons_append, List.nil_append, zclr_i, zclr_r, zclr_n, zfit_i, zfit_l, and_self, if_true, if_false]
end CC
