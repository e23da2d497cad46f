/-! THE CALLS: write, read -/
section CD
variable {n m : Nat} {g : Nat → zC} {I : Nat → Nat → Int32} {J : Nat → Nat → Int64}
/-- what the trays are: none is longer than 60 -/
def yWellT (I : Nat → Nat → Int32) : Prop := ∀ t, t < 4 → I 6 t = -1 ∨ ∃ k, k ≤ 60 ∧ I 6 t = nI k
theorem yPlace_0 {x p : Int32} (hw : yWellT I) (h : yPlace I x p = 0) : ∃ t k, t < 4 ∧ k < 60 ∧ x = nI t ∧ p = nI k := by
  unfold yPlace at h
  by_cases h0 : yTrouble I x = 0
  · rw [if_pos h0] at h
    obtain ⟨t, ht, rfl⟩ := yTrouble_0 h0
    rw [nI_clamp (by omega)] at h
    by_cases h1 : 0 ≤ p ∧ 1 ≤ I 6 t ∧ p ≤ I 6 t - 1
    · obtain ⟨h2, h3, h4⟩ := h1
      rcases hw t ht with h5 | ⟨k, hk, h5⟩
      · rw [h5] at h3
        exact absurd h3 (by decide)
      · rw [h5] at h3 h4
        have k1 : 1 ≤ k := by
          rcases Nat.eq_zero_or_pos k with rfl | h
          · exact absurd h3 (by decide)
          · exact h
        have e1 : nI k - 1 = nI (k - 1) := by
          obtain ⟨j, rfl⟩ : ∃ j, k = j + 1 := ⟨k - 1, by omega⟩
          rw [← nI_1]
          simp
        rw [e1] at h4
        have g2 : (0 : Int) ≤ p.toInt := Int32.le_iff_toInt_le.mp h2
        have g4 : p.toInt ≤ (nI (k - 1)).toInt := Int32.le_iff_toInt_le.mp h4
        rw [nI_toInt (by omega)] at g4
        refine ⟨t, p.toInt.toNat, ht, by omega, rfl, ?_⟩
        apply Int32.toInt_inj.mp
        rw [nI_toInt (by omega)]
        omega
    · rw [if_neg h1] at h
      exact absurd h (by decide)
  · rw [if_neg h0] at h
    exact absurd h h0
theorem n_write {x p : Int32} {v : Int64} (hw : yWellT I) (d : Nat) : zcall (d + 3) 158 [.ref 3, .int x, .int p, .long v] (mk n m g I J) = some (some (.int (bI (decide (yPlace I x p = 0)))), mk n m g (zu I 3 0 (yPlace I x p)) (if yPlace I x p = 0 then zu J (8 + x.toNatClampNeg) p.toNatClampNeg (cutV (I 5 x.toNatClampNeg) v) else J)) := by
  rw [m_X11_write]
  by_cases h : yPlace I x p = 0
  · obtain ⟨t, k, ht, hk, rfl, rfl⟩ := yPlace_0 hw h
    simp only [e_X11_write_0, e_X11_write_1, e_X11_write_2, e_X11_write_3, e_X11_write_6, e_X11_write_8, e_X11_write_10, e_X11_write_13, e_X11_write_14, e_X11_write_16, e_X11_write_19, e_X11_write_20, e_X11_write_21, e_X11_write_24, e_X11_write_25, e_X11_write_26, e_X11_write_27, e_X11_write_30, e_X11_write_31, e_X11_write_34, c_3, c_4, g_3_3, n_placeTrouble, h, y_put ht hk, n_grant, zfit_b1, nI_clamp (show t < 2 ^ 31 by omega), nI_clamp (show k < 2 ^ 31 by omega), bI, decide_true, zclr_l, Option.bind_some, Option.isSome_some, Option.toList, List.cons_append, List.nil_append, zclr_i, zclr_r, zclr_n, zfit_i, zfit_l, and_self, if_true, if_false]
  · simp only [e_X11_write_0, e_X11_write_1, e_X11_write_2, e_X11_write_3, e_X11_write_6, e_X11_write_8, e_X11_write_10, e_X11_write_13, e_X11_write_14, e_X11_write_16, e_X11_write_19, e_X11_write_20, e_X11_write_21, e_X11_write_24, e_X11_write_25, e_X11_write_26, e_X11_write_27, e_X11_write_30, e_X11_write_31, e_X11_write_34, c_3, n_placeTrouble, h, n_deny, zfit_b0, bI, decide_false, Bool.false_eq_true, zclr_l, Option.bind_some, Option.isSome_some, Option.toList, List.cons_append, List.nil_append, zclr_i, zclr_r, zclr_n, zfit_i, zfit_l, and_self, if_true, if_false]
theorem n_read {x p : Int32} (hw : yWellT I) (d : Nat) : zcall (d + 3) 159 [.ref 3, .int x, .int p] (mk n m g I J) = some (some (.long (if yPlace I x p = 0 then J (8 + x.toNatClampNeg) p.toNatClampNeg else -1)), mk n m g (zu I 3 0 (yPlace I x p)) J) := by
  rw [m_X11_read]
  by_cases h : yPlace I x p = 0
  · obtain ⟨t, k, ht, hk, rfl, rfl⟩ := yPlace_0 hw h
    simp only [e_X11_read_0, e_X11_read_1, e_X11_read_2, e_X11_read_3, e_X11_read_6, e_X11_read_7, e_X11_read_8, e_X11_read_11, e_X11_read_12, e_X11_read_13, e_X11_read_16, e_X11_read_17, e_X11_read_18, e_X11_read_19, e_X11_read_20, e_X11_read_23, e_X11_read_24, e_X11_read_27, e_X11_read_28, e_X11_read_29, e_X11_read_32, c_3, c_4, g_3_0, g_3_3, p_3_0, n_placeTrouble, h, y_at ht hk, nI_clamp (show t < 2 ^ 31 by omega), nI_clamp (show k < 2 ^ 31 by omega), Option.bind_some, Option.isSome_some, Option.toList, List.cons_append, List.nil_append, zclr_i, zclr_r, zclr_n, zfit_i, zfit_l, and_self, if_true, if_false]
  · simp only [e_X11_read_0, e_X11_read_1, e_X11_read_2, e_X11_read_3, e_X11_read_6, e_X11_read_7, e_X11_read_8, e_X11_read_11, e_X11_read_12, e_X11_read_13, e_X11_read_16, e_X11_read_17, e_X11_read_18, e_X11_read_19, e_X11_read_20, e_X11_read_23, e_X11_read_24, e_X11_read_27, e_X11_read_28, e_X11_read_29, e_X11_read_32, c_3, n_placeTrouble, h, n_refuse, Option.bind_some, Option.isSome_some, Option.toList, List.cons_append, List.nil_append, zclr_i, zclr_r, zclr_n, zfit_i, zfit_l, and_self, if_true, if_false]
    rfl
end CD
