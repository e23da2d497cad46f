section TW
variable {n m : Nat} {g : Nat → zC} {I : Nat → Nat → Int32} {J : Nat → Nat → Int64}
theorem t_lives {b p : Nat} (hb : isTown b) (hp : p < 12) (d : Nat) : zcall d 84 [.ref b, .int (nI p)] (mk n m g I J) = some (some (.int (if I (b + 6) p = -1 then 1 else 0)), mk n m g I J) := by
  rw [m_X7_lives]
  simp only [e_X7_lives_0, e_X7_lives_1, e_X7_lives_4, e_X7_lives_5, e_X7_lives_6, e_X7_lives_7, e_X7_lives_10, e_X7_lives_11, e_X7_lives_14, e_X7_lives_15, g_T0_11 hb, l_T6 hb hp, Option.bind_some]
  by_cases h : I (b + 6) p = -1 <;> simp only [h, if_true, if_false, zfit_b0, zfit_b1]
def tFree (I : Nat → Nat → Int32) (b : Nat) (s : Int32) (N : Nat) : Int32 := zfor (fun p (a : Int32) => if I (b + 7) p = s ∧ I (b + 6) p = -1 then a + -1 else a) 0 N (I b 1)
theorem t_free {b N : Nat} {s : Int32} (hb : isTown b) (hN : I b 4 = nI N) (h12 : N ≤ 12) (d : Nat) : zcall d 93 [.ref b, .int s] (mk n m g I J) = some (some (.int (if 0 < tFree I b s N then tFree I b s N else 0)), mk n m g I J) := by
  rw [m_X7_free]
  simp only [e_X7_free_0, e_X7_free_1, e_X7_free_4, e_X7_free_5, e_X7_free_6, e_X7_free_8, e_X7_free_9, e_X7_free_12, e_X7_free_15, e_X7_free_16, e_X7_free_19, e_X7_free_20, e_X7_free_21, e_X7_free_22, e_X7_free_25, e_X7_free_26, e_X7_free_29, e_X7_free_30, e_X7_free_31, e_X7_free_32, e_X7_free_35, e_X7_free_38, e_X7_free_41, e_X7_free_44, e_X7_free_45, e_X7_free_48, e_X7_free_49, e_X7_free_52, e_X7_free_53, g_T0_1 hb, Option.bind_some, zclr_i]
  rw [zloop (fun p a => zexec d 93 7 [some (.ref b), some (.int s), some (.int a), some (.int (nI p))] [] (mk n m g I J)) (fun p (a : Int32) => if I (b + 7) p = s ∧ I (b + 6) p = -1 then a + -1 else a) N ?_ N 0 _ (by omega)]
  · rw [e_X7_free_7]
    simp only [e_X7_free_0, e_X7_free_1, e_X7_free_4, e_X7_free_5, e_X7_free_6, e_X7_free_8, e_X7_free_9, e_X7_free_12, e_X7_free_15, e_X7_free_16, e_X7_free_19, e_X7_free_20, e_X7_free_21, e_X7_free_22, e_X7_free_25, e_X7_free_26, e_X7_free_29, e_X7_free_30, e_X7_free_31, e_X7_free_32, e_X7_free_35, e_X7_free_38, e_X7_free_41, e_X7_free_44, e_X7_free_45, e_X7_free_48, e_X7_free_49, e_X7_free_52, e_X7_free_53, g_T0_4 hb, Option.bind_some, hN, if_pos (nI_le (Nat.le_refl N) (by omega : N < 2 ^ 31))]
    unfold tFree
    by_cases h : 0 < zfor (fun p (a : Int32) => if I (b + 7) p = s ∧ I (b + 6) p = -1 then a + -1 else a) 0 N (I b 1) <;> simp [h]
  · intro p a hp
    rw [e_X7_free_7]
    simp only [e_X7_free_0, e_X7_free_1, e_X7_free_4, e_X7_free_5, e_X7_free_6, e_X7_free_8, e_X7_free_9, e_X7_free_12, e_X7_free_15, e_X7_free_16, e_X7_free_19, e_X7_free_20, e_X7_free_21, e_X7_free_22, e_X7_free_25, e_X7_free_26, e_X7_free_29, e_X7_free_30, e_X7_free_31, e_X7_free_32, e_X7_free_35, e_X7_free_38, e_X7_free_41, e_X7_free_44, e_X7_free_45, e_X7_free_48, e_X7_free_49, e_X7_free_52, e_X7_free_53, g_T0_4 hb, g_T0_12 hb, g_T0_11 hb, l_T7 hb (show p < 12 by omega), l_T6 hb (show p < 12 by omega), Option.bind_some, hN, if_neg (nI_ge hp (by omega : N < 2 ^ 31)), zclr_i, zclr_r, nI_1]
    by_cases h1 : I (b + 7) p = s <;> by_cases h2 : I (b + 6) p = -1 <;> simp only [h1, h2, if_true, if_false, true_and, and_true, and_self, false_and, and_false]
end TW
