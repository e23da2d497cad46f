/-! THE CALLS: ways to choose -/
section CE
variable {n m : Nat} {g : Nat → zC} {I : Nat → Nat → Int32} {J : Nat → Nat → Int64}
theorem nI_l0 {i : Nat} (h1 : 1 ≤ i) (h : i < 2 ^ 31) : ¬ (nI i).toInt64 = 0 := by
  intro e
  have h2 : (nI i).toInt64.toInt = (0 : Int64).toInt := by rw [e]
  rw [Int32.toInt_toInt64, nI_toInt h] at h2
  have h3 : (0 : Int64).toInt = 0 := rfl
  omega
theorem n_choose {x : Int32} {k : Nat} (hk : k + 1 < 2 ^ 31) (d : Nat) : zcall d 232 [.int x, .int (nI k)] (mk n m g I J) = some (some (.long (zfor (fun i a => a * (x - nI k + nI i).toInt64 / (nI i).toInt64) 1 k 1)), mk n m g I J) := by
  rw [m_X11_choose]
  simp only [e_X11_choose_0, e_X11_choose_1, e_X11_choose_2, e_X11_choose_3, e_X11_choose_7, e_X11_choose_8, e_X11_choose_11, e_X11_choose_12, e_X11_choose_13, e_X11_choose_14, e_X11_choose_15, e_X11_choose_17, e_X11_choose_18, e_X11_choose_19, e_X11_choose_20, e_X11_choose_22, e_X11_choose_23, e_X11_choose_24, e_X11_choose_25, e_X11_choose_28, e_X11_choose_31, e_X11_choose_32, Option.bind_some, Option.isSome_some, Option.toList, List.cons_append, List.nil_append, zclr_i, zclr_r, zclr_n, zfit_i, zfit_l, and_self, if_true, if_false]
  have h := zloopI (fun i (a : Int64) => zexec d 232 5 [some (.int x), some (.int (nI k)), some (.long a), none, some (.int (nI i))] [] (mk n m g I J)) (fun i a => a * (x - nI k + nI i).toInt64 / (nI i).toInt64) (fun i _ => 1 ≤ i) (k + 1) ?_ k 1 1 (by omega) (Nat.le_refl _)
  · refine h.1.trans ?_
    have h6 : nI k < nI (k + 1) := Int32.not_le.mp (nI_ge (show k < k + 1 by omega) (by omega))
    rw [e_X11_choose_5]
    simp only [e_X11_choose_0, e_X11_choose_1, e_X11_choose_2, e_X11_choose_3, e_X11_choose_7, e_X11_choose_8, e_X11_choose_11, e_X11_choose_12, e_X11_choose_13, e_X11_choose_14, e_X11_choose_15, e_X11_choose_17, e_X11_choose_18, e_X11_choose_19, e_X11_choose_20, e_X11_choose_22, e_X11_choose_23, e_X11_choose_24, e_X11_choose_25, e_X11_choose_28, e_X11_choose_31, e_X11_choose_32, if_pos h6, Option.bind_some, Option.isSome_some, Option.toList, List.cons_append, List.nil_append, zclr_i, zclr_r, zclr_n, zfit_i, zfit_l, and_self, if_true, if_false]
  · intro i a hi h1
    refine ⟨?_, by omega⟩
    have h6 : ¬ nI k < nI i := Int32.not_lt.mpr (nI_le (show i ≤ k by omega) (by omega))
    rw [e_X11_choose_5]
    simp only [e_X11_choose_0, e_X11_choose_1, e_X11_choose_2, e_X11_choose_3, e_X11_choose_7, e_X11_choose_8, e_X11_choose_11, e_X11_choose_12, e_X11_choose_13, e_X11_choose_14, e_X11_choose_15, e_X11_choose_17, e_X11_choose_18, e_X11_choose_19, e_X11_choose_20, e_X11_choose_22, e_X11_choose_23, e_X11_choose_24, e_X11_choose_25, e_X11_choose_28, e_X11_choose_31, e_X11_choose_32, if_neg h6, if_neg (nI_l0 h1 (show i < 2 ^ 31 by omega)), nI_1, Option.bind_some, Option.isSome_some, Option.toList, List.cons_append, List.nil_append, zclr_i, zclr_r, zclr_n, zfit_i, zfit_l, and_self, if_true, if_false]
end CE
