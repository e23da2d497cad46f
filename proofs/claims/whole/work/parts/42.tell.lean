/-! THE CALLS: a fraction told in its least terms -/
section CF
variable {n m : Nat} {g : Nat → zC} {I : Nat → Nat → Int32} {J : Nat → Nat → Int64}
/-- Euclid's steps, at most so many -/
def euc : Nat → Int64 → Int64 → Int64
  | 0, a, _ => a
  | f + 1, a, b => if b = 0 then a else euc f b (a - a / b * b)
theorem lg_le (x : Int64) : (lg_cmp x 0 ≤ 0) = ¬ 0 < x := by
  unfold lg_cmp
  by_cases h : x > 0
  · rw [if_pos h]
    exact propext ⟨fun e => absurd e (by decide), fun e => absurd h e⟩
  · rw [if_neg h]
    refine propext ⟨fun _ => h, fun _ => ?_⟩
    split <;> decide
def tellJ (x y : Int64) (J : Nat → Nat → Int64) : Nat → Nat → Int64 := if 0 < euc 200 y x then zu (zu J 3 1 (x / euc 200 y x)) 3 2 (y / euc 200 y x) else J
theorem n_tell {x y : Int64} (d : Nat) : zcall d 231 [.ref 3, .long x, .long y] (mk n m g I J) = some (none, mk n m g I (tellJ x y J)) := by
  rw [m_X11_tell]
  simp only [e_X11_tell_0, e_X11_tell_1, e_X11_tell_3, e_X11_tell_4, e_X11_tell_6, e_X11_tell_7, e_X11_tell_11, e_X11_tell_14, e_X11_tell_17, e_X11_tell_19, e_X11_tell_20, e_X11_tell_21, e_X11_tell_24, e_X11_tell_26, e_X11_tell_28, e_X11_tell_29, e_X11_tell_31, e_X11_tell_33, e_X11_tell_35, e_X11_tell_37, e_X11_tell_39, e_X11_tell_42, e_X11_tell_45, e_X11_tell_47, e_X11_tell_48, e_X11_tell_49, e_X11_tell_52, e_X11_tell_53, e_X11_tell_54, e_X11_tell_56, e_X11_tell_57, e_X11_tell_60, e_X11_tell_61, e_X11_tell_62, e_X11_tell_64, e_X11_tell_65, e_X11_tell_68, Option.bind_some, Option.isSome_some, Option.toList, List.cons_append, List.nil_append, zclr_i, zclr_r, zclr_n, zfit_i, zfit_l, and_self, if_true, if_false]
  have hend : ∀ a b (k : Int32) (r : Option Value), zexec d 231 45 [some (.ref 3), some (.long x), none, some (.long y), none, some (.long a), none, some (.long b), none, some (.int k), r, none] [] (mk n m g I J) = some (none, mk n m g I (if 0 < a then zu (zu J 3 1 (x / a)) 3 2 (y / a) else J)) := by
    intro a b k r
    by_cases h : 0 < a
    · have h0 : ¬ a = 0 := fun e => by rw [e] at h; exact absurd h (by decide)
      simp only [e_X11_tell_0, e_X11_tell_1, e_X11_tell_3, e_X11_tell_4, e_X11_tell_6, e_X11_tell_7, e_X11_tell_11, e_X11_tell_14, e_X11_tell_17, e_X11_tell_19, e_X11_tell_20, e_X11_tell_21, e_X11_tell_24, e_X11_tell_26, e_X11_tell_28, e_X11_tell_29, e_X11_tell_31, e_X11_tell_33, e_X11_tell_35, e_X11_tell_37, e_X11_tell_39, e_X11_tell_42, e_X11_tell_45, e_X11_tell_47, e_X11_tell_48, e_X11_tell_49, e_X11_tell_52, e_X11_tell_53, e_X11_tell_54, e_X11_tell_56, e_X11_tell_57, e_X11_tell_60, e_X11_tell_61, e_X11_tell_62, e_X11_tell_64, e_X11_tell_65, e_X11_tell_68, lg_le, h, not_true, h0, g_3_1, g_3_2, p_3_1, p_3_2, Option.bind_some, Option.isSome_some, Option.toList, List.cons_append, List.nil_append, zclr_i, zclr_r, zclr_n, zfit_i, zfit_l, and_self, if_true, if_false]
    · simp only [e_X11_tell_0, e_X11_tell_1, e_X11_tell_3, e_X11_tell_4, e_X11_tell_6, e_X11_tell_7, e_X11_tell_11, e_X11_tell_14, e_X11_tell_17, e_X11_tell_19, e_X11_tell_20, e_X11_tell_21, e_X11_tell_24, e_X11_tell_26, e_X11_tell_28, e_X11_tell_29, e_X11_tell_31, e_X11_tell_33, e_X11_tell_35, e_X11_tell_37, e_X11_tell_39, e_X11_tell_42, e_X11_tell_45, e_X11_tell_47, e_X11_tell_48, e_X11_tell_49, e_X11_tell_52, e_X11_tell_53, e_X11_tell_54, e_X11_tell_56, e_X11_tell_57, e_X11_tell_60, e_X11_tell_61, e_X11_tell_62, e_X11_tell_64, e_X11_tell_65, e_X11_tell_68, lg_le, h, not_false_eq_true, Option.bind_some, Option.isSome_some, Option.toList, List.cons_append, List.nil_append, zclr_i, zclr_r, zclr_n, zfit_i, zfit_l, and_self, if_true, if_false]
  have h : ∀ f k a b (r : Option Value), k + f = 200 → zexec d 231 9 [some (.ref 3), some (.long x), none, some (.long y), none, some (.long a), none, some (.long b), none, some (.int (nI k)), r, none] [] (mk n m g I J) = some (none, mk n m g I (if 0 < euc f a b then zu (zu J 3 1 (x / euc f a b)) 3 2 (y / euc f a b) else J)) := by
    intro f
    induction f with
    | zero =>
      intro k a b r hk
      rw [e_X11_tell_9]
      simp only [e_X11_tell_11, e_X11_tell_14, e_X11_tell_17, e_X11_tell_19, e_X11_tell_20, e_X11_tell_21, e_X11_tell_24, e_X11_tell_26, e_X11_tell_28, e_X11_tell_29, e_X11_tell_31, e_X11_tell_33, e_X11_tell_35, e_X11_tell_37, e_X11_tell_39, e_X11_tell_42, if_pos (show (200 : Int32) ≤ nI k from nI_le (a := 200) (by omega) (by omega)), hend, Option.bind_some, Option.isSome_some, Option.toList, List.cons_append, List.nil_append, zclr_i, zclr_r, zclr_n, zfit_i, zfit_l, and_self, if_true, if_false]
      rfl
    | succ f ih =>
      intro k a b r hk
      rw [e_X11_tell_9, euc]
      simp only [e_X11_tell_11, e_X11_tell_14, e_X11_tell_17, e_X11_tell_19, e_X11_tell_20, e_X11_tell_21, e_X11_tell_24, e_X11_tell_26, e_X11_tell_28, e_X11_tell_29, e_X11_tell_31, e_X11_tell_33, e_X11_tell_35, e_X11_tell_37, e_X11_tell_39, e_X11_tell_42, if_neg (show ¬ (200 : Int32) ≤ nI k from nI_ge (b := 200) (by omega) (by decide)), lg_eq, hend, nI_1, zclr_l, ih (k + 1) _ _ _ (by omega), Option.bind_some, Option.isSome_some, Option.toList, List.cons_append, List.nil_append, zclr_i, zclr_r, zclr_n, zfit_i, zfit_l, and_self, if_true, if_false]
      by_cases h1 : b = 0 <;> simp [h1]
  exact h 200 0 y x none rfl
end CF
