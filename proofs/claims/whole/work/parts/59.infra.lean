/-! WHAT THE CALLS NEED -/
section IF
variable {n m : Nat} {g : Nat → zC} {I I2 T A : Nat → Nat → Int32} {J J2 : Nat → Nat → Int64} {N S N' S' : Nat} {c' : Nat → Int32}
theorem Inv.R1 {w : Int32} (h : Inv I J N S) (hT : ∀ a, (∀ i, i < 17 → a ≠ 16 + i) → T a = I a) : RT I 16 ((zu (zu (zu T 3 0 w) 143 1 0) 143 0 0) 148) N S := by
  have e : T 148 = I 148 := hT 148 (fun i _ => by omega)
  show RT I 16 (T 148) N S
  rw [e]
  exact h.R
theorem Inv.fin (h : Inv I J N S) (hW : WT T 16 N S 2999) (hT : ∀ a, (∀ i, i < 17 → a ≠ 16 + i) → T a = I a) (hR : RT T 16 c' N S) (hc : ∀ j, 234 ≤ j → c' j = (zu (zu (zu T 3 0 0) 143 1 0) 143 0 0) 148 j) : Inv (st 0 (zr T 148 c')) J N S := by
  refine Inv.stI (h.town (Nat.le_refl N) hW hR hT (fun j hj => ?_) h.jw (fun _ _ => rfl) (fun _ _ => rfl))
  rw [hc j hj]
  show T 148 j = I 148 j
  rw [hT 148 (fun i _ => by omega)]
theorem settle_out {a : Nat} (h : ∀ i, i < 17 → a ≠ 16 + i) : tSettle T 16 N a = T a := tSettle_far (h 7 (by decide)) (h 14 (by decide)) (h 15 (by decide)) (h 16 (by decide))
theorem bury_out {a Q p : Nat} (h : ∀ i, i < 17 → a ≠ 16 + i) : tBury T 16 Q p a = T a := tBury_far (h 6 (by decide)) (h 9 (by decide)) (h 11 (by decide)) (h 14 (by decide)) (h 15 (by decide)) (h 16 (by decide))
theorem zu_out {a i k : Nat} {x : Int32} (hi : i < 17) (h : ∀ i, i < 17 → a ≠ 16 + i) : zu T (16 + i) k x a = T a := zu_far _ _ _ (h i hi)
theorem weds_out {a p q : Nat} {w : Int32} (h : ∀ i, i < 17 → a ≠ 16 + i) : tWeds T 16 p q w a = T a := by
  unfold tWeds
  split
  · rw [zu_out (by decide) h, zu_out (by decide) h, zu_out (by decide) h]
  · split
    · rw [zu_out (by decide) h, zu_out (by decide) h, zu_out (by decide) h]
    · rw [zu_out (by decide) h, zu_out (by decide) h]
theorem div_out {a p : Nat} (h : ∀ i, i < 17 → a ≠ 16 + i) : tDiv T 16 p a = T a := tDiv_far (h 9 (by decide))
theorem WT.qWell {A : Nat → Nat → Int32} {b U : Nat} (hW : WT A b N S U) : qWell A b := ⟨qN A b, hW.hQ.2, hW.hQ.1, fun k hk => by
  obtain ⟨p, hp, e⟩ := hW.who k hk
  have := hW.h12
  exact ⟨p, by omega, e⟩⟩
theorem WT.yWell {A : Nat → Nat → Int32} {b U : Nat} (hW : WT A b N S U) : yWell A b N := ⟨hW.hN, hW.qWell, fun p hp => by
  have := hW.h12
  rcases hW.wed p hp with e | ⟨q, hq, e⟩
  · exact Or.inl e
  · exact Or.inr ⟨q, by omega, e⟩⟩
theorem WT.bear6 {A : Nat → Nat → Int32} {b U : Nat} (hW : WT A b N S U) : bearOk A b N := fun p hp => by
  have := hW.h6
  rcases hW.bears p hp with e | ⟨q, hq, e⟩
  · exact Or.inl e
  · exact Or.inr ⟨q, by omega, e⟩
theorem WT.like6 {A : Nat → Nat → Int32} {b U : Nat} (hW : WT A b N S U) : likeOk A b N := fun p hp => hW.likes p hp
theorem n_are_yes {p q : Nat} (hW : WT I 16 N S 2999) (hp : p < N) (hq : q < N) (d : Nat) : zcall (d + 1) 225 [.ref 3, .int (nI p), .int (nI q)] (mk n m g I J) = some (some (.int 1), mk n m g I J) := by
  rw [m_X11_arePersons]
  simp only [e_X11_arePersons_0, e_X11_arePersons_1, e_X11_arePersons_4, e_X11_arePersons_5, e_X11_arePersons_8, e_X11_arePersons_11, e_X11_arePersons_12, e_X11_arePersons_15, e_X11_arePersons_16, e_X11_arePersons_19, e_X11_arePersons_22, e_X11_arePersons_23, e_X11_arePersons_26, e_X11_arePersons_27, c_3, c_T0 t16, g_3_7, t_hasP_yes t16 hW.hN hW.h12 hp, t_hasP_yes t16 hW.hN hW.h12 hq, zfit_b1, Option.bind_some, Option.isSome_some, Option.toList, List.cons_append, List.nil_append, zclr_i, zclr_r, zclr_n, zfit_i, zfit_l, and_self, if_true, if_false] <;> first | rfl | simp
theorem n_are_no1 {x y : Int32} (hW : WT I 16 N S 2999) (hx : ∀ p, p < N → x ≠ nI p) (d : Nat) : zcall (d + 1) 225 [.ref 3, .int x, .int y] (mk n m g I J) = some (some (.int 0), mk n m g I J) := by
  rw [m_X11_arePersons]
  simp only [e_X11_arePersons_0, e_X11_arePersons_1, e_X11_arePersons_4, e_X11_arePersons_5, e_X11_arePersons_8, e_X11_arePersons_11, e_X11_arePersons_12, e_X11_arePersons_15, e_X11_arePersons_16, e_X11_arePersons_19, e_X11_arePersons_22, e_X11_arePersons_23, e_X11_arePersons_26, e_X11_arePersons_27, c_3, c_T0 t16, g_3_7, t_hasP_no t16 hW.hN hW.h12 hx, zfit_b0, Option.bind_some, Option.isSome_some, Option.toList, List.cons_append, List.nil_append, zclr_i, zclr_r, zclr_n, zfit_i, zfit_l, and_self, if_true, if_false] <;> first | rfl | simp
theorem n_are_no2 {p : Nat} {y : Int32} (hW : WT I 16 N S 2999) (hp : p < N) (hx : ∀ p, p < N → y ≠ nI p) (d : Nat) : zcall (d + 1) 225 [.ref 3, .int (nI p), .int y] (mk n m g I J) = some (some (.int 0), mk n m g I J) := by
  rw [m_X11_arePersons]
  simp only [e_X11_arePersons_0, e_X11_arePersons_1, e_X11_arePersons_4, e_X11_arePersons_5, e_X11_arePersons_8, e_X11_arePersons_11, e_X11_arePersons_12, e_X11_arePersons_15, e_X11_arePersons_16, e_X11_arePersons_19, e_X11_arePersons_22, e_X11_arePersons_23, e_X11_arePersons_26, e_X11_arePersons_27, c_3, c_T0 t16, g_3_7, t_hasP_yes t16 hW.hN hW.h12 hp, t_hasP_no t16 hW.hN hW.h12 hx, zfit_b0, Option.bind_some, Option.isSome_some, Option.toList, List.cons_append, List.nil_append, zclr_i, zclr_r, zclr_n, zfit_i, zfit_l, and_self, if_true, if_false] <;> first | rfl | simp
theorem liv_eq {A : Nat → Nat → Int32} {b : Nat} (h : N ≤ 12) : (1 <<< (nI N &&& 31) - 1) &&& (sSet (fun p => decide (A (b + 6) p ≠ -1)) N ^^^ -1) = sLiv A b N := by
  refine isS_eq (isS_sub (isS_full h) (isS_sSet _ h)) (isS_liv h) (fun p hp => ?_)
  by_cases h1 : p < N <;> by_cases h2 : A (b + 6) p = -1 <;> simp [h1, h2]
end IF
