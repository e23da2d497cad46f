/-! THE RINGS: closing them -/
section R2
variable {n m : Nat} {g : Nat → zC} {I : Nat → Nat → Int32} {J : Nat → Nat → Int64}
theorem rLen_case (p : Nat) : ∀ f q k, rLen I p q k f = 0 ∨ ∃ j, k ≤ j ∧ j < k + f ∧ rLen I p q k f = nI j
  | 0, _, _ => .inl rfl
  | f + 1, q, k => by
    rw [rLen]
    split
    · exact .inr ⟨k, Nat.le_refl _, by omega, rfl⟩
    · rcases rLen_case p f (I 71 q).toNatClampNeg (k + 1) with h | ⟨j, h1, h2, h3⟩
      · exact .inl h
      · exact .inr ⟨j, by omega, by omega, h3⟩
def rFirst (b : Nat) (I : Nat → Nat → Int32) : Nat → Nat → Nat → Nat → Int32
  | _, 0 => I
  | p, f + 1 => if I 69 3 >>> (nI p &&& 31) &&& 1 = 0 then rFirst b I (p + 1) f else if rLen I p p 1 12 = 0 then rFirst b I (p + 1) f else rTake b p (rLen I p p 1 12).toNatClampNeg I
theorem r_closeFirst {b N : Nat} (hb : isTown b) (hN : I b 4 = nI N) (h12 : N ≤ 12) (hk : pointOk I) (d : Nat) : zcall (d + 1) 67 [.ref 69, .ref b] (mk n m g I J) = some (none, mk n m g (rFirst b I 0 N) J) := by
  rw [m_X5_closeFirst]
  simp only [e_X5_closeFirst_0, e_X5_closeFirst_1, e_X5_closeFirst_3, e_X5_closeFirst_4, e_X5_closeFirst_7, e_X5_closeFirst_10, e_X5_closeFirst_11, e_X5_closeFirst_14, e_X5_closeFirst_15, e_X5_closeFirst_16, e_X5_closeFirst_17, e_X5_closeFirst_18, e_X5_closeFirst_21, e_X5_closeFirst_22, e_X5_closeFirst_23, e_X5_closeFirst_26, e_X5_closeFirst_29, e_X5_closeFirst_30, e_X5_closeFirst_31, e_X5_closeFirst_32, e_X5_closeFirst_35, e_X5_closeFirst_36, e_X5_closeFirst_37, e_X5_closeFirst_38, e_X5_closeFirst_39, e_X5_closeFirst_42, e_X5_closeFirst_43, e_X5_closeFirst_46, e_X5_closeFirst_49, Option.bind_some, Option.isSome_some, Option.toList, List.cons_append, List.nil_append, zclr_i, zclr_r, zclr_n, zfit_i, zfit_l, and_self, if_true, if_false]
  have h : ∀ f p (y : Option Value), p + f = N → zexec (d + 1) 67 2 [some (.ref 69), some (.ref b), some (.int (nI p)), y] [] (mk n m g I J) = some (none, mk n m g (rFirst b I p f) J) := by
    intro f
    induction f with
    | zero =>
      intro p y hp
      rw [e_X5_closeFirst_2]
      simp only [e_X5_closeFirst_0, e_X5_closeFirst_1, e_X5_closeFirst_3, e_X5_closeFirst_4, e_X5_closeFirst_7, e_X5_closeFirst_10, e_X5_closeFirst_11, e_X5_closeFirst_14, e_X5_closeFirst_15, e_X5_closeFirst_16, e_X5_closeFirst_17, e_X5_closeFirst_18, e_X5_closeFirst_21, e_X5_closeFirst_22, e_X5_closeFirst_23, e_X5_closeFirst_26, e_X5_closeFirst_29, e_X5_closeFirst_30, e_X5_closeFirst_31, e_X5_closeFirst_32, e_X5_closeFirst_35, e_X5_closeFirst_36, e_X5_closeFirst_37, e_X5_closeFirst_38, e_X5_closeFirst_39, e_X5_closeFirst_42, e_X5_closeFirst_43, e_X5_closeFirst_46, e_X5_closeFirst_49, g_T0_4 hb, hN, if_pos (nI_le (show N ≤ p by omega) (by omega : p < 2 ^ 31)), Option.bind_some, Option.isSome_some, Option.toList, List.cons_append, List.nil_append, zclr_i, zclr_r, zclr_n, zfit_i, zfit_l, and_self, if_true, if_false]
      rfl
    | succ f ih =>
      intro p y hp
      rw [e_X5_closeFirst_2, rFirst]
      rcases rLen_case (I := I) p 12 p 1 with h0 | ⟨j, h1, h2, h3⟩
      · simp only [e_X5_closeFirst_0, e_X5_closeFirst_1, e_X5_closeFirst_3, e_X5_closeFirst_4, e_X5_closeFirst_7, e_X5_closeFirst_10, e_X5_closeFirst_11, e_X5_closeFirst_14, e_X5_closeFirst_15, e_X5_closeFirst_16, e_X5_closeFirst_17, e_X5_closeFirst_18, e_X5_closeFirst_21, e_X5_closeFirst_22, e_X5_closeFirst_23, e_X5_closeFirst_26, e_X5_closeFirst_29, e_X5_closeFirst_30, e_X5_closeFirst_31, e_X5_closeFirst_32, e_X5_closeFirst_35, e_X5_closeFirst_36, e_X5_closeFirst_37, e_X5_closeFirst_38, e_X5_closeFirst_39, e_X5_closeFirst_42, e_X5_closeFirst_43, e_X5_closeFirst_46, e_X5_closeFirst_49, c_69, g_69_3, g_T0_4 hb, hN, if_neg (nI_ge (show p < N by omega) (by omega : N < 2 ^ 31)), r_lengthFrom (show p < 12 by omega) hk, h0, if_pos (show (0 : Int32) ≤ 0 by decide), nI_1, ih (p + 1) _ (by omega), Option.bind_some, Option.isSome_some, Option.toList, List.cons_append, List.nil_append, zclr_i, zclr_r, zclr_n, zfit_i, zfit_l, and_self, if_true, if_false]
        by_cases h5 : I 69 3 >>> (nI p &&& 31) &&& 1 = 0 <;> simp [h5]
      · have h6 : ¬ nI j ≤ 0 := nI_ge (a := 0) (by omega) (by omega)
        have h7 : ¬ nI j = 0 := fun e => h6 (by rw [e]; decide)
        simp only [e_X5_closeFirst_0, e_X5_closeFirst_1, e_X5_closeFirst_3, e_X5_closeFirst_4, e_X5_closeFirst_7, e_X5_closeFirst_10, e_X5_closeFirst_11, e_X5_closeFirst_14, e_X5_closeFirst_15, e_X5_closeFirst_16, e_X5_closeFirst_17, e_X5_closeFirst_18, e_X5_closeFirst_21, e_X5_closeFirst_22, e_X5_closeFirst_23, e_X5_closeFirst_26, e_X5_closeFirst_29, e_X5_closeFirst_30, e_X5_closeFirst_31, e_X5_closeFirst_32, e_X5_closeFirst_35, e_X5_closeFirst_36, e_X5_closeFirst_37, e_X5_closeFirst_38, e_X5_closeFirst_39, e_X5_closeFirst_42, e_X5_closeFirst_43, e_X5_closeFirst_46, e_X5_closeFirst_49, c_69, g_69_3, g_T0_4 hb, hN, if_neg (nI_ge (show p < N by omega) (by omega : N < 2 ^ 31)), r_lengthFrom (show p < 12 by omega) hk, h3, r_take hb (show p < 12 by omega) hk (show j ≤ 12 by omega), if_neg h6, if_neg h7, if_pos (show (0 : Int32) ≤ 0 by decide), nI_clamp (show j < 2 ^ 31 by omega), nI_1, ih (p + 1) _ (by omega), Option.bind_some, Option.isSome_some, Option.toList, List.cons_append, List.nil_append, zclr_i, zclr_r, zclr_n, zfit_i, zfit_l, and_self, if_true, if_false]
        by_cases h5 : I 69 3 >>> (nI p &&& 31) &&& 1 = 0 <;> simp [h5, h6]
  exact h N 0 none (by omega)
theorem j_fillGets {x : Int32} (d : Nat) : zcall d 421 [.ref 70, .int x] (mk n m g I J) = some (none, mk n m g (zr I 70 (fun j => if j < 12 then x else I 70 j)) J) := by
  rw [m_J7_fill_53178]
  simp only [e_J7_fill_53178_0, e_J7_fill_53178_1, e_J7_fill_53178_2, e_J7_fill_53178_3, e_J7_fill_53178_4, e_J7_fill_53178_6, e_J7_fill_53178_7, e_J7_fill_53178_10, e_J7_fill_53178_11, e_J7_fill_53178_12, e_J7_fill_53178_13, e_J7_fill_53178_14, e_J7_fill_53178_17, e_J7_fill_53178_20, n_70, Option.bind_some, Option.isSome_some, Option.toList, List.cons_append, List.nil_append, zclr_i, zclr_r, zclr_n, zfit_i, zfit_l, and_self, if_true, if_false]
  refine (zloop (fun p (a : Nat → Nat → Int32) => zexec d 421 5 [some (.ref 70), some (.int x), some (.int (nI p)), some (.int (nI 12))] [] (mk n m g a J)) (fun p a => zu a 70 p x) 12 ?_ 12 0 I (by omega)).trans ?_
  · intro p a hp
    rw [e_J7_fill_53178_5]
    simp only [e_J7_fill_53178_0, e_J7_fill_53178_1, e_J7_fill_53178_2, e_J7_fill_53178_3, e_J7_fill_53178_4, e_J7_fill_53178_6, e_J7_fill_53178_7, e_J7_fill_53178_10, e_J7_fill_53178_11, e_J7_fill_53178_12, e_J7_fill_53178_13, e_J7_fill_53178_14, e_J7_fill_53178_17, e_J7_fill_53178_20, if_neg (nI_ge hp (by omega : 12 < 2 ^ 31)), nI_neg (show p < 2 ^ 31 by omega), nI_clamp (show p < 2 ^ 31 by omega), k_70 hp, q_70, nI_1, Option.bind_some, Option.isSome_some, Option.toList, List.cons_append, List.nil_append, zclr_i, zclr_r, zclr_n, zfit_i, zfit_l, and_self, if_true, if_false]
  · rw [e_J7_fill_53178_5, zu_fill]
    simp only [e_J7_fill_53178_0, e_J7_fill_53178_1, e_J7_fill_53178_2, e_J7_fill_53178_3, e_J7_fill_53178_4, e_J7_fill_53178_6, e_J7_fill_53178_7, e_J7_fill_53178_10, e_J7_fill_53178_11, e_J7_fill_53178_12, e_J7_fill_53178_13, e_J7_fill_53178_14, e_J7_fill_53178_17, e_J7_fill_53178_20, if_pos (nI_le (Nat.le_refl 12) (by omega : 12 < 2 ^ 31)), Option.bind_some, Option.isSome_some, Option.toList, List.cons_append, List.nil_append, zclr_i, zclr_r, zclr_n, zfit_i, zfit_l, and_self, if_true, if_false]
    congr 3
    funext j
    simp
theorem tLeast_case (s : Int32) : ∃ r, r < 12 ∧ tLeast s = nI r := by
  unfold tLeast
  have h : ∀ k p, p + k ≤ 12 → ∃ r, r < 12 ∧ zfind (fun p => decide (¬ s >>> (nI p &&& 31) &&& 1 = 0)) nI 0 p k = nI r := by
    intro k
    induction k with
    | zero => intro p _; exact ⟨0, by decide, rfl⟩
    | succ k ih =>
      intro p hp
      rw [zfind]
      split
      · exact ⟨p, by omega, rfl⟩
      · exact ih (p + 1) (by omega)
  exact h 12 0 (by omega)
theorem rDear_case {b p N : Nat} (hp : p < 12) : ∀ f k, ∃ r, r < 12 ∧ rDear I b p N k f = nI r
  | 0, _ => ⟨p, hp, rfl⟩
  | f + 1, k => by
    rw [rDear]
    split
    · exact ⟨p, hp, rfl⟩
    · split
      · exact rDear_case hp f (k + 1)
      · exact tLeast_case _
/-- what the rings need of the town, and of what they point at -/
def rWell (I : Nat → Nat → Int32) (b N : Nat) : Prop := I b 4 = nI N ∧ likeOk I b N ∧ pointOk I
theorem rWell_far {I I' : Nat → Nat → Int32} {b N : Nat} (h0 : I' b = I b) (h12 : I' (b + 12) = I (b + 12)) (h71 : I' 71 = I 71) (h : rWell I b N) : rWell I' b N := by
  obtain ⟨h1, h2, h3⟩ := h
  refine ⟨by rw [h0]; exact h1, fun p hp => by rw [h12]; exact h2 p hp, fun q hq => by rw [h71]; exact h3 q hq⟩
theorem rPoint_well {b p N : Nat} (hb : isTown b) (hp : p < 12) (h : rWell I b N) : rWell (rPoint b N p I) b N := by
  unfold rPoint
  split
  · exact h
  · obtain ⟨h1, h2, h3⟩ := h
    refine ⟨by rw [zu_far _ _ _ (show b ≠ 71 from (ring_town (i := 0) hb (by decide)).2.2)]; exact h1, fun q hq => by rw [zu_far _ _ _ (ring_town hb (by decide)).2.2]; exact h2 q hq, ?_⟩
    intro q hq
    rw [zu_row]
    split
    · exact rDear_case hp _ _
    · exact h3 q hq
theorem rTake_far {b p L a : Nat} (h69 : a ≠ 69) (h70 : a ≠ 70) : rTake b p L I a = I a := by
  have h : ∀ k q (x : Nat × (Nat → Nat → Int32)), (zfor (fun _ => rTake1 b) q k x).2 a = x.2 a := by
    intro k
    induction k with
    | zero => intro q x; rfl
    | succ k ih =>
      intro q x
      rw [zfor, ih]
      unfold rTake1
      dsimp only
      rw [zu_far _ _ _ h69, zu_far _ _ _ h70]
  unfold rTake
  split
  · rw [zu_far _ _ _ h69, h]
  · exact h _ _ _
theorem rFirst_far {b a : Nat} (h69 : a ≠ 69) (h70 : a ≠ 70) : ∀ f p, rFirst b I p f a = I a
  | 0, _ => rfl
  | f + 1, p => by
    rw [rFirst]
    split
    · exact rFirst_far h69 h70 f (p + 1)
    · split
      · exact rFirst_far h69 h70 f (p + 1)
      · exact rTake_far h69 h70
def rIn (b p : Nat) (I : Nat → Nat → Int32) : Nat → Nat → Int32 := if I (b + 6) p = -1 ∧ I (b + 7) p ≠ -1 then zu I 69 3 (I 69 3 ||| bt p) else I
def rRun (b N : Nat) : Nat → (Nat → Nat → Int32) → Nat → Nat → Int32
  | 0, I => I
  | f + 1, I => if I 69 3 = 0 then I else rRun b N f (rFirst b (zfor (rPoint b N) 0 N I) 0 N)
def rClose (b N : Nat) (I : Nat → Nat → Int32) : Nat → Nat → Int32 := rRun b N 12 (zfor (rIn b) 0 N (zu (zu (zr I 70 (fun j => if j < 12 then -1 else I 70 j)) 69 1 0) 69 3 0))
theorem rIn_well {b p N : Nat} (hb : isTown b) (h : rWell I b N) : rWell (rIn b p I) b N := by
  unfold rIn
  split
  · exact rWell_far (zu_far _ _ _ (show b ≠ 69 from (ring_town (i := 0) hb (by decide)).1)) (zu_far _ _ _ (ring_town hb (by decide)).1) (zu_far _ _ _ (by decide)) h
  · exact h
theorem r_close {b N : Nat} (hb : isTown b) (h12 : N ≤ 12) (hw : rWell I b N) (d : Nat) : zcall (d + 3) 64 [.ref 69, .ref b] (mk n m g I J) = some (none, mk n m g (rClose b N I) J) := by
  rw [m_X5_close]
  simp only [e_X5_close_0, e_X5_close_1, e_X5_close_4, e_X5_close_5, e_X5_close_8, e_X5_close_9, e_X5_close_10, e_X5_close_13, e_X5_close_14, e_X5_close_15, e_X5_close_18, e_X5_close_19, e_X5_close_21, e_X5_close_22, e_X5_close_25, e_X5_close_28, e_X5_close_29, e_X5_close_30, e_X5_close_33, e_X5_close_36, e_X5_close_37, e_X5_close_38, e_X5_close_41, e_X5_close_42, e_X5_close_43, e_X5_close_44, e_X5_close_45, e_X5_close_48, e_X5_close_51, e_X5_close_54, e_X5_close_55, e_X5_close_57, e_X5_close_59, e_X5_close_62, e_X5_close_63, e_X5_close_66, e_X5_close_69, e_X5_close_70, e_X5_close_71, e_X5_close_74, e_X5_close_75, e_X5_close_76, e_X5_close_79, e_X5_close_82, e_X5_close_85, g_69_0, g_69_1, g_69_3, j_fillGets, p_69_1, p_69_3, Option.bind_some, Option.isSome_some, Option.toList, List.cons_append, List.nil_append, zclr_i, zclr_r, zclr_n, zfit_i, zfit_l, and_self, if_true, if_false]
  have hw0 : rWell (zu (zu (zr I 70 (fun j => if j < 12 then -1 else I 70 j)) 69 1 0) 69 3 0) b N := by
    have h0 := (ring_town (i := 0) hb (by decide))
    have h1 := (ring_town (i := 12) hb (by decide))
    exact rWell_far (by rw [zu_far _ _ _ (show b ≠ 69 from h0.1), zu_far _ _ _ (show b ≠ 69 from h0.1), zr_far _ _ (show b ≠ 70 from h0.2.1)]) (by rw [zu_far _ _ _ h1.1, zu_far _ _ _ h1.1, zr_far _ _ h1.2.1]) (by rw [zu_far _ _ _ (by decide), zu_far _ _ _ (by decide), zr_far _ _ (by decide)]) hw
  unfold rClose
  generalize zu (zu (zr I 70 (fun j => if j < 12 then -1 else I 70 j)) 69 1 0) 69 3 0 = I0 at hw0 ⊢
  have h := zloopI (fun p (a : Nat → Nat → Int32) => zexec (d + 3) 64 20 [some (.ref 69), some (.ref b), some (.int (nI p))] [] (mk n m g a J)) (rIn b) (fun _ a => rWell a b N) N ?_ N 0 I0 (by omega) hw0
  · refine h.1.trans ?_
    have hw1 := h.2
    generalize zfor (rIn b) 0 N I0 = I1 at hw1 ⊢
    rw [e_X5_close_20]
    simp only [e_X5_close_0, e_X5_close_1, e_X5_close_4, e_X5_close_5, e_X5_close_8, e_X5_close_9, e_X5_close_10, e_X5_close_13, e_X5_close_14, e_X5_close_15, e_X5_close_18, e_X5_close_19, e_X5_close_21, e_X5_close_22, e_X5_close_25, e_X5_close_28, e_X5_close_29, e_X5_close_30, e_X5_close_33, e_X5_close_36, e_X5_close_37, e_X5_close_38, e_X5_close_41, e_X5_close_42, e_X5_close_43, e_X5_close_44, e_X5_close_45, e_X5_close_48, e_X5_close_51, e_X5_close_54, e_X5_close_55, e_X5_close_57, e_X5_close_59, e_X5_close_62, e_X5_close_63, e_X5_close_66, e_X5_close_69, e_X5_close_70, e_X5_close_71, e_X5_close_74, e_X5_close_75, e_X5_close_76, e_X5_close_79, e_X5_close_82, e_X5_close_85, g_T0_4 hb, hw1.1, if_pos (nI_le (Nat.le_refl N) (by omega : N < 2 ^ 31)), Option.bind_some, Option.isSome_some, Option.toList, List.cons_append, List.nil_append, zclr_i, zclr_r, zclr_n, zfit_i, zfit_l, and_self, if_true, if_false]
    have h2 : ∀ f k (I : Nat → Nat → Int32), k + f = 12 → rWell I b N → zexec (d + 3) 64 56 [some (.ref 69), some (.ref b), some (.int (nI k))] [] (mk n m g I J) = some (none, mk n m g (rRun b N f I) J) := by
      intro f
      induction f with
      | zero =>
        intro k I hk hI
        have : k = 12 := by omega
        subst this
        rw [e_X5_close_56]
        simp only [e_X5_close_0, e_X5_close_1, e_X5_close_4, e_X5_close_5, e_X5_close_8, e_X5_close_9, e_X5_close_10, e_X5_close_13, e_X5_close_14, e_X5_close_15, e_X5_close_18, e_X5_close_19, e_X5_close_21, e_X5_close_22, e_X5_close_25, e_X5_close_28, e_X5_close_29, e_X5_close_30, e_X5_close_33, e_X5_close_36, e_X5_close_37, e_X5_close_38, e_X5_close_41, e_X5_close_42, e_X5_close_43, e_X5_close_44, e_X5_close_45, e_X5_close_48, e_X5_close_51, e_X5_close_54, e_X5_close_55, e_X5_close_57, e_X5_close_59, e_X5_close_62, e_X5_close_63, e_X5_close_66, e_X5_close_69, e_X5_close_70, e_X5_close_71, e_X5_close_74, e_X5_close_75, e_X5_close_76, e_X5_close_79, e_X5_close_82, e_X5_close_85, if_pos (show (12 : Int32) ≤ nI 12 by decide), Option.bind_some, Option.isSome_some, Option.toList, List.cons_append, List.nil_append, zclr_i, zclr_r, zclr_n, zfit_i, zfit_l, and_self, if_true, if_false]
        rfl
      | succ f ih =>
        intro k I hk hI
        rw [e_X5_close_56, rRun]
        have hP : rWell (zfor (rPoint b N) 0 N I) b N := by
          have h9 : ∀ j p (I : Nat → Nat → Int32), p + j ≤ 12 → rWell I b N → rWell (zfor (rPoint b N) p j I) b N := by
            intro j
            induction j with
            | zero => intro p I _ h; exact h
            | succ j ihj => intro p I hp h; rw [zfor]; exact ihj (p + 1) _ (by omega) (rPoint_well hb (by omega) h)
          exact h9 N 0 I (by omega) hI
        have hF : rWell (rFirst b (zfor (rPoint b N) 0 N I) 0 N) b N := rWell_far (rFirst_far (show b ≠ 69 from (ring_town (i := 0) hb (by decide)).1) (show b ≠ 70 from (ring_town (i := 0) hb (by decide)).2.1) _ _) (rFirst_far (ring_town hb (by decide)).1 (ring_town hb (by decide)).2.1 _ _) (rFirst_far (by decide) (by decide) _ _) hP
        simp only [e_X5_close_0, e_X5_close_1, e_X5_close_4, e_X5_close_5, e_X5_close_8, e_X5_close_9, e_X5_close_10, e_X5_close_13, e_X5_close_14, e_X5_close_15, e_X5_close_18, e_X5_close_19, e_X5_close_21, e_X5_close_22, e_X5_close_25, e_X5_close_28, e_X5_close_29, e_X5_close_30, e_X5_close_33, e_X5_close_36, e_X5_close_37, e_X5_close_38, e_X5_close_41, e_X5_close_42, e_X5_close_43, e_X5_close_44, e_X5_close_45, e_X5_close_48, e_X5_close_51, e_X5_close_54, e_X5_close_55, e_X5_close_57, e_X5_close_59, e_X5_close_62, e_X5_close_63, e_X5_close_66, e_X5_close_69, e_X5_close_70, e_X5_close_71, e_X5_close_74, e_X5_close_75, e_X5_close_76, e_X5_close_79, e_X5_close_82, e_X5_close_85, c_69, g_69_3, if_neg (show ¬ (12 : Int32) ≤ nI k from nI_ge (b := 12) (by omega) (by decide)), r_pointAll hb hI.1 h12 hI.2.1, r_closeFirst hb hP.1 h12 hP.2.2, nI_1, ih (k + 1) _ (by omega) hF, Option.bind_some, Option.isSome_some, Option.toList, List.cons_append, List.nil_append, zclr_i, zclr_r, zclr_n, zfit_i, zfit_l, and_self, if_true, if_false]
        split <;> rfl
    exact h2 12 0 I1 (by omega) hw1
  · intro p a hp ha
    refine ⟨?_, rIn_well hb ha⟩
    rw [e_X5_close_20]
    simp only [e_X5_close_0, e_X5_close_1, e_X5_close_4, e_X5_close_5, e_X5_close_8, e_X5_close_9, e_X5_close_10, e_X5_close_13, e_X5_close_14, e_X5_close_15, e_X5_close_18, e_X5_close_19, e_X5_close_21, e_X5_close_22, e_X5_close_25, e_X5_close_28, e_X5_close_29, e_X5_close_30, e_X5_close_33, e_X5_close_36, e_X5_close_37, e_X5_close_38, e_X5_close_41, e_X5_close_42, e_X5_close_43, e_X5_close_44, e_X5_close_45, e_X5_close_48, e_X5_close_51, e_X5_close_54, e_X5_close_55, e_X5_close_57, e_X5_close_59, e_X5_close_62, e_X5_close_63, e_X5_close_66, e_X5_close_69, e_X5_close_70, e_X5_close_71, e_X5_close_74, e_X5_close_75, e_X5_close_76, e_X5_close_79, e_X5_close_82, e_X5_close_85, c_T0 hb, g_69_3, p_69_3, g_T0_4 hb, ha.1, if_neg (nI_ge hp (by omega : N < 2 ^ 31)), t_takesPart hb (show p < 12 by omega), nI_1, Option.bind_some, Option.isSome_some, Option.toList, List.cons_append, List.nil_append, zclr_i, zclr_r, zclr_n, zfit_i, zfit_l, and_self, if_true, if_false]
    unfold rIn
    by_cases h3 : a (b + 6) p = -1 ∧ a (b + 7) p ≠ -1
    · simp [h3, bI, bt]
    · simp [h3, bI]
end R2
