/-! THE REFERENCE: deaths and years -/
section DI
variable {n m : Nat} {g : Nat → zC} {I A A' : Nat → Nat → Int32} {J : Nat → Nat → Int64} {b N S U : Nat}
theorem zloopR {α β T : Type} (X : Nat → α → T) (Q : Nat → β → α → Prop) (f : Nat → β → β) (N : Nat) (hs : ∀ p x a, p < N → Q p x a → ∃ a', X p a = X (p + 1) a' ∧ Q (p + 1) (f p x) a') : ∀ k p x a, p + k = N → Q p x a → ∃ a', X p a = X N a' ∧ Q N (zfor f p k x) a'
  | 0, p, x, a, h, hq => by
    have : p = N := by omega
    subst this
    exact ⟨a, rfl, hq⟩
  | k + 1, p, x, a, h, hq => by
    obtain ⟨a', h1, h2⟩ := hs p x a (by omega) hq
    obtain ⟨a'', h3, h4⟩ := zloopR X Q f N hs k (p + 1) (f p x) a' (by omega) h2
    exact ⟨a'', h1.trans h3, h4⟩
theorem fu_swap {α : Type} (c : Nat → α) (i j : Nat) (x y : α) (h : i ≠ j) : fu (fu c i x) j y = fu (fu c j y) i x := by
  funext k
  unfold fu
  by_cases h1 : k = i <;> by_cases h2 : k = j <;> simp [h1, h2]
  · omega
  · simp [h]
  · simp [Ne.symm h]
theorem zu_comm {α : Type} (I : Nat → Nat → α) (a a' k k' : Nat) (x y : α) (h : a ≠ a') : zu (zu I a k x) a' k' y = zu (zu I a' k' y) a k x := by
  funext b l
  unfold zu
  by_cases h1 : b = a <;> by_cases h2 : b = a'
  · omega
  · simp [h1, h]
  · simp [h2, Ne.symm h]
  · simp [h1, h2]
theorem WT.wedSet {p : Nat} {x : Int32} (hW : WT A b N S U) (hx : x = -1 ∨ ∃ q, q < N ∧ x = nI q) : WT (zu A (b + 9) p x) b N S U := by
  refine hW.row9 (fun j _ h => zu_far _ _ _ (by omega)) ?_
  intro q hq
  rw [zu_row]
  by_cases e : q = p
  · rw [if_pos e]
    exact hx
  · rw [if_neg e]
    exact hW.wed q hq
theorem WT.div {p : Nat} (hW : WT A b N S U) : WT (tDiv A b p) b N S U := by
  unfold tDiv
  split
  · exact hW
  · exact (hW.wedSet (Or.inl rfl)).wedSet (Or.inl rfl)
theorem v_unweds {p : Nat} (hW : WT A b N S U) (hR : RT A b (I 148) N S) (hp : p < N) (d : Nat) : ∃ c', zcall d 330 [.ref 143, .int (nI p)] (mk n m g I J) = some (none, mk n m g (zr I 148 c') J) ∧ RT (tDiv A b p) b c' N S ∧ ∀ j, 234 ≤ j → c' j = I 148 j := by
  have h12 := hW.h12
  rw [m_X12_unweds]
  unfold tDiv
  rcases hW.wed p hp with h | ⟨q, hq, h⟩
  · refine ⟨I 148, ?_, ?_, fun _ _ => rfl⟩
    · rw [zr_id]
      simp only [e_X12_unweds_0, e_X12_unweds_1, e_X12_unweds_4, e_X12_unweds_6, e_X12_unweds_7, e_X12_unweds_8, e_X12_unweds_9, e_X12_unweds_10, e_X12_unweds_11, e_X12_unweds_14, e_X12_unweds_15, e_X12_unweds_16, e_X12_unweds_19, e_X12_unweds_21, e_X12_unweds_22, e_X12_unweds_23, e_X12_unweds_24, e_X12_unweds_25, e_X12_unweds_26, e_X12_unweds_29, e_X12_unweds_31, e_X12_unweds_32, e_X12_unweds_33, e_X12_unweds_34, e_X12_unweds_35, cA_6, cA_12, cA_18, cA_30, cA_42, cA_54, cA_66, cA_78, cA_90, cA_102, cA_114, cA_126, cA_138, cA_210, cA_222, lc_0, lc_1, lc_2, lc_3, lc_4, lc_5, g_143_20, q_148, nI_neg (show 78 + p < 2 ^ 31 by omega), nI_clamp (show 78 + p < 2 ^ 31 by omega), k_148 (show 78 + p < 2530 by omega), l_148 (show 78 + p < 2530 by omega), hR.wed p hp, h, Option.bind_some, Option.isSome_some, Option.toList, List.cons_append, List.nil_append, zclr_i, zclr_r, zclr_n, zfit_i, zfit_l, and_self, if_true, if_false]
      rfl
    · rw [if_pos h]
      exact hR
  · have h1 : nI q ≠ -1 := nI_m1 (by omega)
    refine ⟨fu (fu (I 148) (78 + p) (-1)) (78 + q) (-1), ?_, ?_, fun j hj => by rw [fu_ne _ _ (by omega), fu_ne _ _ (by omega)]⟩
    · simp only [e_X12_unweds_0, e_X12_unweds_1, e_X12_unweds_4, e_X12_unweds_6, e_X12_unweds_7, e_X12_unweds_8, e_X12_unweds_9, e_X12_unweds_10, e_X12_unweds_11, e_X12_unweds_14, e_X12_unweds_15, e_X12_unweds_16, e_X12_unweds_19, e_X12_unweds_21, e_X12_unweds_22, e_X12_unweds_23, e_X12_unweds_24, e_X12_unweds_25, e_X12_unweds_26, e_X12_unweds_29, e_X12_unweds_31, e_X12_unweds_32, e_X12_unweds_33, e_X12_unweds_34, e_X12_unweds_35, cA_6, cA_12, cA_18, cA_30, cA_42, cA_54, cA_66, cA_78, cA_90, cA_102, cA_114, cA_126, cA_138, cA_210, cA_222, lc_0, lc_1, lc_2, lc_3, lc_4, lc_5, g_143_20, q_148, nI_neg (show 78 + p < 2 ^ 31 by omega), nI_clamp (show 78 + p < 2 ^ 31 by omega), k_148 (show 78 + p < 2530 by omega), l_148 (show 78 + p < 2530 by omega), nI_neg (show 78 + q < 2 ^ 31 by omega), nI_clamp (show 78 + q < 2 ^ 31 by omega), k_148 (show 78 + q < 2530 by omega), l_148 (show 78 + q < 2530 by omega), hR.wed p hp, h, if_pos (show (0 : Int32) ≤ nI q from nI_le (a := 0) (by omega) (by omega)), Option.bind_some, Option.isSome_some, Option.toList, List.cons_append, List.nil_append, zclr_i, zclr_r, zclr_n, zfit_i, zfit_l, and_self, if_true, if_false]
      simp only [zu_148, zr_same, zr_zr]
    · rw [h, if_neg h1, nI_clamp (by omega)]
      have := (hR.set9 (p := q) (x := -1) h12 hW.h6 (by omega)).set9 (p := p) (x := -1) h12 hW.h6 (by omega)
      by_cases e : p = q
      · subst e
        exact this
      · rw [fu_swap _ _ _ _ _ (by omega)]
        exact this
theorem WT.mono {V : Nat} (hW : WT A b N S U) (h : U ≤ V) (hV : V ≤ 9999) : WT A b N S V := by
  refine WT.intro hW.hN hV hW.h12 hW.hS hW.h6 ?_ hW.hM hW.hL hW.mis hW.worth ?_ ?_ ?_ hW.bears hW.coins hW.wed hW.one hW.two ?_ hW.dead hW.likes hW.like hW.hQ hW.who hW.want hW.uniq
  · obtain ⟨y, h1, h2, h3⟩ := hW.hY
    exact ⟨y, h1, by omega, h3⟩
  · intro s hs
    rcases hW.sold s hs with h0 | ⟨y, h1, h2, h3⟩
    · exact Or.inl h0
    · exact Or.inr ⟨y, h1, by omega, h3⟩
  · intro s hs
    obtain ⟨y, h1, h2, h3⟩ := hW.born s hs
    exact ⟨y, h1, by omega, h3⟩
  · intro s hs
    rcases hW.died s hs with h0 | ⟨y, h1, h2, h3⟩
    · exact Or.inl h0
    · exact Or.inr ⟨y, h1, by omega, h3⟩
  · intro s hs
    rcases hW.away s hs with h0 | ⟨y, h1, h2, h3⟩
    · exact Or.inl h0
    · exact Or.inr ⟨y, h1, by omega, h3⟩
theorem WT.year (hW : WT A b N S U) (hU : U + 1 ≤ 9999) : WT (zu A b 0 (A b 0 + 1)) b N S (U + 1) := by
  refine (hW.mono (Nat.le_succ U) hU).row0 (fun j _ h => zu_0o h) ?_ ?_ ?_ ?_ ?_ ?_
  · rw [zu_row, if_neg (by decide)]; exact hW.hN
  · rw [zu_row, if_neg (by decide)]; exact hW.hS
  · obtain ⟨y, h1, h2, h3⟩ := hW.hY
    exact ⟨y + 1, by omega, by omega, by rw [zu_row, if_pos rfl, h3, nI_1]⟩
  · rw [zu_row, if_neg (by decide)]; exact hW.hM
  · rw [zu_row, if_neg (by decide)]; exact hW.hL
  · rw [zu_row, if_neg (by decide)]; exact hW.mis
theorem WT.home {p : Nat} (hW : WT A b N S U) : WT (zu A (b + 11) p (-1)) b N S U := by
  refine hW.row11 (fun j _ h => zu_far _ _ _ (by omega)) ?_ ?_
  · intro q hq
    rw [zu_row]
    by_cases e : q = p
    · rw [if_pos e]
      exact Or.inl rfl
    · rw [if_neg e]
      exact hW.away q hq
  · intro q hq h
    rw [zu_row]
    by_cases e : q = p
    · rw [if_pos e]
    · rw [if_neg e]
      rw [zu_oo (i := 11) (j := 6) (by decide)] at h
      exact hW.dead q hq h
theorem WT.dying {p : Nat} (hW : WT A b N S U) : WT (zu (zu A (b + 6) p (A b 0)) (b + 11) p (-1)) b N S U := by
  rw [zu_comm _ _ _ _ _ _ _ (by omega)]
  refine (hW.home (p := p)).row6 (fun j _ h => zu_far _ _ _ (by omega)) ?_ ?_
  · intro q hq
    rw [zu_row]
    by_cases e : q = p
    · rw [if_pos e]
      exact Or.inr hW.hY
    · rw [if_neg e, zu_oo (i := 11) (j := 6) (by decide)]
      exact hW.died q hq
  · intro q hq h
    rw [zu_oo (i := 6) (j := 11) (by decide), zu_row]
    by_cases e : q = p
    · rw [if_pos e]
    · rw [if_neg e]
      rw [zu_row, if_neg e, zu_oo (i := 11) (j := 6) (by decide)] at h
      exact hW.dead q hq h
theorem WT.bury {p : Nat} (hW : WT A b N S U) : WT (tBury A b (qN A b) p) b N S U := by
  unfold tBury
  have hq : qN (zu (zu A (b + 6) p (A b 0)) (b + 11) p (-1)) b = qN A b := by rw [qN_zu (by omega), qN_zu (by omega)]
  have h := (hW.dying (p := p)).press (f := fun I k => decide (I (b + 15) k ≠ nI p)) (c' := fun e => decide (e.1 ≠ nI p)) (fun _ _ _ => rfl)
  rw [hq] at h
  exact h.div
theorem tDiv_N {p : Nat} : qN (tDiv A b p) b = qN A b := qN_far (tDiv_far (by omega))
theorem tDiv_row {p : Nat} (h : A (b + 9) = A' (b + 9)) : tDiv A b p (b + 9) = tDiv A' b p (b + 9) := by
  unfold tDiv
  rw [h]
  split
  · exact h
  · funext k
    simp only [zu_row, h]
theorem qPlace_case {x : Int32} {Q : Nat} (hQ : Q ≤ 12) : (qPlace A b x Q = -1 ∧ ∀ k, k < Q → A (b + 15) k ≠ x) ∨ ∃ k, k < Q ∧ qPlace A b x Q = nI k ∧ A (b + 15) k = x := by
  have : ∀ f k, k + f = Q → (zfind (fun k => decide (A (b + 15) k = x)) nI (-1) k f = -1 ∧ ∀ j, k ≤ j → j < Q → A (b + 15) j ≠ x) ∨ ∃ j, j < Q ∧ zfind (fun k => decide (A (b + 15) k = x)) nI (-1) k f = nI j ∧ A (b + 15) j = x := by
    intro f
    induction f with
    | zero => intro k hk; exact Or.inl ⟨rfl, fun j h1 h2 => by omega⟩
    | succ f ih =>
      intro k hk
      rw [zfind]
      by_cases h : A (b + 15) k = x
      · exact Or.inr ⟨k, by omega, by simp [h], h⟩
      · simp only [h, decide_false, Bool.false_eq_true, if_false]
        rcases ih (k + 1) (by omega) with ⟨h1, h2⟩ | h1
        · refine Or.inl ⟨h1, fun j h3 h4 => ?_⟩
          by_cases e : j = k
          · subst e; exact h
          · exact h2 j (by omega) h4
        · exact Or.inr h1
  rcases this Q 0 (by omega) with ⟨h1, h2⟩ | h
  · exact Or.inl ⟨h1, fun k hk => h2 k (by omega) hk⟩
  · exact Or.inr h
theorem v_dies {p : Nat} (hW : WT A b N S U) (hR : RT A b (I 148) N S) (hp : p < N) (d : Nat) : ∃ c', zcall (d + 1) 331 [.ref 143, .int (nI p)] (mk n m g I J) = some (none, mk n m g (zr I 148 c') J) ∧ RT (tBury A b (qN A b) p) b c' N S ∧ ∀ j, 234 ≤ j → c' j = I 148 j := by
  have h12 := hW.h12
  obtain ⟨y, hy1, hy2, hy3⟩ := hW.hY
  have hU := hW.hU
  have hym : nI y ≠ -1 := nI_m1 (by omega)
  have r1 : RT (zu (zu A (b + 6) p (A b 0)) (b + 11) p (-1)) b (fu (fu (I 148) (66 + p) (A b 0)) (114 + p) 0) N S := by
    have := (hR.set6 (p := p) (x := A b 0) h12 hW.h6 (by omega)).set11 (p := p) (x := -1) h12 hW.h6 (by omega)
    rw [m0_v (by rw [hy3]; exact hym)] at this
    exact this
  have w1 := hW.dying (p := p)
  have hq1 : qN (zu (zu A (b + 6) p (A b 0)) (b + 11) p (-1)) b = qN A b := by rw [qN_zu (by omega), qN_zu (by omega)]
  obtain ⟨c2, e2, r2, f2⟩ := v_unweds (n := n) (m := m) (g := g) (J := J) (I := zr I 148 (fu (fu (I 148) (66 + p) (A b 0)) (114 + p) 0)) w1 (by rw [zr_same]; exact r1) hp d
  rw [zr_zr, zr_same] at *
  have w2 := w1.div (p := p)
  have hq2 : qN (tDiv (zu (zu A (b + 6) p (A b 0)) (b + 11) p (-1)) b p) b = qN A b := by rw [tDiv_N, hq1]
  have hpl := v_placeOf (n := n) (m := m) (g := g) (J := J) (I := zr I 148 c2) (x := nI p) w2 (by rw [zr_same]; exact r2) d
  have hst : zcall (d + 1) 331 [.ref 143, .int (nI p)] (mk n m g I J) = zexec (d + 1) 331 30 [some (.ref 143), some (.int (nI p)), none] [] (mk n m g (zr I 148 c2) J) := by
    rw [m_X12_dies]
    simp only [e_X12_dies_0, e_X12_dies_1, e_X12_dies_4, e_X12_dies_6, e_X12_dies_7, e_X12_dies_8, e_X12_dies_9, e_X12_dies_12, e_X12_dies_13, e_X12_dies_14, e_X12_dies_15, e_X12_dies_16, e_X12_dies_19, e_X12_dies_21, e_X12_dies_22, e_X12_dies_23, e_X12_dies_24, e_X12_dies_25, e_X12_dies_26, e_X12_dies_27, cA_6, cA_12, cA_18, cA_30, cA_42, cA_54, cA_66, cA_78, cA_90, cA_102, cA_114, cA_126, cA_138, cA_210, cA_222, lc_0, lc_1, lc_2, lc_3, lc_4, lc_5, g_143_20, q_148, nI_neg (show 66 + p < 2 ^ 31 by omega), nI_clamp (show 66 + p < 2 ^ 31 by omega), k_148 (show 66 + p < 2530 by omega), l_148 (show 66 + p < 2530 by omega), nI_neg (show 114 + p < 2 ^ 31 by omega), nI_clamp (show 114 + p < 2 ^ 31 by omega), k_148 (show 114 + p < 2530 by omega), l_148 (show 114 + p < 2530 by omega), c_143, hR.n2, Option.bind_some, Option.isSome_some, Option.toList, List.cons_append, List.nil_append, zclr_i, zclr_r, zclr_n, zfit_i, zfit_l, and_self, if_true, if_false]
    simp only [zu_148, zr_same, zr_zr, e2]
    simp only [Option.bind_some, Option.isSome_some, Option.toList, List.cons_append, List.nil_append, zclr_i, zclr_r, zclr_n, zfit_i, zfit_l, and_self, if_true, if_false]
  rw [hst]
  rw [hq2] at hpl
  have hrows : ∀ (f : (Nat → Nat → Int32) → Nat → Bool), ∀ j, j < 17 → j ≠ 14 → j ≠ 15 → j ≠ 16 → tDiv (qPress f b (qN A b) (zu (zu A (b + 6) p (A b 0)) (b + 11) p (-1))) b p (b + j) = tDiv (zu (zu A (b + 6) p (A b 0)) (b + 11) p (-1)) b p (b + j) := by
    intro f j _ h14 h15 h16
    by_cases h9 : j = 9
    · subst h9
      exact tDiv_row (press_row (by decide) (by decide) (by decide))
    · rw [tDiv_far (by omega), tDiv_far (by omega), press_row h14 h15 h16]
  have hqq : ∀ K, qL (tDiv (zu (zu A (b + 6) p (A b 0)) (b + 11) p (-1)) b p) b K = qL A b K := by
    intro K
    refine qL_eq (fun k _ => ?_)
    rw [tDiv_far (by omega), tDiv_far (by omega), zu_oo (i := 11) (j := 15) (by decide), zu_oo (i := 6) (j := 15) (by decide), zu_oo (i := 11) (j := 16) (by decide), zu_oo (i := 6) (j := 16) (by decide)]
    exact ⟨rfl, rfl⟩
  have hqa : ∀ K, qL (zu (zu A (b + 6) p (A b 0)) (b + 11) p (-1)) b K = qL A b K := by
    intro K
    refine qL_eq (fun k _ => ?_)
    rw [zu_oo (i := 11) (j := 15) (by decide), zu_oo (i := 6) (j := 15) (by decide), zu_oo (i := 11) (j := 16) (by decide), zu_oo (i := 6) (j := 16) (by decide)]
    exact ⟨rfl, rfl⟩
  have hpn := press_N (A := zu (zu A (b + 6) p (A b 0)) (b + 11) p (-1)) (b := b) (f := fun I j => decide (I (b + 15) j ≠ nI p)) (c' := fun a => decide (a.1 ≠ nI p)) (fun _ _ _ => rfl) (by rw [hq1]; exact hW.hQ.2)
  rw [hq1, hqa] at hpn
  have hpl2 : ∀ K, qL (tDiv (qPress (fun I j => decide (I (b + 15) j ≠ nI p)) b (qN A b) (zu (zu A (b + 6) p (A b 0)) (b + 11) p (-1))) b p) b K = qL (qPress (fun I j => decide (I (b + 15) j ≠ nI p)) b (qN A b) (zu (zu A (b + 6) p (A b 0)) (b + 11) p (-1))) b K := by
    intro K
    refine qL_eq (fun k _ => ?_)
    rw [tDiv_far (by omega), tDiv_far (by omega)]
    exact ⟨rfl, rfl⟩
  have hp14 : tDiv (qPress (fun I j => decide (I (b + 15) j ≠ nI p)) b (qN A b) (zu (zu A (b + 6) p (A b 0)) (b + 11) p (-1))) b p (b + 14) = qPress (fun I j => decide (I (b + 15) j ≠ nI p)) b (qN A b) (zu (zu A (b + 6) p (A b 0)) (b + 11) p (-1)) (b + 14) := tDiv_far (by omega)
  have w14 : tDiv (zu (zu A (b + 6) p (A b 0)) (b + 11) p (-1)) b p (b + 14) 2 = nI (qN A b) := by
    rw [tDiv_far (by omega), zu_oo (i := 11) (j := 14) (by decide), zu_oo (i := 6) (j := 14) (by decide)]
    exact hW.hQ.1
  have h15 : tDiv (zu (zu A (b + 6) p (A b 0)) (b + 11) p (-1)) b p (b + 15) = A (b + 15) := by rw [tDiv_far (by omega), zu_oo (i := 11) (j := 15) (by decide), zu_oo (i := 6) (j := 15) (by decide)]
  rcases qPlace_case (A := tDiv (zu (zu A (b + 6) p (A b 0)) (b + 11) p (-1)) b p) (b := b) (x := nI p) hW.hQ.2 with ⟨e, hno⟩ | ⟨k, hk, e, hk2⟩
  · rw [e] at hpl
    have hfil : (qL A b (qN A b)).filter (fun a => decide (a.1 ≠ nI p)) = qL A b (qN A b) := List.filter_eq_self.mpr (fun a ha => by
      obtain ⟨k, hk, rfl⟩ := qL_mem.mp ha
      have := hno k hk
      rw [h15] at this
      simpa using this)
    rw [hfil, qL_len] at hpn
    refine ⟨c2, ?_, ?_, ?_⟩
    · simp only [e_X12_dies_30, e_X12_dies_31, e_X12_dies_32, e_X12_dies_35, e_X12_dies_36, e_X12_dies_37, e_X12_dies_40, e_X12_dies_41, e_X12_dies_42, e_X12_dies_45, c_143, hpl, Option.bind_some, Option.isSome_some, Option.toList, List.cons_append, List.nil_append, zclr_i, zclr_r, zclr_n, zfit_i, zfit_l, and_self, if_true, if_false]
      rfl
    · unfold tBury
      refine r2.view w2 (hrows _) ?_ ?_
      · rw [hp14, hpn.2.1, w14]
      · rw [hq2, hpl2, hpn.2.2, hqq]
    · intro j hj
      rw [f2 j hj, fu_ne _ _ (by omega), fu_ne _ _ (by omega)]
  · rw [e] at hpl
    have r3 := RT.drop r2 w2 (by rw [hq2]; exact hk) hk2
    have hdr := v_drops (n := n) (m := m) (g := g) (J := J) (I := zr I 148 c2) (k := k) (Q := qN A b) (by rw [zr_same, r2.n5, w14]) hW.hQ.2 hk d
    rw [zr_zr, zr_same] at hdr
    rw [hq2] at r3
    refine ⟨cDrop c2 k (qN A b), ?_, ?_, ?_⟩
    · simp only [e_X12_dies_30, e_X12_dies_31, e_X12_dies_32, e_X12_dies_35, e_X12_dies_36, e_X12_dies_37, e_X12_dies_40, e_X12_dies_41, e_X12_dies_42, e_X12_dies_45, c_143, hpl, if_neg (show ¬ nI k < 0 from nI_pos (by have := hW.hQ.2; omega)), hdr, Option.bind_some, Option.isSome_some, Option.toList, List.cons_append, List.nil_append, zclr_i, zclr_r, zclr_n, zfit_i, zfit_l, and_self, if_true, if_false]
    · have w3 := w2.press (f := fun I j => decide (I (b + 15) j ≠ nI p)) (c' := fun a => decide (a.1 ≠ nI p)) (fun _ _ _ => rfl)
      have hpn2 := press_N (A := tDiv (zu (zu A (b + 6) p (A b 0)) (b + 11) p (-1)) b p) (b := b) (f := fun I j => decide (I (b + 15) j ≠ nI p)) (c' := fun a => decide (a.1 ≠ nI p)) (fun _ _ _ => rfl) (by rw [hq2]; exact hW.hQ.2)
      rw [hq2] at w3
      rw [hq2, hqq] at hpn2
      unfold tBury
      refine r3.view w3 (fun j h0 h14 h15 h16 => ?_) ?_ ?_
      · rw [hrows _ j h0 h14 h15 h16, press_row h14 h15 h16]
      · rw [hp14, hpn.2.1, hpn2.2.1]
      · rw [hpn2.1, hpl2, hpn.2.2, hpn2.2.2]
    · intro j hj
      rw [cDrop_far hW.hQ.2 (by omega) (Or.inr hj), f2 j hj, fu_ne _ _ (by omega), fu_ne _ _ (by omega)]
end DI
