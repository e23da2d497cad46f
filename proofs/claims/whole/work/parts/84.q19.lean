/-! CALLS: elders -/
section QU
variable {n m : Nat} {g : Nat → zC} {I A : Nat → Nat → Int32} {J : Nat → Nat → Int64} {N S U b : Nat}
/-- what a set is on the way: it holds f, and nothing but elders of p -/
def eOk (A : Nat → Nat → Int32) (b N p : Nat) (f : Nat → Bool) (s : Int32) (P : (Nat → Bool) → Prop) : Prop := ∃ f', isS s f' ∧ (∀ r, f r = true → f' r = true) ∧ (∀ r, f' r = true → eD A b N p 11 r = true) ∧ P f'
theorem le_inner {p q k : Nat} {f : Nat → Bool} {s : Int32} (hW : WT A b N S U) (hR : RT A b (I 148) N S) (hp : p < N) (hq : q < N) (P : (Nat → Bool) → Prop) (hP : ∀ f' : Nat → Bool, P f' → P (fun r => f' r || decide (q = r))) (hs : eOk A b N p f s P) (d : Nat) : ∃ s', eOk A b N p f s' (fun f' => P f' ∧ ∀ e, e < N → (e = p ∨ f e = true) → kChild A b (nI q) e = true → f' q = true) ∧ zexec (d + 1) 383 51 [some (.ref 143), some (.int (nI p)), some (.int s), some (.int (nI k)), some (.int (nI q)), some (.int (nI 0))] [] (mk n m g I J) = zexec (d + 1) 383 51 [some (.ref 143), some (.int (nI p)), some (.int s'), some (.int (nI k)), some (.int (nI q)), some (.int (nI N))] [] (mk n m g I J) := by
  have h12 := hW.h12
  have hl := zloopR (fun e (a : Int32) => zexec (d + 1) 383 51 [some (.ref 143), some (.int (nI p)), some (.int a), some (.int (nI k)), some (.int (nI q)), some (.int (nI e))] [] (mk n m g I J)) (fun j (_ : Unit) a => eOk A b N p f a (fun f' => P f' ∧ ∀ e, e < j → (e = p ∨ f e = true) → kChild A b (nI q) e = true → f' q = true)) (fun _ u => u) N ?_ N 0 () s (by omega) (by
    obtain ⟨f', t1, t2, t3, t4⟩ := hs
    exact ⟨f', t1, t2, t3, t4, fun e he => by omega⟩)
  · obtain ⟨s', e1, e2⟩ := hl
    exact ⟨s', e2, e1⟩
  · rintro j _ a hj ⟨f', t1, t2, t3, t4, t5⟩
    have eq1 : nI j = nI p ↔ j = p := nI_eq (by omega) (by omega)
    refine ⟨if ((decide (j = p) || f' j) && kChild A b (nI q) j) = true then a ||| bt q else a, ?_, ?_⟩
    · rw [e_X12_elders_51]
      simp only [e_X12_elders_53, e_X12_elders_54, e_X12_elders_57, e_X12_elders_58, e_X12_elders_59, e_X12_elders_62, e_X12_elders_64, e_X12_elders_65, e_X12_elders_68, e_X12_elders_69, e_X12_elders_71, e_X12_elders_74, e_X12_elders_77, e_X12_elders_78, e_X12_elders_80, e_X12_elders_82, e_X12_elders_85, e_X12_elders_88, e_X12_elders_89, e_X12_elders_90, e_X12_elders_92, e_X12_elders_93, e_X12_elders_94, e_X12_elders_95, e_X12_elders_98, cA_6, cA_12, cA_18, cA_30, cA_42, cA_54, cA_66, cA_78, cA_90, cA_102, cA_114, cA_126, cA_138, cA_210, cA_222, lc_0, lc_1, lc_2, lc_3, lc_4, lc_5, g_143_20, q_148, c_143, hW.c1 hR, if_neg (nI_ge hj (by omega : N < 2 ^ 31)), eq1, v_hasS t1 (show j < 12 by omega), v_isChildOf hW hR hj, nI_1, Option.bind_some, Option.isSome_some, Option.toList, List.cons_append, List.nil_append, zclr_i, zclr_r, zclr_n, zfit_i, zfit_l, and_self, if_true, if_false]
      by_cases h1 : j = p
      · cases kChild A b (nI q) j <;> simp [h1, bI, bt]
      · cases f' j <;> cases kChild A b (nI q) j <;> simp [h1, bI, bt]
    · cases hc : ((decide (j = p) || f' j) && kChild A b (nI q) j)
      · simp only [Bool.false_eq_true, if_false]
        refine ⟨f', t1, t2, t3, t4, fun e he h1 h2 => ?_⟩
        by_cases e2 : e = j
        · subst e2
          have : ((decide (e = p) || f' e) && kChild A b (nI q) e) = true := by
            rw [h2, Bool.and_true, Bool.or_eq_true, decide_eq_true_eq]
            rcases h1 with h1 | h1
            · exact Or.inl h1
            · exact Or.inr (t2 e h1)
          rw [hc] at this
          exact absurd this (by decide)
        · exact t5 e (by omega) h1 h2
      · simp only [if_true]
        simp only [Bool.and_eq_true, Bool.or_eq_true, decide_eq_true_eq] at hc
        refine ⟨_, isS_or t1 (isS_bt (show q < 12 by omega)), fun r hr => by simp [t2 r hr], fun r hr => ?_, hP f' t4, fun e he h1 h2 => by simp⟩
        simp only [Bool.or_eq_true, decide_eq_true_eq] at hr
        rcases hr with hr | rfl
        · exact t3 r hr
        · rcases hc.1 with h1 | h1
          · subst h1
            refine eD_0 ?_
            simp only [Bool.and_eq_true, decide_eq_true_eq]
            exact ⟨hq, hc.2⟩
          · exact eD_step h12 hj hq (t3 j h1) hc.2
theorem le_round {p k : Nat} {f : Nat → Bool} {s : Int32} {y z : Option Int32} (hW : WT A b N S U) (hR : RT A b (I 148) N S) (hp : p < N) (hs : isS s f) (hf : ∀ r, f r = true → eD A b N p 11 r = true) (d : Nat) : ∃ s' f', isS s' f' ∧ (∀ r, f r = true → f' r = true) ∧ (∀ r, f' r = true → eD A b N p 11 r = true) ∧ (∀ r e, r < N → e < N → (e = p ∨ f e = true) → kChild A b (nI r) e = true → f' r = true) ∧ ∃ y' z' : Option Int32, zexec (d + 1) 383 34 [some (.ref 143), some (.int (nI p)), some (.int s), some (.int (nI k)), y.map Value.int, z.map Value.int] [] (mk n m g I J) = zexec (d + 1) 383 28 [some (.ref 143), some (.int (nI p)), some (.int s'), some (.int (nI (k + 1))), y'.map Value.int, z'.map Value.int] [] (mk n m g I J) := by
  have h12 := hW.h12
  have hl := zloopR (fun i (a : Int32 × Option Int32) => zexec (d + 1) 383 37 [some (.ref 143), some (.int (nI p)), some (.int a.1), some (.int (nI k)), some (.int (nI i)), a.2.map Value.int] [] (mk n m g I J)) (fun i (_ : Unit) a => eOk A b N p f a.1 (fun f' => ∀ r, r < i → ∀ e, e < N → (e = p ∨ f e = true) → kChild A b (nI r) e = true → f' r = true)) (fun _ u => u) N ?_ N 0 () (s, z) (by omega) ⟨f, hs, fun _ h => h, hf, fun r hr => by omega⟩
  · obtain ⟨⟨s', z'⟩, e1, f', t1, t2, t3, t4⟩ := hl
    dsimp only at e1 t1
    refine ⟨s', f', t1, t2, t3, fun r e hr he => t4 r hr e he, some (nI N), z', ?_⟩
    refine Eq.trans ?_ (e1.trans ?_)
    · simp only [e_X12_elders_34, e_X12_elders_35, zclr_map, Option.bind_some, Option.isSome_some, Option.toList, List.cons_append, List.nil_append, zclr_i, zclr_r, zclr_n, zfit_i, zfit_l, and_self, if_true, if_false]
      rfl
    · rw [e_X12_elders_37]
      simp only [e_X12_elders_39, e_X12_elders_40, e_X12_elders_43, e_X12_elders_44, e_X12_elders_45, e_X12_elders_48, e_X12_elders_49, e_X12_elders_107, e_X12_elders_110, cA_6, cA_12, cA_18, cA_30, cA_42, cA_54, cA_66, cA_78, cA_90, cA_102, cA_114, cA_126, cA_138, cA_210, cA_222, lc_0, lc_1, lc_2, lc_3, lc_4, lc_5, g_143_20, q_148, hW.c1 hR, if_pos (nI_le (Nat.le_refl N) (by omega : N < 2 ^ 31)), nI_1, zclr_map, Option.bind_some, Option.isSome_some, Option.toList, List.cons_append, List.nil_append, zclr_i, zclr_r, zclr_n, zfit_i, zfit_l, and_self, if_true, if_false]
      rfl
  · rintro i _ ⟨a, z⟩ hi ha
    dsimp only at ha ⊢
    obtain ⟨s', hs', e1⟩ := le_inner (n := n) (m := m) (g := g) (J := J) (k := k) hW hR hp hi (fun f' => ∀ r, r < i → ∀ e, e < N → (e = p ∨ f e = true) → kChild A b (nI r) e = true → f' r = true) (fun f' h r hr e he h1 h2 => by simp [h r hr e he h1 h2]) ha d
    obtain ⟨f', t1, t2, t3, t4, t5⟩ := hs'
    refine ⟨(s', some (nI N)), ?_, f', t1, t2, t3, fun r hr e he h1 h2 => ?_⟩
    · rw [e_X12_elders_37]
      simp only [e_X12_elders_39, e_X12_elders_40, e_X12_elders_43, e_X12_elders_44, e_X12_elders_45, e_X12_elders_48, e_X12_elders_49, cA_6, cA_12, cA_18, cA_30, cA_42, cA_54, cA_66, cA_78, cA_90, cA_102, cA_114, cA_126, cA_138, cA_210, cA_222, lc_0, lc_1, lc_2, lc_3, lc_4, lc_5, g_143_20, q_148, hW.c1 hR, if_neg (nI_ge hi (by omega : N < 2 ^ 31)), zclr_map, Option.bind_some, Option.isSome_some, Option.toList, List.cons_append, List.nil_append, zclr_i, zclr_r, zclr_n, zfit_i, zfit_l, and_self, if_true, if_false]
      refine e1.trans ?_
      rw [e_X12_elders_51]
      simp only [e_X12_elders_53, e_X12_elders_54, e_X12_elders_57, e_X12_elders_58, e_X12_elders_59, e_X12_elders_101, e_X12_elders_104, cA_6, cA_12, cA_18, cA_30, cA_42, cA_54, cA_66, cA_78, cA_90, cA_102, cA_114, cA_126, cA_138, cA_210, cA_222, lc_0, lc_1, lc_2, lc_3, lc_4, lc_5, g_143_20, q_148, hW.c1 hR, if_pos (nI_le (Nat.le_refl N) (by omega : N < 2 ^ 31)), nI_1, Option.bind_some, Option.isSome_some, Option.toList, List.cons_append, List.nil_append, zclr_i, zclr_r, zclr_n, zfit_i, zfit_l, and_self, if_true, if_false]
      rfl
    · by_cases e2 : r = i
      · subst e2
        exact t5 e he h1 h2
      · exact t4 r (by omega) e he h1 h2
theorem le_run {p : Nat} (hW : WT A b N S U) (hR : RT A b (I 148) N S) (hp : p < N) (d : Nat) : ∃ s, isS s (fun r => decide (r < N) && eD A b N p 11 r) ∧ zexec (d + 1) 383 28 [some (.ref 143), some (.int (nI p)), some (.int 0), some (.int (nI 0)), none, none] [] (mk n m g I J) = some (some (.int s), mk n m g I J) := by
  have h12 := hW.h12
  have hl := zloopR (fun k (a : Int32 × Option Int32 × Option Int32) => zexec (d + 1) 383 28 [some (.ref 143), some (.int (nI p)), some (.int a.1), some (.int (nI k)), a.2.1.map Value.int, a.2.2.map Value.int] [] (mk n m g I J)) (fun k (_ : Unit) a => ∃ f, isS a.1 f ∧ (∀ r, f r = true → eD A b N p 11 r = true) ∧ (0 < k → ∀ r, eD A b N p (k - 1) r = true → r < N → f r = true)) (fun _ u => u) 12 ?_ 12 0 () (0, none, none) (by omega) ⟨_, isS_0, fun r h => by simp at h, fun h => by omega⟩
  · obtain ⟨⟨s, y, z⟩, e1, f, t1, t2, t3⟩ := hl
    dsimp only at e1 t1
    refine ⟨s, isS_congr t1 (fun r hr => ?_) (fun r hr => by simp [show ¬ r < N by omega]), ?_⟩
    · cases e : f r
      · by_cases h1 : r < N
        · cases e2 : eD A b N p 11 r
          · simp
          · have := t3 (by omega) r e2 h1
            rw [e] at this
            exact absurd this (by decide)
        · simp [h1]
      · have h2 := t2 r e
        rw [h2, Bool.and_true]
        have hlt : ∀ k r, eD A b N p k r = true → r < N := by
          intro k
          induction k with
          | zero =>
            intro r h
            simp only [eD, iter, Bool.and_eq_true, decide_eq_true_eq] at h
            exact h.1
          | succ k ih =>
            intro r h
            have h : eG A b N (eD A b N p k) r = true := h
            unfold eG at h
            simp only [Bool.or_eq_true, Bool.and_eq_true, decide_eq_true_eq] at h
            rcases h with h | h
            · exact ih r h
            · exact h.1
        simp [hlt 11 r h2]
    · refine e1.trans ?_
      rw [e_X12_elders_28]
      simp only [e_X12_elders_29, e_X12_elders_31, e_X12_elders_113, e_X12_elders_114, if_pos (show (12 : Int32) ≤ nI 12 by decide), Option.bind_some, Option.isSome_some, Option.toList, List.cons_append, List.nil_append, zclr_i, zclr_r, zclr_n, zfit_i, zfit_l, and_self, if_true, if_false]
  · rintro k _ ⟨s, y, z⟩ hk ⟨f, t1, t2, t3⟩
    dsimp only at t1 ⊢
    obtain ⟨s', f', u1, u2, u3, u4, y', z', e1⟩ := le_round (n := n) (m := m) (g := g) (J := J) (k := k) (y := y) (z := z) hW hR hp t1 t2 d
    refine ⟨(s', y', z'), ?_, f', u1, u3, fun _ r hr hrN => ?_⟩
    · rw [e_X12_elders_28]
      simp only [e_X12_elders_29, e_X12_elders_31, if_neg (show ¬ (12 : Int32) ≤ nI k from nI_ge (b := 12) hk (by decide)), Option.bind_some, Option.isSome_some, Option.toList, List.cons_append, List.nil_append, zclr_i, zclr_r, zclr_n, zfit_i, zfit_l, and_self, if_true, if_false]
      exact e1
    · rw [Nat.add_sub_cancel] at hr
      cases k with
      | zero =>
        simp only [eD, iter, Bool.and_eq_true, decide_eq_true_eq] at hr
        exact u4 r p hr.1 hp (Or.inl rfl) hr.2
      | succ k =>
        have hr : eG A b N (eD A b N p k) r = true := hr
        unfold eG at hr
        simp only [Bool.or_eq_true, Bool.and_eq_true, decide_eq_true_eq, List.any_eq_true, List.mem_range] at hr
        have t3 := t3 (by omega)
        rw [Nat.add_sub_cancel] at t3
        rcases hr with hr | ⟨_, e, he, h2, h3⟩
        · exact u2 r (t3 r hr hrN)
        · exact u4 r e hrN he (Or.inr (t3 e h2 he)) h3
theorem q_elders {x : Int32} (h : Inv I J N S) (d : Nat) : Eqv (d + 30) 202 383 [.int x] n m g I J := by
  have hW := h.W
  have h12 := hW.h12
  rcases p_cases x N with ⟨p, hp, rfl⟩ | hx
  · have hR1 : RT I 16 ((zu (zu (zu I 3 0 0) 143 1 0) 143 0 0) 148) N S := h.R
    obtain ⟨s, s1, e1⟩ := le_run (n := n) (m := m) (g := g) (J := J) hW hR1 hp (d + 29)
    have he : s = kEld I 16 p N := isS_eq s1 (isS_elders hW hp) (fun _ _ => rfl)
    rw [he] at e1
    refine ⟨.int (kEld I 16 p N), zu I 3 0 0, J, st 0 I, J, N, S, ?_, ?_, h.stI⟩
    · rw [m_X11_elders]
      simp only [e_X11_elders_0, e_X11_elders_1, e_X11_elders_4, e_X11_elders_5, e_X11_elders_8, e_X11_elders_11, e_X11_elders_12, e_X11_elders_13, e_X11_elders_16, e_X11_elders_17, e_X11_elders_18, e_X11_elders_19, e_X11_elders_22, e_X11_elders_23, e_X11_elders_26, e_X11_elders_29, c_3, c_T0 t16, g_3_7, t_hasP_yes t16 hW.hN h12 hp, k_eldersOf t16 hW.hN h12 (show p < 12 by omega), n_answer, Option.bind_some, Option.isSome_some, Option.toList, List.cons_append, List.nil_append, zclr_i, zclr_r, zclr_n, zfit_i, zfit_l, and_self, if_true, if_false] <;> first | rfl | simp
    · rw [m_X12_elders]
      simp only [e_X12_elders_0, e_X12_elders_1, e_X12_elders_2, e_X12_elders_5, e_X12_elders_6, e_X12_elders_7, e_X12_elders_10, e_X12_elders_11, e_X12_elders_12, e_X12_elders_15, e_X12_elders_18, e_X12_elders_19, e_X12_elders_20, e_X12_elders_23, e_X12_elders_24, e_X12_elders_25, e_X12_elders_26, e_X12_elders_27, c_143, g_143_0, g_143_1, p_143_0, p_143_1, v_isP_yes hW hR1 hp, Option.bind_some, Option.isSome_some, Option.toList, List.cons_append, List.nil_append, zclr_i, zclr_r, zclr_n, zfit_i, zfit_l, and_self, if_true, if_false]
      exact e1
  · refine ⟨.int (-1), zu I 3 0 2, J, st 2 I, J, N, S, ?_, ?_, h.stI⟩
    · rw [m_X11_elders]
      simp only [e_X11_elders_0, e_X11_elders_1, e_X11_elders_4, e_X11_elders_5, e_X11_elders_8, e_X11_elders_11, e_X11_elders_12, e_X11_elders_13, e_X11_elders_16, e_X11_elders_17, e_X11_elders_18, e_X11_elders_19, e_X11_elders_22, e_X11_elders_23, e_X11_elders_26, e_X11_elders_29, c_3, c_T0 t16, g_3_7, t_hasP_no t16 hW.hN h12 hx, n_refuse, Option.bind_some, Option.isSome_some, Option.toList, List.cons_append, List.nil_append, zclr_i, zclr_r, zclr_n, zfit_i, zfit_l, and_self, if_true, if_false]
    · have hR1 : RT I 16 ((zu (zu (zu I 3 0 2) 143 1 0) 143 0 0) 148) N S := h.R
      rw [m_X12_elders]
      simp only [e_X12_elders_0, e_X12_elders_1, e_X12_elders_2, e_X12_elders_5, e_X12_elders_6, e_X12_elders_7, e_X12_elders_10, e_X12_elders_11, e_X12_elders_12, e_X12_elders_15, e_X12_elders_18, e_X12_elders_19, e_X12_elders_20, e_X12_elders_23, e_X12_elders_24, e_X12_elders_25, e_X12_elders_26, e_X12_elders_27, c_143, g_143_0, g_143_1, p_143_0, p_143_1, v_isP_no hW hR1 hx, v_refuse, st_eq, Option.bind_some, Option.isSome_some, Option.toList, List.cons_append, List.nil_append, zclr_i, zclr_r, zclr_n, zfit_i, zfit_l, and_self, if_true, if_false]
end QU
