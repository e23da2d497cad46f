/-! CALLS: kin, elders -/
section QT
variable {n m : Nat} {g : Nat → zC} {I A : Nat → Nat → Int32} {J : Nat → Nat → Int64} {N S U b : Nat}
theorem q_kin {x y : Int32} (h : Inv I J N S) (d : Nat) : Eqv (d + 30) 200 381 [.int x, .int y] n m g I J := by
  have hW := h.W
  have h12 := hW.h12
  rcases p_cases x N with ⟨p, hp, rfl⟩ | hx
  · rcases p_cases y N with ⟨q, hq, rfl⟩ | hx
    · have hv : ∀ w : Int32, RT I 16 ((zu (zu (zu I 3 0 w) 143 1 0) 143 0 0) 148) N S := fun w => h.R
      have hk := steps_first hW hp hq
      have hf : kFirst I 16 N p q 12 = oI (zfind (fun k => iter (kG I 16 N) (fun r => decide (p = r)) k q) some none 0 12) := zfind_app oI (fun k => iter (kG I 16 N) (fun r => decide (p = r)) k q) some none 12 0
      have hcl := k_steps (n := n) (m := m) (g := g) (I := I) (J := J) (x := nI p) (y := nI q) t16 hW.hN h12 (d + 26)
      rw [hk, hf] at hcl
      have hrun := fun w : Int32 => lk_run (n := n) (m := m) (g := g) (J := J) hW (hv w) hp hq (d + 29) 12 0 (bt p) none none none (by omega) (isS_bt (show p < 12 by omega))
      have hst : ∀ w : Int32, zcall (d + 30) 381 [.ref 143, .int (nI p), .int (nI q)] (mk n m g (zu I 3 0 w) J) = zexec (d + 30) 381 39 [some (.ref 143), some (.int (nI p)), some (.int (nI q)), some (.int (bt p)), some (.int (nI 0)), none, none, none] [] (mk n m g (zu (zu (zu I 3 0 w) 143 1 0) 143 0 0) J) := by
        intro w
        rw [m_X12_kin]
        simp only [e_X12_kin_0, e_X12_kin_1, e_X12_kin_2, e_X12_kin_5, e_X12_kin_6, e_X12_kin_7, e_X12_kin_10, e_X12_kin_11, e_X12_kin_12, e_X12_kin_15, e_X12_kin_18, e_X12_kin_19, e_X12_kin_20, e_X12_kin_23, e_X12_kin_26, e_X12_kin_27, e_X12_kin_28, e_X12_kin_31, e_X12_kin_32, e_X12_kin_33, e_X12_kin_34, e_X12_kin_35, e_X12_kin_36, e_X12_kin_37, c_143, g_143_0, g_143_1, p_143_0, p_143_1, v_isP_yes hW (hv w) hp, v_isP_yes hW (hv w) hq, Option.bind_some, Option.isSome_some, Option.toList, List.cons_append, List.nil_append, zclr_i, zclr_r, zclr_n, zfit_i, zfit_l, and_self, if_true, if_false]
        rfl
      cases hz : zfind (fun k => iter (kG I 16 N) (fun r => decide (p = r)) k q) some none 0 12 with
      | none =>
        rw [hz] at hcl hrun
        refine ⟨.int (-1), zu I 3 0 8, J, st 8 I, J, N, S, ?_, ?_, h.stI⟩
        · rw [m_X11_kin]
          simp only [e_X11_kin_0, e_X11_kin_1, e_X11_kin_2, e_X11_kin_3, e_X11_kin_6, e_X11_kin_9, e_X11_kin_10, e_X11_kin_11, e_X11_kin_14, e_X11_kin_15, e_X11_kin_16, e_X11_kin_17, e_X11_kin_20, e_X11_kin_21, e_X11_kin_22, e_X11_kin_25, e_X11_kin_28, c_3, g_3_7, n_are_yes hW hp hq, hcl, n_answerIfAny, oI, Option.bind_some, Option.isSome_some, Option.toList, List.cons_append, List.nil_append, zclr_i, zclr_r, zclr_n, zfit_i, zfit_l, and_self, if_true, if_false]
          rfl
        · refine (hst 8).trans ((hrun 8).trans ?_)
          dsimp only
          rw [st_eq]
      | some j =>
        have hj := (zfind_some _ _ hz).2.1
        rw [hz] at hcl hrun
        refine ⟨.int (nI j), zu I 3 0 0, J, st 0 I, J, N, S, ?_, ?_, h.stI⟩
        · rw [m_X11_kin]
          simp only [e_X11_kin_0, e_X11_kin_1, e_X11_kin_2, e_X11_kin_3, e_X11_kin_6, e_X11_kin_9, e_X11_kin_10, e_X11_kin_11, e_X11_kin_14, e_X11_kin_15, e_X11_kin_16, e_X11_kin_17, e_X11_kin_20, e_X11_kin_21, e_X11_kin_22, e_X11_kin_25, e_X11_kin_28, c_3, g_3_7, n_are_yes hW hp hq, hcl, n_answerIfAny, oI, if_neg (nI_m1 (show j < 2 ^ 31 by omega)), Option.bind_some, Option.isSome_some, Option.toList, List.cons_append, List.nil_append, zclr_i, zclr_r, zclr_n, zfit_i, zfit_l, and_self, if_true, if_false]
          rfl
        · exact (hst 0).trans (hrun 0)
    · refine ⟨.int (-1), zu I 3 0 2, J, st 2 I, J, N, S, ?_, ?_, h.stI⟩
      · rw [m_X11_kin]
        simp only [e_X11_kin_0, e_X11_kin_1, e_X11_kin_2, e_X11_kin_3, e_X11_kin_6, e_X11_kin_9, e_X11_kin_10, e_X11_kin_11, e_X11_kin_14, e_X11_kin_15, e_X11_kin_16, e_X11_kin_17, e_X11_kin_20, e_X11_kin_21, e_X11_kin_22, e_X11_kin_25, e_X11_kin_28, c_3, g_3_7, n_are_no2 hW hp hx, n_refuse, Option.bind_some, Option.isSome_some, Option.toList, List.cons_append, List.nil_append, zclr_i, zclr_r, zclr_n, zfit_i, zfit_l, and_self, if_true, if_false]
      · have hR1 : RT I 16 ((zu (zu (zu I 3 0 2) 143 1 0) 143 0 0) 148) N S := h.R
        rw [m_X12_kin]
        simp only [e_X12_kin_0, e_X12_kin_1, e_X12_kin_2, e_X12_kin_5, e_X12_kin_6, e_X12_kin_7, e_X12_kin_10, e_X12_kin_11, e_X12_kin_12, e_X12_kin_15, e_X12_kin_18, e_X12_kin_19, e_X12_kin_20, e_X12_kin_23, e_X12_kin_26, e_X12_kin_27, e_X12_kin_28, e_X12_kin_31, e_X12_kin_32, e_X12_kin_33, e_X12_kin_34, e_X12_kin_35, e_X12_kin_36, e_X12_kin_37, c_143, g_143_0, g_143_1, p_143_0, p_143_1, v_isP_yes hW hR1 hp, v_isP_no hW hR1 hx, v_refuse, st_eq, Option.bind_some, Option.isSome_some, Option.toList, List.cons_append, List.nil_append, zclr_i, zclr_r, zclr_n, zfit_i, zfit_l, and_self, if_true, if_false] <;> first | rfl | simp
  · refine ⟨.int (-1), zu I 3 0 2, J, st 2 I, J, N, S, ?_, ?_, h.stI⟩
    · rw [m_X11_kin]
      simp only [e_X11_kin_0, e_X11_kin_1, e_X11_kin_2, e_X11_kin_3, e_X11_kin_6, e_X11_kin_9, e_X11_kin_10, e_X11_kin_11, e_X11_kin_14, e_X11_kin_15, e_X11_kin_16, e_X11_kin_17, e_X11_kin_20, e_X11_kin_21, e_X11_kin_22, e_X11_kin_25, e_X11_kin_28, c_3, g_3_7, n_are_no1 hW hx, n_refuse, Option.bind_some, Option.isSome_some, Option.toList, List.cons_append, List.nil_append, zclr_i, zclr_r, zclr_n, zfit_i, zfit_l, and_self, if_true, if_false]
    · have hR1 : RT I 16 ((zu (zu (zu I 3 0 2) 143 1 0) 143 0 0) 148) N S := h.R
      rw [m_X12_kin]
      simp only [e_X12_kin_0, e_X12_kin_1, e_X12_kin_2, e_X12_kin_5, e_X12_kin_6, e_X12_kin_7, e_X12_kin_10, e_X12_kin_11, e_X12_kin_12, e_X12_kin_15, e_X12_kin_18, e_X12_kin_19, e_X12_kin_20, e_X12_kin_23, e_X12_kin_26, e_X12_kin_27, e_X12_kin_28, e_X12_kin_31, e_X12_kin_32, e_X12_kin_33, e_X12_kin_34, e_X12_kin_35, e_X12_kin_36, e_X12_kin_37, c_143, g_143_0, g_143_1, p_143_0, p_143_1, v_isP_no hW hR1 hx, v_refuse, st_eq, Option.bind_some, Option.isSome_some, Option.toList, List.cons_append, List.nil_append, zclr_i, zclr_r, zclr_n, zfit_i, zfit_l, and_self, if_true, if_false]
/-- parents, and theirs -/
def eG (A : Nat → Nat → Int32) (b N : Nat) (f : Nat → Bool) (q : Nat) : Bool := f q || (decide (q < N) && (List.range N).any (fun e => f e && kChild A b (nI q) e))
def eD (A : Nat → Nat → Int32) (b N p : Nat) (k : Nat) : Nat → Bool := iter (eG A b N) (fun q => decide (q < N) && kChild A b (nI q) p) k
theorem eG_infl : ∀ (f : Nat → Bool) p, f p = true → eG A b N f p = true := fun f p h => by simp [eG, h]
theorem eG_ext (h12 : N ≤ 12) : ∀ f f' : Nat → Bool, (∀ p, p < 12 → f p = f' p) → ∀ p, p < 12 → eG A b N f p = eG A b N f' p := by
  intro f f' h p hp
  unfold eG
  rw [h p hp, any_eq (f := fun e => f e && kChild A b (nI p) e) (f' := fun e => f' e && kChild A b (nI p) e) (fun q hq => by simp only [h q (by omega)])]
theorem eG_mono {f f' : Nat → Bool} (h : ∀ p, f p = true → f' p = true) : ∀ p, eG A b N f p = true → eG A b N f' p = true := by
  intro p hp
  unfold eG at hp ⊢
  simp only [Bool.or_eq_true, Bool.and_eq_true, decide_eq_true_eq, List.any_eq_true, List.mem_range] at hp ⊢
  rcases hp with hp | ⟨h1, e, he, h2, h3⟩
  · exact Or.inl (h p hp)
  · exact Or.inr ⟨h1, e, he, h e h2, h3⟩
/-- eleven steps are all -/
theorem eD_closed {p : Nat} (h12 : N ≤ 12) : ∀ r, r < 12 → eD A b N p 12 r = eD A b N p 11 r := by
  by_cases hc : 1 ≤ cnt (fun q => decide (q < N) && kChild A b (nI q) p) 12
  · exact stab11 eG_infl (eG_ext h12) hc
  · have h0 : ∀ r, r < 12 → (decide (r < N) && kChild A b (nI r) p) = false := by
      intro r hr
      cases e : (decide (r < N) && kChild A b (nI r) p)
      · rfl
      · have := cnt_more (f := fun _ => false) (f' := fun q => decide (q < N) && kChild A b (nI q) p) (p := r) hr (fun _ _ h => by simp at h) rfl e
        omega
    have hall : ∀ k r, r < 12 → eD A b N p k r = false := by
      intro k
      induction k with
      | zero => exact h0
      | succ k ih =>
        intro r hr
        show eG A b N (eD A b N p k) r = false
        unfold eG
        rw [ih r hr, Bool.false_or]
        cases e : (decide (r < N) && (List.range N).any (fun e => eD A b N p k e && kChild A b (nI r) e))
        · rfl
        · simp only [Bool.and_eq_true, decide_eq_true_eq, List.any_eq_true, List.mem_range] at e
          obtain ⟨_, q, hq, h1, _⟩ := e
          rw [ih q (by omega)] at h1
          exact absurd h1 (by decide)
    intro r hr
    rw [hall 12 r hr, hall 11 r hr]
theorem eD_step {p q r : Nat} (h12 : N ≤ 12) (hq : q < N) (hr : r < N) (h1 : eD A b N p 11 q = true) (h2 : kChild A b (nI r) q = true) : eD A b N p 11 r = true := by
  rw [← eD_closed h12 r (by omega)]
  show eG A b N (eD A b N p 11) r = true
  unfold eG
  simp only [Bool.or_eq_true, Bool.and_eq_true, decide_eq_true_eq, List.any_eq_true, List.mem_range]
  exact Or.inr ⟨hr, q, hq, h1, h2⟩
theorem eD_0 {p r k : Nat} (h : (decide (r < N) && kChild A b (nI r) p) = true) : eD A b N p k r = true := by
  have := iter_mono (G := eG A b N) (f := fun q => decide (q < N) && kChild A b (nI q) p) (p := r) eG_infl k 0 h
  rw [Nat.zero_add] at this
  exact this
theorem isS_elders {p : Nat} (hW : WT A b N S U) (hp : p < N) : isS (kEld A b p N) (fun r => decide (r < N) && eD A b N p 11 r) := by
  have h12 := hW.h12
  have hlt : ∀ k r, eD A b N p k r = true → r < N := by
    intro k
    induction k with
    | zero =>
      intro r h
      simp only [eD, iter, Bool.and_eq_true, decide_eq_true_eq] at h
      exact h.1
    | succ k ih =>
      intro r h
      have h : eG A b N (eD A b N p k) r = true := h
      unfold eG at h
      simp only [Bool.or_eq_true, Bool.and_eq_true, decide_eq_true_eq] at h
      rcases h with h | h
      · exact ih r h
      · exact h.1
  have hz := zfor_inv (f := fun _ s => zfor (kWide A b) 0 N s) (P := fun k s => ∃ f, isS s f ∧ (∀ r, eD A b N p k r = true → f r = true) ∧ ∀ r, f r = true → eD A b N p 11 r = true) ?_ 12 0 (kPar A b p) ⟨_, isS_kPar hW hp, ?_, ?_⟩
  · rw [Nat.zero_add] at hz
    obtain ⟨f, s1, s2, s3⟩ := hz
    refine isS_congr s1 (fun r hr => ?_) (fun r hr => by simp [show ¬ r < N by omega])
    by_cases h1 : r < N
    · cases e : f r
      · cases e2 : eD A b N p 11 r
        · simp
        · have := s2 r (by rw [eD_closed h12 r hr]; exact e2)
          rw [e] at this
          exact absurd this (by decide)
      · rw [s3 r e]
        simp [h1]
    · cases e : f r
      · simp [h1]
      · exact absurd (hlt 11 r (s3 r e)) h1
  · rintro k s ⟨f, s1, s2, s3⟩
    have hi := zfor_inv (f := kWide A b) (P := fun i a => i ≤ N → ∃ f', isS a f' ∧ (∀ r, f r = true → f' r = true) ∧ (∀ r, f' r = true → eD A b N p 11 r = true) ∧ ∀ q, q < i → f q = true → ∀ r, r < 12 → kChild A b (nI r) q = true → f' r = true) ?_ N 0 s (fun _ => ⟨f, s1, fun _ h => h, s3, fun q hq => by omega⟩)
    · rw [Nat.zero_add] at hi
      obtain ⟨f', t1, t2, t3, t4⟩ := hi (Nat.le_refl N)
      refine ⟨f', t1, fun r hr => ?_, t3⟩
      have hr : eG A b N (eD A b N p k) r = true := hr
      unfold eG at hr
      simp only [Bool.or_eq_true, Bool.and_eq_true, decide_eq_true_eq, List.any_eq_true, List.mem_range] at hr
      rcases hr with hr | ⟨h1, q, hq, h2, h3⟩
      · exact t2 r (s2 r hr)
      · exact t4 q hq (s2 q h2) r (by omega) h3
    · intro i a ha hi
      obtain ⟨f', t1, t2, t3, t4⟩ := ha (by omega)
      unfold kWide
      rw [bit_isS t1 (by omega)]
      cases e : f' i
      · simp only [Bool.false_eq_true, if_false, if_true]
        refine ⟨f', t1, t2, t3, fun q hq h1 r hr h2 => ?_⟩
        by_cases e2 : q = i
        · subst e2
          rw [t2 q h1] at e
          exact absurd e (by decide)
        · exact t4 q (by omega) h1 r hr h2
      · simp only [if_true, show ((1 : Int32) = 0) = False by decide, if_false]
        refine ⟨_, isS_or t1 (isS_kPar hW (show i < N by omega)), fun r hr => by simp [t2 r hr], fun r hr => ?_, fun q hq h1 r hr h2 => ?_⟩
        · simp only [Bool.or_eq_true, Bool.and_eq_true, decide_eq_true_eq] at hr
          rcases hr with hr | ⟨h1, h2⟩
          · exact t3 r hr
          · exact eD_step h12 (by omega) (kChild_lt hW (by omega) h1 h2) (t3 i e) h2
        · by_cases e2 : q = i
          · subst e2
            simp [hr, h2]
          · simp [t4 q (by omega) h1 r hr h2]
  · intro r hr
    simp only [eD, iter, Bool.and_eq_true, decide_eq_true_eq] at hr
    simp only [Bool.and_eq_true, decide_eq_true_eq]
    exact ⟨by omega, hr.2⟩
  · intro r hr
    simp only [Bool.and_eq_true, decide_eq_true_eq] at hr
    refine eD_0 ?_
    simp only [Bool.and_eq_true, decide_eq_true_eq]
    exact ⟨kChild_lt hW hp hr.1 hr.2, hr.2⟩
end QT
