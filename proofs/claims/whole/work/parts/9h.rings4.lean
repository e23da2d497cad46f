/-! RINGED, RINGS, TRADE -/
section RK
variable {n m : Nat} {g : Nat → zC} {I X A : Nat → Nat → Int32} {J : Nat → Nat → Int64} {N S U b : Nat}
theorem Inv.ringX (h : Inv I J N S) (hX : farR X I) (hp : pointOk X) : Inv X J N S := by
  refine h.same ?_ (fun a ha => hX a (keepT_ne ha rfl) (keepT_ne ha rfl) (keepT_ne ha rfl)) (fun k _ => by rw [hX 3 (by decide) (by decide) (by decide)]) (fun k _ => by rw [hX 143 (by decide) (by decide) (by decide)]) hp (fun _ _ => rfl)
  rw [hX 3 (by decide) (by decide) (by decide), hX 143 (by decide) (by decide) (by decide)]
  exact h.stq
theorem Inv.mr {c : Int32} {gs ps : Nat → Int32} (h : Inv I J N S) : Inv (MR I c gs ps) J N S := by
  refine h.same ?_ (fun a ha => MR_far (keepT_ne ha rfl) (keepT_ne ha rfl) (keepT_ne ha rfl)) (fun k _ => by rw [MR_far (by decide) (by decide) (by decide)]) (fun k hk => MR_143 (by omega)) ?_ (fun _ _ => rfl)
  · rw [MR_far (by decide) (by decide) (by decide), MR_143 (by decide)]
    exact h.stq
  · have := h.pt
    unfold pointOk at *
    rw [MR_far (by decide) (by decide) (by decide)]
    exact this
theorem MR_u0 {c x : Int32} {gs ps : Nat → Int32} : zu (MR I c gs ps) 143 0 x = MR (zu I 143 0 x) c gs ps := by
  unfold MR
  rw [← zr_zu _ _ _ _ _ _ (by decide), ← zr_zu _ _ _ _ _ _ (by decide)]
  congr 2
  funext a k
  unfold zu
  by_cases h1 : a = 143
  · by_cases h2 : k = 0
    · simp [h2]
    · simp [h2]
  · simp [h1]
theorem r0_same {r r' : Nat} {f : Nat → Bool} (h : ∀ p, r.testBit p = f p) (h' : ∀ p, r'.testBit p = f p) : r = r' := Nat.eq_of_testBit_eq (fun p => (h p).trans (h' p).symm)
theorem GI_0 {r : Nat} (hr : r < 4096) : GI A b r (r, fun _ => -1, 0) := ⟨hr, fun _ h => h, fun _ _ => rfl, fun q h1 h2 => by rw [h1] at h2; exact absurd h2 (by decide)⟩
/-- both sides of closing the rings -/
theorem rings_both (h : Inv I J N S) : ∃ r Z, r < 4096 ∧ (∀ p, r.testBit p = r0F I 16 N p) ∧ Rst (rClose 16 N I) I Z ∧ (∀ q, r.testBit q = false → Z.2.1 q = -1) ∧ (∀ q, r.testBit q = true → ∃ q', r.testBit q' = true ∧ Z.2.1 q = I (16 + 7) q') ∧ Z.2.2 ≤ 12 ∧ ∀ (d n m : Nat) (g : Nat → zC) (Y : Nat → Nat → Int32), Y 148 = I 148 → ∃ gs ps, zcall (d + 3) 376 [.ref 143] (mk n m g Y J) = some (some (.int (nI r)), mk n m g (MR Y (nI Z.2.2) gs ps) J) ∧ ∀ q, q < 12 → gs q = Z.2.1 q := by
  have hW := h.W
  obtain ⟨r, hr, hb, hX⟩ := rClose_eq (I := I) t16 hW.h12 h.pt
  have hG := GI_rrn (A := I) (b := 16) 12 _ (GI_0 hr)
  have hc := cnt_le r.testBit 12 0 0
  have hend := rrn_end (A := I) (b := 16) 12 (r, fun _ => -1, 0) hr (by unfold cnt; omega)
  have hcc := rrn_c (A := I) (b := 16) 12 (r, fun _ => -1, 0)
  refine ⟨r, rrn I 16 12 (r, fun _ => -1, 0), hr, hb, hX, hG.2.2.1, fun q hq => hG.2.2.2 q hq (by rw [hend, Nat.zero_testBit]), by simpa using hcc, fun d n m g Y hY => ?_⟩
  obtain ⟨r', gs, ps, hr', hb', e1, e2⟩ := v_laysRings (n := n) (m := m) (g := g) (J := J) (I := Y) hW (by rw [hY]; exact h.R) d
  have := r0_same hb hb'
  subst this
  exact ⟨gs, ps, e1, e2⟩
theorem q_rings (h : Inv I J N S) (d : Nat) : Eqv (d + 30) 197 378 [] n m g I J := by
  have hW := h.W
  have h12 := hW.h12
  obtain ⟨r, Z, hr, hb, hX, hG1, hG2, hZ, hv⟩ := rings_both h
  have hcl := r_close (n := n) (m := m) (g := g) (J := J) t16 h12 ⟨hW.hN, hW.like6, h.pt⟩ (d + 26)
  obtain ⟨gs, ps, e1, e2⟩ := hv (d + 26) n m g ((zu (zu (zu (rClose 16 N I) 3 0 0) 143 1 0) 143 0 0)) (hX.1 148 (by decide) (by decide) (by decide))
  refine ⟨.int (nI Z.2.2), zu (rClose 16 N I) 3 0 0, J, _, J, N, S, ?_, ?_, ((h.ringX hX.1 hX.2.2.2.2).stI (w := 0)).mr (c := nI Z.2.2) (gs := gs) (ps := ps)⟩
  · rw [m_X11_rings]
    simp only [e_X11_rings_0, e_X11_rings_1, e_X11_rings_4, e_X11_rings_5, e_X11_rings_8, e_X11_rings_11, e_X11_rings_12, e_X11_rings_13, e_X11_rings_16, e_X11_rings_19, e_X11_rings_22, c_3, c_69, g_3_7, g_3_14, g_69_1, hcl, n_answer, hX.2.2.1, Option.bind_some, Option.isSome_some, Option.toList, List.cons_append, List.nil_append, zclr_i, zclr_r, zclr_n, zfit_i, zfit_l, and_self, if_true, if_false]
  · rw [m_X12_rings]
    simp only [e_X12_rings_0, e_X12_rings_1, e_X12_rings_2, e_X12_rings_5, e_X12_rings_6, e_X12_rings_7, e_X12_rings_10, e_X12_rings_11, e_X12_rings_14, e_X12_rings_15, e_X12_rings_16, e_X12_rings_19, c_143, g_143_0, g_143_1, p_143_0, p_143_1, e1, g_143_31, MR_31, Option.bind_some, Option.isSome_some, Option.toList, List.cons_append, List.nil_append, zclr_i, zclr_r, zclr_n, zfit_i, zfit_l, and_self, if_true, if_false]
    rfl
theorem q_ringed {x : Int32} (h : Inv I J N S) (d : Nat) : Eqv (d + 30) 196 377 [.int x] n m g I J := by
  have hW := h.W
  have h12 := hW.h12
  rcases p_cases x N with ⟨p, hp, rfl⟩ | hx
  · obtain ⟨r, Z, hr, hb, hX, hG1, hG2, hZ, hv⟩ := rings_both h
    have hcl := r_close (n := n) (m := m) (g := g) (J := J) t16 h12 ⟨hW.hN, hW.like6, h.pt⟩ (d + 26)
    have hp12 : p < 12 := by omega
    have h70 := hX.2.2.2.1 p hp12
    cases hbp : r.testBit p
    · have hgp := hG1 p hbp
      obtain ⟨gs, ps, e1, e2⟩ := hv (d + 26) n m g ((zu (zu (zu (rClose 16 N I) 3 0 8) 143 1 0) 143 0 0)) (hX.1 148 (by decide) (by decide) (by decide))
      have hR1 : RT I 16 ((zu (zu (zu (rClose 16 N I) 3 0 8) 143 1 0) 143 0 0) 148) N S := by
        rw [show (zu (zu (zu (rClose 16 N I) 3 0 8) 143 1 0) 143 0 0) 148 = I 148 from hX.1 148 (by decide) (by decide) (by decide)]
        exact h.R
      refine ⟨.int (-1), zu (rClose 16 N I) 3 0 8, J, _, J, N, S, ?_, ?_, ((h.ringX hX.1 hX.2.2.2.2).stI (w := 8)).mr (c := nI Z.2.2) (gs := gs) (ps := ps)⟩
      · rw [m_X11_ringed]
        simp only [e_X11_ringed_0, e_X11_ringed_1, e_X11_ringed_4, e_X11_ringed_5, e_X11_ringed_8, e_X11_ringed_11, e_X11_ringed_12, e_X11_ringed_13, e_X11_ringed_16, e_X11_ringed_17, e_X11_ringed_18, e_X11_ringed_21, e_X11_ringed_22, e_X11_ringed_25, e_X11_ringed_28, e_X11_ringed_29, e_X11_ringed_30, e_X11_ringed_33, e_X11_ringed_36, e_X11_ringed_37, e_X11_ringed_38, e_X11_ringed_41, c_3, c_69, c_T0 t16, g_3_7, g_3_14, g_69_0, t_hasP_yes t16 hW.hN h12 hp, hcl, l_70 hp12, h70, hgp, n_answerIfAny, Option.bind_some, Option.isSome_some, Option.toList, List.cons_append, List.nil_append, zclr_i, zclr_r, zclr_n, zfit_i, zfit_l, and_self, if_true, if_false]
        rfl
      · rw [m_X12_ringed]
        simp only [e_X12_ringed_0, e_X12_ringed_1, e_X12_ringed_2, e_X12_ringed_5, e_X12_ringed_6, e_X12_ringed_7, e_X12_ringed_10, e_X12_ringed_11, e_X12_ringed_12, e_X12_ringed_15, e_X12_ringed_18, e_X12_ringed_19, e_X12_ringed_20, e_X12_ringed_23, e_X12_ringed_24, e_X12_ringed_25, e_X12_ringed_28, e_X12_ringed_29, e_X12_ringed_32, e_X12_ringed_35, e_X12_ringed_36, e_X12_ringed_39, e_X12_ringed_40, e_X12_ringed_41, e_X12_ringed_44, e_X12_ringed_45, e_X12_ringed_47, e_X12_ringed_50, c_143, g_143_0, g_143_1, p_143_0, p_143_1, v_isP_yes hW hR1 hp, e1, v_hasS (isS_nI hr) hp12, hbp, bI, Bool.false_eq_true, v_refuse, MR_u0, st_eq, Option.bind_some, Option.isSome_some, Option.toList, List.cons_append, List.nil_append, zclr_i, zclr_r, zclr_n, zfit_i, zfit_l, and_self, if_true, if_false]
        rfl
    · obtain ⟨q', hq1, hq2⟩ := hG2 p hbp
      have hgp : ¬ Z.2.1 p = -1 := by
        rw [hq2]
        rw [hb] at hq1
        unfold r0F at hq1
        simp at hq1
        exact hq1.2.2
      obtain ⟨gs, ps, e1, e2⟩ := hv (d + 26) n m g ((zu (zu (zu (rClose 16 N I) 3 0 0) 143 1 0) 143 0 0)) (hX.1 148 (by decide) (by decide) (by decide))
      have hR1 : RT I 16 ((zu (zu (zu (rClose 16 N I) 3 0 0) 143 1 0) 143 0 0) 148) N S := by
        rw [show (zu (zu (zu (rClose 16 N I) 3 0 0) 143 1 0) 143 0 0) 148 = I 148 from hX.1 148 (by decide) (by decide) (by decide)]
        exact h.R
      refine ⟨.int (Z.2.1 p), zu (rClose 16 N I) 3 0 0, J, _, J, N, S, ?_, ?_, ((h.ringX hX.1 hX.2.2.2.2).stI (w := 0)).mr (c := nI Z.2.2) (gs := gs) (ps := ps)⟩
      · rw [m_X11_ringed]
        simp only [e_X11_ringed_0, e_X11_ringed_1, e_X11_ringed_4, e_X11_ringed_5, e_X11_ringed_8, e_X11_ringed_11, e_X11_ringed_12, e_X11_ringed_13, e_X11_ringed_16, e_X11_ringed_17, e_X11_ringed_18, e_X11_ringed_21, e_X11_ringed_22, e_X11_ringed_25, e_X11_ringed_28, e_X11_ringed_29, e_X11_ringed_30, e_X11_ringed_33, e_X11_ringed_36, e_X11_ringed_37, e_X11_ringed_38, e_X11_ringed_41, c_3, c_69, c_T0 t16, g_3_7, g_3_14, g_69_0, t_hasP_yes t16 hW.hN h12 hp, hcl, l_70 hp12, h70, n_answerIfAny, hgp, Option.bind_some, Option.isSome_some, Option.toList, List.cons_append, List.nil_append, zclr_i, zclr_r, zclr_n, zfit_i, zfit_l, and_self, if_true, if_false]
        rfl
      · rw [m_X12_ringed]
        simp only [e_X12_ringed_0, e_X12_ringed_1, e_X12_ringed_2, e_X12_ringed_5, e_X12_ringed_6, e_X12_ringed_7, e_X12_ringed_10, e_X12_ringed_11, e_X12_ringed_12, e_X12_ringed_15, e_X12_ringed_18, e_X12_ringed_19, e_X12_ringed_20, e_X12_ringed_23, e_X12_ringed_24, e_X12_ringed_25, e_X12_ringed_28, e_X12_ringed_29, e_X12_ringed_32, e_X12_ringed_35, e_X12_ringed_36, e_X12_ringed_39, e_X12_ringed_40, e_X12_ringed_41, e_X12_ringed_44, e_X12_ringed_45, e_X12_ringed_47, e_X12_ringed_50, c_143, g_143_0, g_143_1, g_143_29, p_143_0, p_143_1, v_isP_yes hW hR1 hp, e1, v_hasS (isS_nI hr) hp12, hbp, bI, l_154 hp12, MR_154, e2 p hp12, Option.bind_some, Option.isSome_some, Option.toList, List.cons_append, List.nil_append, zclr_i, zclr_r, zclr_n, zfit_i, zfit_l, and_self, if_true, if_false]
        rfl
  · refine ⟨.int (-1), zu I 3 0 2, J, st 2 I, J, N, S, ?_, ?_, h.stI⟩
    · rw [m_X11_ringed]
      simp only [e_X11_ringed_0, e_X11_ringed_1, e_X11_ringed_4, e_X11_ringed_5, e_X11_ringed_8, e_X11_ringed_11, e_X11_ringed_12, e_X11_ringed_13, e_X11_ringed_16, e_X11_ringed_17, e_X11_ringed_18, e_X11_ringed_21, e_X11_ringed_22, e_X11_ringed_25, e_X11_ringed_28, e_X11_ringed_29, e_X11_ringed_30, e_X11_ringed_33, e_X11_ringed_36, e_X11_ringed_37, e_X11_ringed_38, e_X11_ringed_41, c_3, c_T0 t16, g_3_7, n_refuse, t_hasP_no t16 hW.hN h12 hx, Option.bind_some, Option.isSome_some, Option.toList, List.cons_append, List.nil_append, zclr_i, zclr_r, zclr_n, zfit_i, zfit_l, and_self, if_true, if_false] <;> first | rfl | rfl
    · have hR1 : RT I 16 ((zu (zu (zu I 3 0 2) 143 1 0) 143 0 0) 148) N S := h.R
      rw [m_X12_ringed]
      simp only [e_X12_ringed_0, e_X12_ringed_1, e_X12_ringed_2, e_X12_ringed_5, e_X12_ringed_6, e_X12_ringed_7, e_X12_ringed_10, e_X12_ringed_11, e_X12_ringed_12, e_X12_ringed_15, e_X12_ringed_18, e_X12_ringed_19, e_X12_ringed_20, e_X12_ringed_23, e_X12_ringed_24, e_X12_ringed_25, e_X12_ringed_28, e_X12_ringed_29, e_X12_ringed_32, e_X12_ringed_35, e_X12_ringed_36, e_X12_ringed_39, e_X12_ringed_40, e_X12_ringed_41, e_X12_ringed_44, e_X12_ringed_45, e_X12_ringed_47, e_X12_ringed_50, c_143, g_143_0, g_143_1, p_143_0, p_143_1, v_refuse, st_eq, v_isP_no hW hR1 hx, Option.bind_some, Option.isSome_some, Option.toList, List.cons_append, List.nil_append, zclr_i, zclr_r, zclr_n, zfit_i, zfit_l, and_self, if_true, if_false] <;> first | rfl | rfl
/-- one who trades -/
def td1 (p : Nat) (x : Nat × (Nat → Nat → Int32)) : Nat × (Nat → Nat → Int32) := if x.2 70 p ≠ -1 ∧ x.2 70 p ≠ x.2 (16 + 7) p then (x.1 + 1, zu x.2 (16 + 7) p (x.2 70 p)) else x
theorem q_trade (h : Inv I J N S) (d : Nat) : Eqv (d + 30) 198 379 [] n m g I J := by
  have hW0 := h.W
  have h12 := hW0.h12
  have h6 := hW0.h6
  obtain ⟨r, Z, hr, hb, hX, hG1, hG2, hZ, hv⟩ := rings_both h
  have hcl := r_close (n := n) (m := m) (g := g) (J := J) t16 h12 ⟨hW0.hN, hW0.like6, h.pt⟩ (d + 26)
  have hI := h.ringX hX.1 hX.2.2.2.2
  have h70 := hX.2.2.2.1
  have hX148 := hX.1 148 (by decide) (by decide) (by decide)
  have hX7 : rClose 16 N I (16 + 7) = I (16 + 7) := farR_t t16 hX.1 (by decide)
  generalize rClose 16 N I = X at hcl hI h70 hX148 hX7
  have hW := hI.W
  have hgs : ∀ q, q < N → X 70 q = -1 ∧ r.testBit q = false ∨ (X 70 q ≠ -1 ∧ r.testBit q = true ∧ ∃ s, s < S ∧ X 70 q = nI s) := by
    intro q hq
    cases hbq : r.testBit q
    · exact .inl ⟨by rw [h70 q (by omega)]; exact hG1 q hbq, rfl⟩
    · right
      obtain ⟨q', h1, h2⟩ := hG2 q hbq
      rw [hb] at h1
      unfold r0F at h1
      simp at h1
      rcases hW0.bears q' h1.1 with h3 | ⟨s, h3, h4⟩
      · exact absurd h3 h1.2.2
      · have e : X 70 q = nI s := by rw [h70 q (by omega), h2, h4]
        exact ⟨by rw [e]; exact nI_m1 (by omega), rfl, s, h3, e⟩
  -- the town behind
  have hinv := zfor_inv (f := td1) (P := fun p x => p ≤ N → x.1 ≤ p ∧ x.2 70 = X 70 ∧ (∀ a, a ≠ 16 + 7 → x.2 a = X a) ∧ WT x.2 16 N S 2999) (fun p x ih hp => by
    obtain ⟨i1, i2, i3, i4⟩ := ih (by omega)
    unfold td1
    by_cases e : x.2 70 p ≠ -1 ∧ x.2 70 p ≠ x.2 (16 + 7) p
    · rw [if_pos e]
      refine ⟨by dsimp only; omega, by dsimp only; rw [zu_far _ _ _ (by decide)]; exact i2, fun a ha => by dsimp only; rw [zu_far _ _ _ ha]; exact i3 a ha, i4.row7 (fun j _ hj => zu_far _ _ _ (by omega)) (fun q hq => ?_)⟩
      dsimp only
      rw [zu_row]
      by_cases e2 : q = p
      · rw [if_pos e2, i2]
        rcases hgs p (by omega) with ⟨g1, _⟩ | ⟨_, _, s, g3⟩
        · rw [i2] at e
          exact absurd g1 e.1
        · exact .inr ⟨s, g3⟩
      · rw [if_neg e2]
        exact i4.bears q hq
    · rw [if_neg e]
      exact ⟨by omega, i2, i3, i4⟩) N 0 (0, X) (fun _ => ⟨Nat.le_refl 0, rfl, fun _ _ => rfl, hW⟩)
  rw [Nat.zero_add] at hinv
  obtain ⟨k1, k2, k3, wB⟩ := hinv (Nat.le_refl N)
  have w1 := wB.settle
  -- the class
  have hclass : zcall (d + 30) 198 [.ref 3] (mk n m g I J) = some (some (.int (nI (zfor td1 0 N (0, X)).1)), mk n m g (zu (tSettle (zfor td1 0 N (0, X)).2 16 N) 3 0 0) J) := by
    have hl := zloopR (fun p (x : (Nat × (Nat → Nat → Int32)) × Option Int32) => zexec (d + 30) 198 15 [some (.ref 3), some (.int (nI x.1.1)), some (.int (nI p)), x.2.map Value.int] [] (mk n m g x.1.2 J)) (fun p (a : Nat × (Nat → Nat → Int32)) x => x.1 = a ∧ a.2 70 = X 70 ∧ a.2 16 = X 16) td1 N ?_ N 0 (0, X) ((0, X), none) (by omega) ⟨rfl, rfl, rfl⟩
    · obtain ⟨⟨w, y⟩, e1, e2, e3, e4⟩ := hl
      dsimp only at e1 e2
      subst e2
      have hst : zcall (d + 30) 198 [.ref 3] (mk n m g I J) = zexec (d + 30) 198 15 [some (.ref 3), some (.int (nI 0)), some (.int (nI 0)), none] [] (mk n m g X J) := by
        rw [m_X11_trade]
        simp only [e_X11_trade_0, e_X11_trade_1, e_X11_trade_4, e_X11_trade_5, e_X11_trade_8, e_X11_trade_11, e_X11_trade_12, e_X11_trade_13, e_X11_trade_14, c_69, g_3_7, g_3_14, hcl, Option.bind_some, Option.isSome_some, Option.toList, List.cons_append, List.nil_append, zclr_i, zclr_r, zclr_n, zfit_i, zfit_l, and_self, if_true, if_false]
        rfl
      refine hst.trans ((show _ from e1).trans ?_)
      rw [e_X11_trade_15]
      simp only [e_X11_trade_0, e_X11_trade_1, e_X11_trade_4, e_X11_trade_5, e_X11_trade_8, e_X11_trade_11, e_X11_trade_12, e_X11_trade_13, e_X11_trade_14, e_X11_trade_16, e_X11_trade_17, e_X11_trade_20, e_X11_trade_23, e_X11_trade_26, e_X11_trade_27, e_X11_trade_30, e_X11_trade_33, e_X11_trade_34, e_X11_trade_35, e_X11_trade_36, e_X11_trade_37, e_X11_trade_38, e_X11_trade_41, e_X11_trade_42, e_X11_trade_43, e_X11_trade_46, e_X11_trade_49, e_X11_trade_50, e_X11_trade_51, e_X11_trade_54, e_X11_trade_55, e_X11_trade_58, e_X11_trade_61, e_X11_trade_62, e_X11_trade_63, e_X11_trade_64, e_X11_trade_67, e_X11_trade_70, e_X11_trade_73, e_X11_trade_74, e_X11_trade_77, e_X11_trade_80, e_X11_trade_81, e_X11_trade_82, e_X11_trade_85, c_3, c_T0 t16, g_3_7, g_3_14, g_T0_4 t16, wB.hN, if_pos (nI_le (Nat.le_refl N) (show N < 2 ^ 31 by omega)), t_settle t16 wB.hN h12 wB.qWell, n_answer, zclr_map, Option.bind_some, Option.isSome_some, Option.toList, List.cons_append, List.nil_append, zclr_i, zclr_r, zclr_n, zfit_i, zfit_l, and_self, if_true, if_false]
    · rintro p a ⟨x, y⟩ hp ⟨e1, e2, e3⟩
      dsimp only at e1
      subst e1
      have hN4 : x.2 16 4 = nI N := by rw [e3]; exact hW.hN
      have hp12 : p < 12 := by omega
      refine ⟨(td1 p x, some (x.2 70 p)), ?_, rfl, ?_, ?_⟩
      · dsimp only
        rw [e_X11_trade_15]
        simp only [e_X11_trade_16, e_X11_trade_17, e_X11_trade_20, e_X11_trade_23, e_X11_trade_26, e_X11_trade_27, e_X11_trade_30, e_X11_trade_33, e_X11_trade_34, e_X11_trade_35, e_X11_trade_36, e_X11_trade_37, e_X11_trade_38, e_X11_trade_41, e_X11_trade_42, e_X11_trade_43, e_X11_trade_46, e_X11_trade_49, e_X11_trade_50, e_X11_trade_51, e_X11_trade_54, e_X11_trade_55, e_X11_trade_58, e_X11_trade_61, e_X11_trade_62, e_X11_trade_63, e_X11_trade_64, e_X11_trade_67, e_X11_trade_70, c_3, c_T0 t16, g_3_7, g_3_14, g_69_0, g_T0_4 t16, g_T0_12 t16, hN4, if_neg (nI_ge hp (show N < 2 ^ 31 by omega)), l_70 hp12, l_T7 t16 hp12, nI_neg (show p < 2 ^ 31 by omega), nI_clamp (show p < 2 ^ 31 by omega), k_T7 t16 hp12, q_T7 t16, nI_1, zclr_map, Option.bind_some, Option.isSome_some, Option.toList, List.cons_append, List.nil_append, zclr_i, zclr_r, zclr_n, zfit_i, zfit_l, and_self, if_true, if_false]
        unfold td1
        by_cases a1 : x.2 70 p = -1
        · simp [a1]
        · by_cases a2 : x.2 70 p = x.2 (16 + 7) p
          · simp [a2]
          · simp [a1, a2]
      · unfold td1
        split
        · dsimp only
          rw [zu_far _ _ _ (by decide)]
          exact e2
        · exact e2
      · unfold td1
        split
        · dsimp only
          rw [zu_far _ _ _ (by decide)]
          exact e3
        · exact e3
  have hT : ∀ a, (∀ i, i < 17 → a ≠ 16 + i) → tSettle (zfor td1 0 N (0, X)).2 16 N a = X a := fun a ha => by rw [settle_out ha]; exact k3 a (ha 7 (by decide))
  have hV148 : (zu (zu (zu (tSettle (zfor td1 0 N (0, X)).2 16 N) 3 0 0) 143 1 0) 143 0 0) 148 = X 148 := hT 148 (fun i hi => by omega)
  obtain ⟨gs, ps, e1, e2⟩ := hv (d + 26) n m g ((zu (zu (zu (tSettle (zfor td1 0 N (0, X)).2 16 N) 3 0 0) 143 1 0) 143 0 0)) (hV148.trans hX148)
  -- the reference's loop
  have hl := zloopR (fun p (x : Nat × (Nat → Int32)) => zexec (d + 30) 379 19 [some (.ref 143), some (.int (nI r)), some (.int (nI x.1)), some (.int (nI p))] [] (mk n m g (zr (MR ((zu (zu (zu (tSettle (zfor td1 0 N (0, X)).2 16 N) 3 0 0) 143 1 0) 143 0 0)) (nI Z.2.2) gs ps) 148 x.2) J)) (fun p (a : Nat × (Nat → Nat → Int32)) x => x.1 = a.1 ∧ a.2 70 = X 70 ∧ RT a.2 16 x.2 N S ∧ WT a.2 16 N S 2999 ∧ ∀ j, 234 ≤ j → x.2 j = X 148 j) td1 N ?_ N 0 (0, X) (0, X 148) (by omega) ⟨rfl, rfl, hI.R, hW, fun _ _ => rfl⟩
  · obtain ⟨⟨v, c2⟩, e3, e4, e5, e6, e7, e8⟩ := hl
    dsimp only at e3 e4 e6 e8
    subst e4
    obtain ⟨c3, e9, r3, f3'⟩ := v_settles (n := n) (m := m) (g := g) (J := J) (I := zr (MR ((zu (zu (zu (tSettle (zfor td1 0 N (0, X)).2 16 N) 3 0 0) 143 1 0) 143 0 0)) (nI Z.2.2) gs ps) 148 c2) wB (by rw [zr_same]; exact e6) (d + 26)
    rw [zr_zr] at e9
    rw [zr_same] at f3'
    have f3 : ∀ j, 234 ≤ j → c3 j = (zu (zu (zu (tSettle (zfor td1 0 N (0, X)).2 16 N) 3 0 0) 143 1 0) 143 0 0) 148 j := fun j hj => by rw [f3' j hj, e8 j hj, hV148]
    have hfin := (hI.fin w1 hT r3 f3).mr (c := nI Z.2.2) (gs := gs) (ps := ps)
    have hmem : zr (MR ((zu (zu (zu (tSettle (zfor td1 0 N (0, X)).2 16 N) 3 0 0) 143 1 0) 143 0 0)) (nI Z.2.2) gs ps) 148 c3 = MR (st 0 (zr (tSettle (zfor td1 0 N (0, X)).2 16 N) 148 c3)) (nI Z.2.2) gs ps := by
      rw [← st_zr]
      funext a k
      by_cases a1 : a = 148
      · subst a1
        rw [zr_same, MR_far (by decide) (by decide) (by decide), zr_same]
      · rw [zr_far _ _ a1]
        by_cases a2 : a = 155
        · subst a2; rw [MR_155, MR_155]
        · by_cases a3 : a = 154
          · subst a3; rw [MR_154, MR_154]
          · by_cases a4 : a = 143
            · subst a4
              by_cases a5 : k = 31
              · subst a5; rw [MR_31, MR_31]
              · rw [MR_143 a5, MR_143 a5, zr_far _ _ (by decide)]
            · rw [MR_far a4 a3 a2, MR_far a4 a3 a2, zr_far _ _ a1]
    refine ⟨.int (nI (zfor td1 0 N (0, X)).1), zu (tSettle (zfor td1 0 N (0, X)).2 16 N) 3 0 0, J, _, J, N, S, hclass, ?_, hfin⟩
    have hid : MR ((zu (zu (zu (tSettle (zfor td1 0 N (0, X)).2 16 N) 3 0 0) 143 1 0) 143 0 0)) (nI Z.2.2) gs ps = zr (MR ((zu (zu (zu (tSettle (zfor td1 0 N (0, X)).2 16 N) 3 0 0) 143 1 0) 143 0 0)) (nI Z.2.2) gs ps) 148 (X 148) := by
      have e148 : X 148 = MR ((zu (zu (zu (tSettle (zfor td1 0 N (0, X)).2 16 N) 3 0 0) 143 1 0) 143 0 0)) (nI Z.2.2) gs ps 148 := by
        rw [MR_far (by decide) (by decide) (by decide)]
        exact hV148.symm
      rw [e148, zr_id]
    have hst : zcall (d + 30) 379 [.ref 143] (mk n m g (zu (tSettle (zfor td1 0 N (0, X)).2 16 N) 3 0 0) J) = zexec (d + 30) 379 19 [some (.ref 143), some (.int (nI r)), some (.int (nI 0)), some (.int (nI 0))] [] (mk n m g (zr (MR ((zu (zu (zu (tSettle (zfor td1 0 N (0, X)).2 16 N) 3 0 0) 143 1 0) 143 0 0)) (nI Z.2.2) gs ps) 148 (X 148)) J) := by
      rw [← hid, m_X12_trade]
      simp only [e_X12_trade_0, e_X12_trade_1, e_X12_trade_2, e_X12_trade_5, e_X12_trade_6, e_X12_trade_7, e_X12_trade_10, e_X12_trade_11, e_X12_trade_14, e_X12_trade_15, e_X12_trade_16, e_X12_trade_17, e_X12_trade_18, c_143, g_143_0, g_143_1, p_143_0, p_143_1, e1, Option.bind_some, Option.isSome_some, Option.toList, List.cons_append, List.nil_append, zclr_i, zclr_r, zclr_n, zfit_i, zfit_l, and_self, if_true, if_false]
      rfl
    rw [← hmem]
    refine hst.trans ((show _ from e3).trans ?_)
    have hR2 : RT (zfor td1 0 N (0, X)).2 16 (zr (MR ((zu (zu (zu (tSettle (zfor td1 0 N (0, X)).2 16 N) 3 0 0) 143 1 0) 143 0 0)) (nI Z.2.2) gs ps) 148 c2 148) N S := by rw [zr_same]; exact e6
    rw [e_X12_trade_19]
    simp only [e_X12_trade_20, e_X12_trade_21, e_X12_trade_24, e_X12_trade_25, e_X12_trade_26, e_X12_trade_87, e_X12_trade_88, e_X12_trade_91, e_X12_trade_92, cA_6, cA_12, cA_18, cA_30, cA_42, cA_54, cA_66, cA_78, cA_90, cA_102, cA_114, cA_126, cA_138, cA_210, cA_222, lc_0, lc_1, lc_2, lc_3, lc_4, lc_5, g_143_20, q_148, c_143, e7.c1 hR2, if_pos (nI_le (Nat.le_refl N) (show N < 2 ^ 31 by omega)), e9, Option.bind_some, Option.isSome_some, Option.toList, List.cons_append, List.nil_append, zclr_i, zclr_r, zclr_n, zfit_i, zfit_l, and_self, if_true, if_false]
  · rintro p a ⟨v, c⟩ hp ⟨i1, i2, i3, i4, i5⟩
    dsimp only at i1 i3 i5 ⊢
    subst i1
    have hp12 : p < 12 := by omega
    have hR2 : RT a.2 16 (zr (MR ((zu (zu (zu (tSettle (zfor td1 0 N (0, X)).2 16 N) 3 0 0) 143 1 0) 143 0 0)) (nI Z.2.2) gs ps) 148 c 148) N S := by rw [zr_same]; exact i3
    have hgp : gs p = a.2 70 p := by rw [e2 p hp12, i2, h70 p hp12]
    have h154 : zr (MR ((zu (zu (zu (tSettle (zfor td1 0 N (0, X)).2 16 N) 3 0 0) 143 1 0) 143 0 0)) (nI Z.2.2) gs ps) 148 c 154 = gs := by rw [zr_far _ _ (by decide), MR_154]
    rcases hgs p hp with ⟨g1, g2⟩ | ⟨g1, g2, s, g3, g4⟩
    · refine ⟨(a.1, c), ?_, ?_⟩
      · rw [e_X12_trade_19]
        simp only [e_X12_trade_20, e_X12_trade_21, e_X12_trade_24, e_X12_trade_25, e_X12_trade_26, e_X12_trade_29, e_X12_trade_30, e_X12_trade_31, e_X12_trade_34, e_X12_trade_37, e_X12_trade_81, e_X12_trade_84, cA_6, cA_12, cA_18, cA_30, cA_42, cA_54, cA_66, cA_78, cA_90, cA_102, cA_114, cA_126, cA_138, cA_210, cA_222, lc_0, lc_1, lc_2, lc_3, lc_4, lc_5, g_143_20, q_148, i4.c1 hR2, if_neg (nI_ge hp (show N < 2 ^ 31 by omega)), v_hasS (isS_nI hr) hp12, g2, bI, Bool.false_eq_true, ne_eq, not_true, nI_1, Option.bind_some, Option.isSome_some, Option.toList, List.cons_append, List.nil_append, zclr_i, zclr_r, zclr_n, zfit_i, zfit_l, and_self, if_true, if_false]
      · have : td1 p a = a := by
          unfold td1
          rw [if_neg (fun hh => hh.1 (by rw [i2]; exact g1))]
        rw [this]
        exact ⟨rfl, i2, i3, i4, i5⟩
    · refine ⟨(if a.2 70 p = a.2 (16 + 7) p then a.1 else a.1 + 1, fu c (30 + p) (a.2 70 p)), ?_, ?_⟩
      · rw [e_X12_trade_19]
        simp only [e_X12_trade_20, e_X12_trade_21, e_X12_trade_24, e_X12_trade_25, e_X12_trade_26, e_X12_trade_29, e_X12_trade_30, e_X12_trade_31, e_X12_trade_34, e_X12_trade_37, e_X12_trade_40, e_X12_trade_41, e_X12_trade_42, e_X12_trade_45, e_X12_trade_46, e_X12_trade_47, e_X12_trade_48, e_X12_trade_51, e_X12_trade_53, e_X12_trade_54, e_X12_trade_55, e_X12_trade_56, e_X12_trade_59, e_X12_trade_60, e_X12_trade_63, e_X12_trade_64, e_X12_trade_65, e_X12_trade_66, e_X12_trade_67, e_X12_trade_70, e_X12_trade_72, e_X12_trade_73, e_X12_trade_74, e_X12_trade_75, e_X12_trade_78, e_X12_trade_79, e_X12_trade_80, e_X12_trade_81, e_X12_trade_84, cA_6, cA_12, cA_18, cA_30, cA_42, cA_54, cA_66, cA_78, cA_90, cA_102, cA_114, cA_126, cA_138, cA_210, cA_222, lc_0, lc_1, lc_2, lc_3, lc_4, lc_5, g_143_20, q_148, nI_neg (show 30 + p < 2 ^ 31 by omega), nI_clamp (show 30 + p < 2 ^ 31 by omega), k_148 (show 30 + p < 2530 by omega), l_148 (show 30 + p < 2530 by omega), i4.c1 hR2, g_143_29, if_neg (nI_ge hp (show N < 2 ^ 31 by omega)), v_hasS (isS_nI hr) hp12, g2, bI, show ((1 : Int32) = 0) = False by decide, ne_eq, not_false_eq_true, l_154 hp12, h154, hgp, hR2.bears p hp, nI_neg (show 30 + p < 2 ^ 31 by omega), nI_clamp (show 30 + p < 2 ^ 31 by omega), k_148 (show 30 + p < 2530 by omega), zu_zr, nI_1, Option.bind_some, Option.isSome_some, Option.toList, List.cons_append, List.nil_append, zclr_i, zclr_r, zclr_n, zfit_i, zfit_l, and_self, if_true, if_false]
        by_cases e9 : a.2 70 p = a.2 (16 + 7) p
        · simp only [e9, not_true, if_false, if_true]
          rw [show nI a.1 + 0 = nI (a.1 + 0) from nI_add _ 0]
          rfl
        · simp only [e9, not_false_eq_true, if_false, if_true, nI_1]
      · by_cases e9 : a.2 70 p = a.2 (16 + 7) p
        · have ht : td1 p a = a := by
            unfold td1
            rw [if_neg (fun hh => hh.2 e9)]
          rw [ht]
          refine ⟨by simp [e9], i2, ?_, i4, fun j hj => ?_⟩
          · have := i3.set7 (p := p) (x := a.2 (16 + 7) p) h12 h6 hp12
            rw [zu_self _ _ _ _ rfl] at this
            dsimp only
            rw [e9]
            exact this
          · dsimp only
            rw [fu_ne _ _ (by omega)]
            exact i5 j hj
        · have ht : td1 p a = (a.1 + 1, zu a.2 (16 + 7) p (a.2 70 p)) := by
            unfold td1
            rw [if_pos ⟨by rw [i2]; exact g1, e9⟩]
          rw [ht]
          refine ⟨by simp [e9], by dsimp only; rw [zu_far _ _ _ (by decide)]; exact i2, i3.set7 h12 h6 hp12, i4.row7 (fun j _ hj => zu_far _ _ _ (by omega)) (fun q hq => ?_), fun j hj => ?_⟩
          · dsimp only
            rw [zu_row]
            by_cases e3 : q = p
            · rw [if_pos e3, i2]
              exact .inr ⟨s, g3, g4⟩
            · rw [if_neg e3]
              exact i4.bears q hq
          · dsimp only
            rw [fu_ne _ _ (by omega)]
            exact i5 j hj
end RK
